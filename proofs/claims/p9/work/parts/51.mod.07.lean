set_option maxHeartbeats 4000000 in
set_option maxRecDepth 100000 in
theorem n_behindSum (l : Launch) (G : g5_G) (b_o b_tp b_op b_ar b_pi b_pa b_rf b_ro b_im b_ke b_nl b_ws b_hw b_se b_re b_pt b_ip b_ah b_be b_me b_tr b_ld b_wn : Nat) (sz : Nat) (u_th : Int32) (u_sa : Int32) (u_fd : Int32) (u_td : Int32) (u_fr : Int32) (u_to : Int32) (u_so : Int32) (u_fa : Int32) (u_bd : Int32) (u_nc : Int32) (u_co : Int32) (u_le : Int32) (u_pd : Int32) (u_od : Int32) (u_la : Int32) (u_bk : Int32) (u_ce : Int32) (u_ho : Int32) (u_wy : Int32) (u_bt : Int32) (u_ps : Int32) (u_tg : Int32) (u_sn : Int32) (u_ic : Int32) (u_wd : Int32) (u_id : Int32) (p_1 : Int32) (g_a : Int32) (u_wo : Int64) (u_va : Int64) (u_su : Int64) (u_st : Int64) (v_tp : Nat → Int32) (v_op : Nat → Int32) (v_ar : Nat → Int32) (v_pi : Nat → Int32) (v_pa : Nat → Int32) (g_op : Nat → Int32) (g_ar : Nat → Int32) (h_u_td : 0 ≤ u_td.toInt ∧ u_td.toInt ≤ 400) (h_u_fr : 0 ≤ u_fr.toInt ∧ u_fr.toInt ≤ 400) (h_u_to : 0 ≤ u_to.toInt ∧ u_to.toInt ≤ 400) (h_u_bd : 0 ≤ u_bd.toInt ∧ u_bd.toInt ≤ 0) (h_u_nc : 0 ≤ u_nc.toInt ∧ u_nc.toInt ≤ 12) (h_u_co : 0 ≤ u_co.toInt ∧ u_co.toInt ≤ 400) (h_u_pd : 0 ≤ u_pd.toInt ∧ u_pd.toInt ≤ 400) (h_u_la : 0 ≤ u_la.toInt ∧ u_la.toInt ≤ 4840) (h_u_bk : 0 ≤ u_bk.toInt ∧ u_bk.toInt ≤ 1) (h_u_ce : 0 ≤ u_ce.toInt ∧ u_ce.toInt ≤ 63) (h_u_ho : 0 ≤ u_ho.toInt ∧ u_ho.toInt ≤ 23) (h_u_wy : 0 ≤ u_wy.toInt ∧ u_wy.toInt ≤ 3) (h_u_bt : 0 ≤ u_bt.toInt ∧ u_bt.toInt ≤ 1000000) (h_u_ps : 0 ≤ u_ps.toInt ∧ u_ps.toInt ≤ 200) (h_u_ic : 0 ≤ u_ic.toInt ∧ u_ic.toInt ≤ 1) (h_u_id : 0 ≤ u_id.toInt ∧ u_id.toInt ≤ 1) (h_p_1 : 0 ≤ p_1.toInt ∧ p_1.toInt ≤ 1) (e_t : u_fr.toInt ≤ u_to.toInt ∧ u_to.toInt ≤ u_td.toInt) (e_s : TKs u_so.toInt u_fr.toInt u_to.toInt) (e_x : XJ g_op g_ar v_op v_ar v_pi v_pa g_a.toInt u_co.toInt u_pd.toInt u_fr.toInt) (e_j : TJ v_op v_ar v_pi v_pa g_a.toInt u_co.toInt u_pd.toInt 3) : Met l yX12_behindSum (wsG yX12_behindSum cX12_behindSum 4 (some .int)) ({ frames := 3, cells := 0, slots := 0, locals := 61 }) (va_Pc [.ref b_o, .int p_1] (g5_P G [(b_o, (oc12 u_th u_sa b_rf b_ro b_im b_ke u_fd b_tp u_td u_fr u_to u_so u_wo u_fa u_bd u_nc b_nl u_co b_op b_ar u_le b_pi b_pa u_pd u_od b_ws b_hw u_la b_se b_re u_bk u_va u_su u_ce u_ho u_wy u_bt u_ps b_pt u_tg u_sn b_ip u_ic b_ah b_be b_me u_wd b_tr b_ld u_st b_wn u_id)), (b_tp, (arI G 400 v_tp)), (b_op, (arI G 400 v_op)), (b_ar, (arI G 400 v_ar)), (b_pi, (arI G 400 v_pi)), (b_pa, (arI G 400 v_pa))] sz)) (va_Qi (fun (r : Int32) (u : va_W) => (∃ (o_r : Int32), (0 ≤ o_r.toInt ∧ o_r.toInt ≤ 4) ∧ (r = o_r) ∧ (u = [(b_o, (oc12 u_th u_sa b_rf b_ro b_im b_ke u_fd b_tp u_td u_fr u_to u_so u_wo u_fr 1 u_nc b_nl u_co b_op b_ar u_le b_pi b_pa u_pd u_od b_ws b_hw u_la b_se b_re u_bk u_va u_su u_ce u_ho u_wy u_bt u_ps b_pt u_tg u_sn b_ip u_ic b_ah b_be b_me u_wd b_tr b_ld u_st b_wn u_id)), (b_tp, (arI G 400 v_tp)), (b_op, (arI G 400 v_op)), (b_ar, (arI G 400 v_ar)), (b_pi, (arI G 400 v_pi)), (b_pa, (arI G 400 v_pa))])) ∨ (∃ (o_r : Int32) (o_fr : Int32) (o_to : Int32) (o_so : Int32) (o_wo : Int64) (o_co : Int32) (o_pd : Int32) (o_od : Int32) (o_op : Nat → Int32) (o_ar : Nat → Int32) (o_pi : Nat → Int32) (o_pa : Nat → Int32), (0 ≤ o_fr.toInt ∧ o_fr.toInt ≤ 400) ∧ (0 ≤ o_to.toInt ∧ o_to.toInt ≤ 400) ∧ (0 ≤ o_co.toInt ∧ o_co.toInt ≤ 400) ∧ (0 ≤ o_pd.toInt ∧ o_pd.toInt ≤ 400) ∧ (0 ≤ o_r.toInt ∧ o_r.toInt ≤ 4) ∧ (u_fr.toInt ≤ o_fr.toInt ∧ o_fr.toInt ≤ o_to.toInt ∧ o_to.toInt ≤ u_td.toInt) ∧ (TKs o_so.toInt o_fr.toInt o_to.toInt) ∧ (XJ g_op g_ar o_op o_ar o_pi o_pa g_a.toInt o_co.toInt o_pd.toInt o_fr.toInt) ∧ (TJ o_op o_ar o_pi o_pa g_a.toInt o_co.toInt o_pd.toInt o_r.toInt) ∧ (twt o_r.toInt + 1 ≤ 2 + 3 * (o_fr.toInt - u_fr.toInt)) ∧ (r = o_r) ∧ (u = [(b_o, (oc12 u_th u_sa b_rf b_ro b_im b_ke u_fd b_tp u_td o_fr o_to o_so o_wo u_fa u_bd u_nc b_nl o_co b_op b_ar u_le b_pi b_pa o_pd o_od b_ws b_hw u_la b_se b_re u_bk u_va u_su u_ce u_ho u_wy u_bt u_ps b_pt u_tg u_sn b_ip u_ic b_ah b_be b_me u_wd b_tr b_ld u_st b_wn u_id)), (b_tp, (arI G 400 v_tp)), (b_op, (arI G 400 o_op)), (b_ar, (arI G 400 o_ar)), (b_pi, (arI G 400 o_pi)), (b_pa, (arI G 400 o_pa))]))) (g5_B G (va_A [(b_o, (oc12 u_th u_sa b_rf b_ro b_im b_ke u_fd b_tp u_td u_fr u_to u_so u_wo u_fa u_bd u_nc b_nl u_co b_op b_ar u_le b_pi b_pa u_pd u_od b_ws b_hw u_la b_se b_re u_bk u_va u_su u_ce u_ho u_wy u_bt u_ps b_pt u_tg u_sn b_ip u_ic b_ah b_be b_me u_wd b_tr b_ld u_st b_wn u_id)), (b_tp, (arI G 400 v_tp)), (b_op, (arI G 400 v_op)), (b_ar, (arI G 400 v_ar)), (b_pi, (arI G 400 v_pi)), (b_pa, (arI G 400 v_pa))] sz)) (va_A [(b_o, (oc12 u_th u_sa b_rf b_ro b_im b_ke u_fd b_tp u_td u_fr u_to u_so u_wo u_fa u_bd u_nc b_nl u_co b_op b_ar u_le b_pi b_pa u_pd u_od b_ws b_hw u_la b_se b_re u_bk u_va u_su u_ce u_ho u_wy u_bt u_ps b_pt u_tg u_sn b_ip u_ic b_ah b_be b_me u_wd b_tr b_ld u_st b_wn u_id)), (b_tp, (arI G 400 v_tp)), (b_op, (arI G 400 v_op)), (b_ar, (arI G 400 v_ar)), (b_pi, (arI G 400 v_pi)), (b_pa, (arI G 400 v_pa))] sz)) 0 0 (va_A [(b_o, (oc12 u_th u_sa b_rf b_ro b_im b_ke u_fd b_tp u_td u_fr u_to u_so u_wo u_fa u_bd u_nc b_nl u_co b_op b_ar u_le b_pi b_pa u_pd u_od b_ws b_hw u_la b_se b_re u_bk u_va u_su u_ce u_ho u_wy u_bt u_ps b_pt u_tg u_sn b_ip u_ic b_ah b_be b_me u_wd b_tr b_ld u_st b_wn u_id)), (b_tp, (arI G 400 v_tp)), (b_op, (arI G 400 v_op)), (b_ar, (arI G 400 v_ar)), (b_pi, (arI G 400 v_pi)), (b_pa, (arI G 400 v_pa))] sz) := by
  refine Met.ofW (cc := cX12_behindSum) (maxL := 4) (ret := (some .int)) (by decide) rfl ?_
  intro p e s m args below meth c s₁ B hml hv
  obtain ⟨rfl, hsz, hP, hK, hD0, hN, hT⟩ := hv
  have hx := B.exec
  have hb := B.bytes
  have hr := B.returns
  have hts : ∀ w ∈ tblG, w.before _ s = true := fun w h => atoms_spec (ws := (wsG yX12_behindSum cX12_behindSum 4 (some .int))) B.pre w (List.mem_cons_of_mem _ h)
  have hown : s.vm.findClass RX12 = some m.cls := findClass_of_methodNamed B.named
  have hlocks := B.notSynchronized
  subst hsz
  have hD := hD0.self (sz := s.heap.size)
  generalize hAe : va_A [(b_o, (oc12 u_th u_sa b_rf b_ro b_im b_ke u_fd b_tp u_td u_fr u_to u_so u_wo u_fa u_bd u_nc b_nl u_co b_op b_ar u_le b_pi b_pa u_pd u_od b_ws b_hw u_la b_se b_re u_bk u_va u_su u_ce u_ho u_wy u_bt u_ps b_pt u_tg u_sn b_ip u_ic b_ah b_be b_me u_wd b_tr b_ld u_st b_wn u_id)), (b_tp, (arI G 400 v_tp)), (b_op, (arI G 400 v_op)), (b_ar, (arI G 400 v_ar)), (b_pi, (arI G 400 v_pi)), (b_pa, (arI G 400 v_pa))] s.heap.size = A at hD hT ⊢
  have hA : ∀ q : Nat, s.heap.size ≤ q → A q := fun q h => by rw [← hAe]; exact Or.inr h
  have hS : va_S A s.heap s.heap [] := va_S.rf
  have hP : va_P G.1 vwCl [(b_o, (oc12 u_th u_sa b_rf b_ro b_im b_ke u_fd b_tp u_td u_fr u_to u_so u_wo u_fa u_bd u_nc b_nl u_co b_op b_ar u_le b_pi b_pa u_pd u_od b_ws b_hw u_la b_se b_re u_bk u_va u_su u_ce u_ho u_wy u_bt u_ps b_pt u_tg u_sn b_ip u_ic b_ah b_be b_me u_wd b_tr b_ld u_st b_wn u_id)), (b_tp, (arI G 400 v_tp)), (b_op, (arI G 400 v_op)), (b_ar, (arI G 400 v_ar)), (b_pi, (arI G 400 v_pi)), (b_pa, (arI G 400 v_pa))] s.heap := hP
  have hl := lv_entry ([.ref b_o, .int p_1]) (n := 4) (Nat.le_of_ble_eq_true rfl)
  rw [lg_entry_eq]
  generalize (lg_sl ([.ref b_o, .int p_1]) ++ List.replicate (4 - (lg_sl ([.ref b_o, .int p_1])).length) Slot.unset).toArray = ls at hl ⊢
  have hl : lv_has ls 4 [(0, .ref b_o), (1, .int p_1)] := hl
  have hmf9 := xj_mf e_x
  refine lv_aload_n hx hb dX12_behindSum_0 rfl (lv_at hl 0 rfl) ?_
  refine lv_bipush (v := 43) hx hb dX12_behindSum_1 (by decide) ?_
  obtain ⟨hPc, hDc, hFc⟩ := g5_sub3 (wc := [(b_o, (oc12 u_th u_sa b_rf b_ro b_im b_ke u_fd b_tp u_td u_fr u_to u_so u_wo u_fa u_bd u_nc b_nl u_co b_op b_ar u_le b_pi b_pa u_pd u_od b_ws b_hw u_la b_se b_re u_bk u_va u_su u_ce u_ho u_wy u_bt u_ps b_pt u_tg u_sn b_ip u_ic b_ah b_be b_me u_wd b_tr b_ld u_st b_wn u_id))]) hP hD hS hA [0] (by decide) rfl
  refine va_calli (va_runV (As := [.int 43]) (rest := []) ⟨hx, hb, hml, hown, hts⟩ (n_isSign l G b_o b_rf b_ro b_im b_ke b_tp b_nl b_op b_ar b_pi b_pa b_ws b_hw b_se b_re b_pt b_ip b_ah b_be b_me b_tr b_ld b_wn s.heap.size u_th u_sa u_fd u_td u_fr u_to u_so u_fa u_bd u_nc u_co u_le u_pd u_od u_la u_bk u_ce u_ho u_wy u_bt u_ps u_tg u_sn u_ic u_wd u_id 43 u_wo u_va u_su u_st h_u_td h_u_fr h_u_to ⟨by omega, by omega⟩ h_u_nc h_u_co h_u_pd h_u_la h_u_bk h_u_ce h_u_ho h_u_wy h_u_bt h_u_ps h_u_ic h_u_id) (cwV 1 hts gV_X12_267 rfl rfl rfl hv_X12_isSign ⟨Nat.le_of_ble_eq_true rfl, Nat.le_of_ble_eq_true rfl⟩) (g5_preV hPc hK hDc hN hT hS hFc (ci := 12) (q0 := 0) rfl rfl) rfl rfl hl.1 rfl (lv_room (Nat.le_of_ble_eq_true rfl)) dX12_behindSum_3 ⟨Nat.le_of_ble_eq_true rfl, Nat.le_of_ble_eq_true rfl⟩) hS (fun q _ h => hFc q h) hFc (fun r u t H1 locs ht hvm hw hB hz1 hk1 hS => ?_)
  obtain ⟨hP1, hD1⟩ := hB
  rw [ht] at hP1
  rcases hw with ⟨i_1, rfl, rfl⟩ | ⟨rfl, rfl⟩
  ·
    have i_1 : u_so.toInt = 3 := i_1
    obtain ⟨hP, hD⟩ := va_join (wr := [(b_tp, (arI G 400 v_tp)), (b_op, (arI G 400 v_op)), (b_ar, (arI G 400 v_ar)), (b_pi, (arI G 400 v_pi)), (b_pa, (arI G 400 v_pa))]) hP hD [0] [1, 2, 3, 4, 5] rfl rfl (by decide) (by decide) hk1 hFc hP1 hD1
    generalize H1 = H at hP hS ⊢
    refine g5_rs [(b_tp, (arI G 400 v_tp)), (b_op, (arI G 400 v_op)), (b_ar, (arI G 400 v_ar)), (b_pi, (arI G 400 v_pi)), (b_pa, (arI G 400 v_pa)), (b_o, (oc12 u_th u_sa b_rf b_ro b_im b_ke u_fd b_tp u_td u_fr u_to u_so u_wo u_fa u_bd u_nc b_nl u_co b_op b_ar u_le b_pi b_pa u_pd u_od b_ws b_hw u_la b_se b_re u_bk u_va u_su u_ce u_ho u_wy u_bt u_ps b_pt u_tg u_sn b_ip u_ic b_ah b_be b_me u_wd b_tr b_ld u_st b_wn u_id))] hP hD (fun hP hD => ?_)
    refine lv_if_eq (tgt := 14) hx hb dX12_behindSum_6 (by decide) (fun c_2 => ?_) (fun c_2 => ?_)
    ·
      exact absurd c_2 (by decide)
    ·
      refine lv_bipush (v := 20) hx hb dX12_behindSum_9 (by decide) ?_
      refine lv_goto (tgt := 57) hx hb dX12_behindSum_11 (by decide) ?_
      refine lv_istore_n (lv' := [(2, .int 20), (0, .ref b_o), (1, .int p_1)]) hx hb dX12_behindSum_57 rfl hl (by decide) rfl (fun ls hl => ?_)
      refine lv_iload_n hx hb dX12_behindSum_58 rfl (lv_at hl 0 rfl) ?_
      refine lv_iconst (v := (-1)) hx hb dX12_behindSum_59 (by decide) ?_
      refine lv_icmp_eq (tgt := 83) hx hb dX12_behindSum_60 (by decide) (fun c_3 => ?_) (fun c_3 => ?_)
      ·
        exact absurd c_3 (by decide)
      ·
        have hlt9 : u_fr.toInt < u_to.toInt := tks_lt e_s (by omega)
        have hE_4 : HJ v_op v_ar v_pi v_pa g_a.toInt u_co.toInt u_pd.toInt 1 := tj_d1 e_j (by decide)
        refine lv_aload_n hx hb dX12_behindSum_63 rfl (lv_at hl 1 rfl) ?_
        refine lv_iload_n hx hb dX12_behindSum_64 rfl (lv_at hl 0 rfl) ?_
        obtain ⟨hPc, hDc, hFc⟩ := g5_sub3 (wc := []) hP hD hS hA [] (by decide) rfl
        refine va_calli (va_runS (As := [.int 20]) (rest := [.ref b_o]) ⟨hx, hb, hml, hown, hts⟩ (n_binds20 l G H.size) (va_cwS 1 hts gS_X12_243 rfl rfl rfl hs_X12_binds ⟨Nat.le_of_ble_eq_true rfl, Nat.le_of_ble_eq_true rfl⟩) (g5_preS hPc hK hDc hN hT hS hFc) rfl rfl hl.1 rfl (lv_room (Nat.le_of_ble_eq_true rfl)) dX12_behindSum_65 ⟨Nat.le_of_ble_eq_true rfl, Nat.le_of_ble_eq_true rfl⟩) hS (fun q _ h => hFc q h) hFc (fun r u t H1 locs ht hvm hw hB hz1 hk1 hS => ?_)
        obtain ⟨hP1, hD1⟩ := hB
        rw [ht] at hP1
        obtain ⟨rfl, rfl⟩ := hw
        have hP := g5_same hP hk1
        generalize H1 = H at hP hS ⊢
        obtain ⟨hPc, hDc, hFc⟩ := g5_sub3 (wc := [(b_o, (oc12 u_th u_sa b_rf b_ro b_im b_ke u_fd b_tp u_td u_fr u_to u_so u_wo u_fa u_bd u_nc b_nl u_co b_op b_ar u_le b_pi b_pa u_pd u_od b_ws b_hw u_la b_se b_re u_bk u_va u_su u_ce u_ho u_wy u_bt u_ps b_pt u_tg u_sn b_ip u_ic b_ah b_be b_me u_wd b_tr b_ld u_st b_wn u_id)), (b_op, (arI G 400 v_op)), (b_ar, (arI G 400 v_ar)), (b_pi, (arI G 400 v_pi)), (b_pa, (arI G 400 v_pa))]) hP hD hS hA [5, 1, 2, 3, 4] (by decide) rfl
        refine va_callv (va_runV (As := [.int 5]) (rest := []) ⟨hx, hb, hml, hown, hts⟩ (n_settleH l G b_o b_op b_ar b_pi b_pa b_rf b_ro b_im b_ke b_tp b_nl b_ws b_hw b_se b_re b_pt b_ip b_ah b_be b_me b_tr b_ld b_wn H.size u_th u_sa u_fd u_td u_fr u_to u_so u_fa u_bd u_nc u_co u_le u_pd u_od u_la u_bk u_ce u_ho u_wy u_bt u_ps u_tg u_sn u_ic u_wd u_id 5 g_a u_fr u_wo u_va u_su u_st v_op v_ar v_pi v_pa g_op g_ar h_u_td h_u_fr h_u_to ⟨by omega, by omega⟩ h_u_nc h_u_co h_u_pd h_u_la h_u_bk h_u_ce h_u_ho h_u_wy h_u_bt h_u_ps h_u_ic h_u_id ⟨by decide, by decide⟩ (by omega) (e_x) (hE_4)) (cwV 1 hts gV_X12_288 rfl rfl rfl hv_X12_settle ⟨Nat.le_of_ble_eq_true rfl, Nat.le_of_ble_eq_true rfl⟩) (g5_preV hPc hK hDc hN hT hS hFc (ci := 12) (q0 := 0) rfl rfl) rfl rfl hl.1 rfl (lv_room (Nat.le_of_ble_eq_true rfl)) dX12_behindSum_68 ⟨Nat.le_of_ble_eq_true rfl, Nat.le_of_ble_eq_true rfl⟩) hS (fun q _ h => hFc q h) hFc (fun u t H1 locs ht hvm hw hB hz1 hk1 hS => ?_)
        obtain ⟨hP1, hD1⟩ := hB
        rw [ht] at hP1
        obtain ⟨z12, z13, z14, z15, i_5, i_6, i_7, i_8, i_9, i_10, i_11, rfl⟩ := hw
        have i_5 : 0 ≤ z12.toInt ∧ z12.toInt ≤ 400 := i_5
        have i_6 : 0 ≤ z13.toInt ∧ z13.toInt ≤ 400 := i_6
        have i_7 : XJ g_op g_ar z14 z15 v_pi v_pa g_a.toInt z12.toInt z13.toInt u_fr.toInt := i_7
        have i_8 : HJ z14 z15 v_pi v_pa g_a.toInt z12.toInt z13.toInt 1 := i_8
        have i_9 : S1 v_pi u_pd.toInt z13.toInt := i_9
        have i_10 : S2 v_pi z13.toInt (5 : Int32).toInt := i_10
        have i_11 : z13.toInt ≤ u_pd.toInt := i_11
        obtain ⟨hP, hD⟩ := va_join (wr := [(b_tp, (arI G 400 v_tp))]) hP hD [5, 1, 2, 3, 4] [0] rfl rfl (by decide) (by decide) hk1 hFc hP1 hD1
        generalize H1 = H at hP hS ⊢
        refine g5_rs [(b_tp, (arI G 400 v_tp)), (b_o, (oc12 u_th u_sa b_rf b_ro b_im b_ke u_fd b_tp u_td u_fr u_to u_so u_wo u_fa u_bd u_nc b_nl z12 b_op b_ar u_le b_pi b_pa z13 u_od b_ws b_hw u_la b_se b_re u_bk u_va u_su u_ce u_ho u_wy u_bt u_ps b_pt u_tg u_sn b_ip u_ic b_ah b_be b_me u_wd b_tr b_ld u_st b_wn u_id)), (b_op, (arI G 400 z14)), (b_ar, (arI G 400 z15)), (b_pi, (arI G 400 v_pi)), (b_pa, (arI G 400 v_pa))] hP hD (fun hP hD => ?_)
        have hmf8 := xj_mf i_7
        refine lv_aload_n hx hb dX12_behindSum_71 rfl (lv_at hl 1 rfl) ?_
        refine lv_iload_n hx hb dX12_behindSum_72 rfl (lv_at hl 0 rfl) ?_
        refine lv_iconst (v := 0) hx hb dX12_behindSum_73 (by decide) ?_
        obtain ⟨hPc, hDc, hFc⟩ := g5_sub3 (wc := [(b_o, (oc12 u_th u_sa b_rf b_ro b_im b_ke u_fd b_tp u_td u_fr u_to u_so u_wo u_fa u_bd u_nc b_nl z12 b_op b_ar u_le b_pi b_pa z13 u_od b_ws b_hw u_la b_se b_re u_bk u_va u_su u_ce u_ho u_wy u_bt u_ps b_pt u_tg u_sn b_ip u_ic b_ah b_be b_me u_wd b_tr b_ld u_st b_wn u_id)), (b_pi, (arI G 400 v_pi)), (b_pa, (arI G 400 v_pa))]) hP hD hS hA [1, 4, 5] (by decide) rfl
        refine va_callv (va_runV (As := [.int 20, .int 0]) (rest := []) ⟨hx, hb, hml, hown, hts⟩ (n_push l G b_o b_pi b_pa b_rf b_ro b_im b_ke b_tp b_nl b_op b_ar b_ws b_hw b_se b_re b_pt b_ip b_ah b_be b_me b_tr b_ld b_wn H.size u_th u_sa u_fd u_td u_fr u_to u_so u_fa u_bd u_nc z12 u_le z13 u_od u_la u_bk u_ce u_ho u_wy u_bt u_ps u_tg u_sn u_ic u_wd u_id 20 0 u_wo u_va u_su u_st v_pi v_pa h_u_td h_u_fr h_u_to ⟨by omega, by omega⟩ h_u_nc i_5 i_6 h_u_la h_u_bk h_u_ce h_u_ho h_u_wy h_u_bt h_u_ps h_u_ic h_u_id (by omega)) (cwV 2 hts gV_X12_261 rfl rfl rfl hv_X12_push ⟨Nat.le_of_ble_eq_true rfl, Nat.le_of_ble_eq_true rfl⟩) (g5_preV hPc hK hDc hN hT hS hFc (ci := 12) (q0 := 0) rfl rfl) rfl rfl hl.1 rfl (lv_room (Nat.le_of_ble_eq_true rfl)) dX12_behindSum_74 ⟨Nat.le_of_ble_eq_true rfl, Nat.le_of_ble_eq_true rfl⟩) hS (fun q _ h => hFc q h) hFc (fun u t H1 locs ht hvm hw hB hz1 hk1 hS => ?_)
        obtain ⟨hP1, hD1⟩ := hB
        rw [ht] at hP1
        obtain ⟨z18, i_16, i_17, rfl⟩ := hw
        have i_16 : 0 ≤ z18.toInt ∧ z18.toInt ≤ 400 := i_16
        have i_17 : z18.toInt = z13.toInt + 1 := i_17
        obtain ⟨hP, hD⟩ := va_join (wr := [(b_tp, (arI G 400 v_tp)), (b_op, (arI G 400 z14)), (b_ar, (arI G 400 z15))]) hP hD [1, 4, 5] [0, 2, 3] rfl rfl (by decide) (by decide) hk1 hFc hP1 hD1
        generalize H1 = H at hP hS ⊢
        refine g5_rs [(b_tp, (arI G 400 v_tp)), (b_op, (arI G 400 z14)), (b_ar, (arI G 400 z15)), (b_o, (oc12 u_th u_sa b_rf b_ro b_im b_ke u_fd b_tp u_td u_fr u_to u_so u_wo u_fa u_bd u_nc b_nl z12 b_op b_ar u_le b_pi b_pa z18 u_od b_ws b_hw u_la b_se b_re u_bk u_va u_su u_ce u_ho u_wy u_bt u_ps b_pt u_tg u_sn b_ip u_ic b_ah b_be b_me u_wd b_tr b_ld u_st b_wn u_id)), (b_pi, (arI G 400 (upd v_pi z13.toNatClampNeg 20))), (b_pa, (arI G 400 (upd v_pa z13.toNatClampNeg 0)))] hP hD (fun hP hD => ?_)
        refine lv_aload_n hx hb dX12_behindSum_77 rfl (lv_at hl 1 rfl) ?_
        obtain ⟨hPc, hDc, hFc⟩ := g5_sub3 (wc := [(b_o, (oc12 u_th u_sa b_rf b_ro b_im b_ke u_fd b_tp u_td u_fr u_to u_so u_wo u_fa u_bd u_nc b_nl z12 b_op b_ar u_le b_pi b_pa z18 u_od b_ws b_hw u_la b_se b_re u_bk u_va u_su u_ce u_ho u_wy u_bt u_ps b_pt u_tg u_sn b_ip u_ic b_ah b_be b_me u_wd b_tr b_ld u_st b_wn u_id)), (b_tp, (arI G 400 v_tp))]) hP hD hS hA [3, 0] (by decide) rfl
        refine va_callv (va_runV (As := []) (rest := []) ⟨hx, hb, hml, hown, hts⟩ (n_next l G b_o b_tp b_rf b_ro b_im b_ke b_nl b_op b_ar b_pi b_pa b_ws b_hw b_se b_re b_pt b_ip b_ah b_be b_me b_tr b_ld b_wn H.size u_th u_sa u_fd u_td u_fr u_to u_so u_fa u_bd u_nc z12 u_le z18 u_od u_la u_bk u_ce u_ho u_wy u_bt u_ps u_tg u_sn u_ic u_wd u_id u_wo u_va u_su u_st v_tp h_u_td h_u_fr h_u_to ⟨by omega, by omega⟩ h_u_nc i_5 i_16 h_u_la h_u_bk h_u_ce h_u_ho h_u_wy h_u_bt h_u_ps h_u_ic h_u_id (by omega)) (cwV 0 hts gV_X12_208 rfl rfl rfl hv_X12_next ⟨Nat.le_of_ble_eq_true rfl, Nat.le_of_ble_eq_true rfl⟩) (g5_preV hPc hK hDc hN hT hS hFc (ci := 12) (q0 := 0) rfl rfl) rfl rfl hl.1 rfl (lv_room (Nat.le_of_ble_eq_true rfl)) dX12_behindSum_78 ⟨Nat.le_of_ble_eq_true rfl, Nat.le_of_ble_eq_true rfl⟩) hS (fun q _ h => hFc q h) hFc (fun u t H1 locs ht hvm hw hB hz1 hk1 hS => ?_)
        obtain ⟨hP1, hD1⟩ := hB
        rw [ht] at hP1
        obtain ⟨z23, z24, z25, z26, i_19, i_20, i_21, i_22, rfl⟩ := hw
        have i_19 : 0 ≤ z23.toInt ∧ z23.toInt ≤ 400 := i_19
        have i_20 : 0 ≤ z24.toInt ∧ z24.toInt ≤ 400 := i_20
        have i_21 : u_to.toInt ≤ z23.toInt ∧ z23.toInt ≤ z24.toInt ∧ z24.toInt ≤ u_td.toInt := i_21
        have i_22 : TKs z25.toInt z23.toInt z24.toInt := i_22
        obtain ⟨hP, hD⟩ := va_join (wr := [(b_op, (arI G 400 z14)), (b_ar, (arI G 400 z15)), (b_pi, (arI G 400 (upd v_pi z13.toNatClampNeg 20))), (b_pa, (arI G 400 (upd v_pa z13.toNatClampNeg 0)))]) hP hD [3, 0] [1, 2, 4, 5] rfl rfl (by decide) (by decide) hk1 hFc hP1 hD1
        generalize H1 = H at hP hS ⊢
        refine g5_rs [(b_op, (arI G 400 z14)), (b_ar, (arI G 400 z15)), (b_pi, (arI G 400 (upd v_pi z13.toNatClampNeg 20))), (b_pa, (arI G 400 (upd v_pa z13.toNatClampNeg 0))), (b_o, (oc12 u_th u_sa b_rf b_ro b_im b_ke u_fd b_tp u_td z23 z24 z25 z26 u_fa u_bd u_nc b_nl z12 b_op b_ar u_le b_pi b_pa z18 u_od b_ws b_hw u_la b_se b_re u_bk u_va u_su u_ce u_ho u_wy u_bt u_ps b_pt u_tg u_sn b_ip u_ic b_ah b_be b_me u_wd b_tr b_ld u_st b_wn u_id)), (b_tp, (arI G 400 v_tp))] hP hD (fun hP hD => ?_)
        refine lv_iconst (v := 1) hx hb dX12_behindSum_81 (by decide) ?_
        exact W.iret (v := 1) hx hb hr (fun t ht hW => ⟨⟨1, [(b_o, (oc12 u_th u_sa b_rf b_ro b_im b_ke u_fd b_tp u_td z23 z24 z25 z26 u_fa u_bd u_nc b_nl z12 b_op b_ar u_le b_pi b_pa z18 u_od b_ws b_hw u_la b_se b_re u_bk u_va u_su u_ce u_ho u_wy u_bt u_ps b_pt u_tg u_sn b_ip u_ic b_ah b_be b_me u_wd b_tr b_ld u_st b_wn u_id)), (b_tp, (arI G 400 v_tp)), (b_op, (arI G 400 z14)), (b_ar, (arI G 400 z15)), (b_pi, (arI G 400 (upd v_pi z13.toNatClampNeg 20))), (b_pa, (arI G 400 (upd v_pa z13.toNatClampNeg 0)))], rfl, Or.inr (⟨1, z23, z24, z25, z26, z12, z18, u_od, z14, z15, (upd v_pi z13.toNatClampNeg 20), (upd v_pa z13.toNatClampNeg 0), i_19, i_20, i_5, i_16, ⟨by have zc_o_r : (1 : Int32).toInt = 1 := (by decide); omega, by have zc_o_r : (1 : Int32).toInt = 1 := (by decide); omega⟩, by omega, i_22, xj_push i_7 (by omega) (by omega) ⟨by decide, by decide⟩ (Or.inl (by decide)), tj_1 (hj_push2 i_8 (by omega) (by omega) ⟨by decide, by decide⟩ (Or.inl (by decide))) (by decide), by have w9 := (twt_0 (by decide) : twt (1 : Int32).toInt = 0); omega, rfl, rfl⟩), by rw [ht]; exact hP.sub [4, 5, 0, 1, 2, 3] rfl, hD.sub [4, 5, 0, 1, 2, 3] (by decide) rfl⟩, hS.F ht⟩) hS.2.2 dX12_behindSum_82
  ·
    obtain ⟨hP, hD⟩ := va_join (wr := [(b_tp, (arI G 400 v_tp)), (b_op, (arI G 400 v_op)), (b_ar, (arI G 400 v_ar)), (b_pi, (arI G 400 v_pi)), (b_pa, (arI G 400 v_pa))]) hP hD [0] [1, 2, 3, 4, 5] rfl rfl (by decide) (by decide) hk1 hFc hP1 hD1
    generalize H1 = H at hP hS ⊢
    refine g5_rs [(b_tp, (arI G 400 v_tp)), (b_op, (arI G 400 v_op)), (b_ar, (arI G 400 v_ar)), (b_pi, (arI G 400 v_pi)), (b_pa, (arI G 400 v_pa)), (b_o, (oc12 u_th u_sa b_rf b_ro b_im b_ke u_fd b_tp u_td u_fr u_to u_so u_wo u_fa u_bd u_nc b_nl u_co b_op b_ar u_le b_pi b_pa u_pd u_od b_ws b_hw u_la b_se b_re u_bk u_va u_su u_ce u_ho u_wy u_bt u_ps b_pt u_tg u_sn b_ip u_ic b_ah b_be b_me u_wd b_tr b_ld u_st b_wn u_id))] hP hD (fun hP hD => ?_)
    refine lv_if_eq (tgt := 14) hx hb dX12_behindSum_6 (by decide) (fun c_27 => ?_) (fun c_27 => ?_)
    ·
      refine lv_aload_n hx hb dX12_behindSum_14 rfl (lv_at hl 0 rfl) ?_
      refine lv_bipush (v := 45) hx hb dX12_behindSum_15 (by decide) ?_
      obtain ⟨hPc, hDc, hFc⟩ := g5_sub3 (wc := [(b_o, (oc12 u_th u_sa b_rf b_ro b_im b_ke u_fd b_tp u_td u_fr u_to u_so u_wo u_fa u_bd u_nc b_nl u_co b_op b_ar u_le b_pi b_pa u_pd u_od b_ws b_hw u_la b_se b_re u_bk u_va u_su u_ce u_ho u_wy u_bt u_ps b_pt u_tg u_sn b_ip u_ic b_ah b_be b_me u_wd b_tr b_ld u_st b_wn u_id))]) hP hD hS hA [5] (by decide) rfl
      refine va_calli (va_runV (As := [.int 45]) (rest := []) ⟨hx, hb, hml, hown, hts⟩ (n_isSign l G b_o b_rf b_ro b_im b_ke b_tp b_nl b_op b_ar b_pi b_pa b_ws b_hw b_se b_re b_pt b_ip b_ah b_be b_me b_tr b_ld b_wn H.size u_th u_sa u_fd u_td u_fr u_to u_so u_fa u_bd u_nc u_co u_le u_pd u_od u_la u_bk u_ce u_ho u_wy u_bt u_ps u_tg u_sn u_ic u_wd u_id 45 u_wo u_va u_su u_st h_u_td h_u_fr h_u_to ⟨by omega, by omega⟩ h_u_nc h_u_co h_u_pd h_u_la h_u_bk h_u_ce h_u_ho h_u_wy h_u_bt h_u_ps h_u_ic h_u_id) (cwV 1 hts gV_X12_267 rfl rfl rfl hv_X12_isSign ⟨Nat.le_of_ble_eq_true rfl, Nat.le_of_ble_eq_true rfl⟩) (g5_preV hPc hK hDc hN hT hS hFc (ci := 12) (q0 := 0) rfl rfl) rfl rfl hl.1 rfl (lv_room (Nat.le_of_ble_eq_true rfl)) dX12_behindSum_17 ⟨Nat.le_of_ble_eq_true rfl, Nat.le_of_ble_eq_true rfl⟩) hS (fun q _ h => hFc q h) hFc (fun r u t H1 locs ht hvm hw hB hz1 hk1 hS => ?_)
      obtain ⟨hP1, hD1⟩ := hB
      rw [ht] at hP1
      rcases hw with ⟨i_28, rfl, rfl⟩ | ⟨rfl, rfl⟩
      ·
        have i_28 : u_so.toInt = 3 := i_28
        obtain ⟨hP, hD⟩ := va_join (wr := [(b_tp, (arI G 400 v_tp)), (b_op, (arI G 400 v_op)), (b_ar, (arI G 400 v_ar)), (b_pi, (arI G 400 v_pi)), (b_pa, (arI G 400 v_pa))]) hP hD [5] [0, 1, 2, 3, 4] rfl rfl (by decide) (by decide) hk1 hFc hP1 hD1
        generalize H1 = H at hP hS ⊢
        refine g5_rs [(b_tp, (arI G 400 v_tp)), (b_op, (arI G 400 v_op)), (b_ar, (arI G 400 v_ar)), (b_pi, (arI G 400 v_pi)), (b_pa, (arI G 400 v_pa)), (b_o, (oc12 u_th u_sa b_rf b_ro b_im b_ke u_fd b_tp u_td u_fr u_to u_so u_wo u_fa u_bd u_nc b_nl u_co b_op b_ar u_le b_pi b_pa u_pd u_od b_ws b_hw u_la b_se b_re u_bk u_va u_su u_ce u_ho u_wy u_bt u_ps b_pt u_tg u_sn b_ip u_ic b_ah b_be b_me u_wd b_tr b_ld u_st b_wn u_id))] hP hD (fun hP hD => ?_)
        refine lv_if_eq (tgt := 28) hx hb dX12_behindSum_20 (by decide) (fun c_29 => ?_) (fun c_29 => ?_)
        ·
          exact absurd c_29 (by decide)
        ·
          refine lv_bipush (v := 21) hx hb dX12_behindSum_23 (by decide) ?_
          refine lv_goto (tgt := 57) hx hb dX12_behindSum_25 (by decide) ?_
          refine lv_istore_n (lv' := [(2, .int 21), (0, .ref b_o), (1, .int p_1)]) hx hb dX12_behindSum_57 rfl hl (by decide) rfl (fun ls hl => ?_)
          refine lv_iload_n hx hb dX12_behindSum_58 rfl (lv_at hl 0 rfl) ?_
          refine lv_iconst (v := (-1)) hx hb dX12_behindSum_59 (by decide) ?_
          refine lv_icmp_eq (tgt := 83) hx hb dX12_behindSum_60 (by decide) (fun c_30 => ?_) (fun c_30 => ?_)
          ·
            exact absurd c_30 (by decide)
          ·
            have hlt9 : u_fr.toInt < u_to.toInt := tks_lt e_s (by omega)
            have hE_31 : HJ v_op v_ar v_pi v_pa g_a.toInt u_co.toInt u_pd.toInt 1 := tj_d1 e_j (by decide)
            refine lv_aload_n hx hb dX12_behindSum_63 rfl (lv_at hl 1 rfl) ?_
            refine lv_iload_n hx hb dX12_behindSum_64 rfl (lv_at hl 0 rfl) ?_
            obtain ⟨hPc, hDc, hFc⟩ := g5_sub3 (wc := []) hP hD hS hA [] (by decide) rfl
            refine va_calli (va_runS (As := [.int 21]) (rest := [.ref b_o]) ⟨hx, hb, hml, hown, hts⟩ (n_binds21 l G H.size) (va_cwS 1 hts gS_X12_243 rfl rfl rfl hs_X12_binds ⟨Nat.le_of_ble_eq_true rfl, Nat.le_of_ble_eq_true rfl⟩) (g5_preS hPc hK hDc hN hT hS hFc) rfl rfl hl.1 rfl (lv_room (Nat.le_of_ble_eq_true rfl)) dX12_behindSum_65 ⟨Nat.le_of_ble_eq_true rfl, Nat.le_of_ble_eq_true rfl⟩) hS (fun q _ h => hFc q h) hFc (fun r u t H1 locs ht hvm hw hB hz1 hk1 hS => ?_)
            obtain ⟨hP1, hD1⟩ := hB
            rw [ht] at hP1
            obtain ⟨rfl, rfl⟩ := hw
            have hP := g5_same hP hk1
            generalize H1 = H at hP hS ⊢
            obtain ⟨hPc, hDc, hFc⟩ := g5_sub3 (wc := [(b_o, (oc12 u_th u_sa b_rf b_ro b_im b_ke u_fd b_tp u_td u_fr u_to u_so u_wo u_fa u_bd u_nc b_nl u_co b_op b_ar u_le b_pi b_pa u_pd u_od b_ws b_hw u_la b_se b_re u_bk u_va u_su u_ce u_ho u_wy u_bt u_ps b_pt u_tg u_sn b_ip u_ic b_ah b_be b_me u_wd b_tr b_ld u_st b_wn u_id)), (b_op, (arI G 400 v_op)), (b_ar, (arI G 400 v_ar)), (b_pi, (arI G 400 v_pi)), (b_pa, (arI G 400 v_pa))]) hP hD hS hA [5, 1, 2, 3, 4] (by decide) rfl
            refine va_callv (va_runV (As := [.int 5]) (rest := []) ⟨hx, hb, hml, hown, hts⟩ (n_settleH l G b_o b_op b_ar b_pi b_pa b_rf b_ro b_im b_ke b_tp b_nl b_ws b_hw b_se b_re b_pt b_ip b_ah b_be b_me b_tr b_ld b_wn H.size u_th u_sa u_fd u_td u_fr u_to u_so u_fa u_bd u_nc u_co u_le u_pd u_od u_la u_bk u_ce u_ho u_wy u_bt u_ps u_tg u_sn u_ic u_wd u_id 5 g_a u_fr u_wo u_va u_su u_st v_op v_ar v_pi v_pa g_op g_ar h_u_td h_u_fr h_u_to ⟨by omega, by omega⟩ h_u_nc h_u_co h_u_pd h_u_la h_u_bk h_u_ce h_u_ho h_u_wy h_u_bt h_u_ps h_u_ic h_u_id ⟨by decide, by decide⟩ (by omega) (e_x) (hE_31)) (cwV 1 hts gV_X12_288 rfl rfl rfl hv_X12_settle ⟨Nat.le_of_ble_eq_true rfl, Nat.le_of_ble_eq_true rfl⟩) (g5_preV hPc hK hDc hN hT hS hFc (ci := 12) (q0 := 0) rfl rfl) rfl rfl hl.1 rfl (lv_room (Nat.le_of_ble_eq_true rfl)) dX12_behindSum_68 ⟨Nat.le_of_ble_eq_true rfl, Nat.le_of_ble_eq_true rfl⟩) hS (fun q _ h => hFc q h) hFc (fun u t H1 locs ht hvm hw hB hz1 hk1 hS => ?_)
            obtain ⟨hP1, hD1⟩ := hB
            rw [ht] at hP1
            obtain ⟨z39, z40, z41, z42, i_32, i_33, i_34, i_35, i_36, i_37, i_38, rfl⟩ := hw
            have i_32 : 0 ≤ z39.toInt ∧ z39.toInt ≤ 400 := i_32
            have i_33 : 0 ≤ z40.toInt ∧ z40.toInt ≤ 400 := i_33
            have i_34 : XJ g_op g_ar z41 z42 v_pi v_pa g_a.toInt z39.toInt z40.toInt u_fr.toInt := i_34
            have i_35 : HJ z41 z42 v_pi v_pa g_a.toInt z39.toInt z40.toInt 1 := i_35
            have i_36 : S1 v_pi u_pd.toInt z40.toInt := i_36
            have i_37 : S2 v_pi z40.toInt (5 : Int32).toInt := i_37
            have i_38 : z40.toInt ≤ u_pd.toInt := i_38
            obtain ⟨hP, hD⟩ := va_join (wr := [(b_tp, (arI G 400 v_tp))]) hP hD [5, 1, 2, 3, 4] [0] rfl rfl (by decide) (by decide) hk1 hFc hP1 hD1
            generalize H1 = H at hP hS ⊢
            refine g5_rs [(b_tp, (arI G 400 v_tp)), (b_o, (oc12 u_th u_sa b_rf b_ro b_im b_ke u_fd b_tp u_td u_fr u_to u_so u_wo u_fa u_bd u_nc b_nl z39 b_op b_ar u_le b_pi b_pa z40 u_od b_ws b_hw u_la b_se b_re u_bk u_va u_su u_ce u_ho u_wy u_bt u_ps b_pt u_tg u_sn b_ip u_ic b_ah b_be b_me u_wd b_tr b_ld u_st b_wn u_id)), (b_op, (arI G 400 z41)), (b_ar, (arI G 400 z42)), (b_pi, (arI G 400 v_pi)), (b_pa, (arI G 400 v_pa))] hP hD (fun hP hD => ?_)
            have hmf8 := xj_mf i_34
            refine lv_aload_n hx hb dX12_behindSum_71 rfl (lv_at hl 1 rfl) ?_
            refine lv_iload_n hx hb dX12_behindSum_72 rfl (lv_at hl 0 rfl) ?_
            refine lv_iconst (v := 0) hx hb dX12_behindSum_73 (by decide) ?_
            obtain ⟨hPc, hDc, hFc⟩ := g5_sub3 (wc := [(b_o, (oc12 u_th u_sa b_rf b_ro b_im b_ke u_fd b_tp u_td u_fr u_to u_so u_wo u_fa u_bd u_nc b_nl z39 b_op b_ar u_le b_pi b_pa z40 u_od b_ws b_hw u_la b_se b_re u_bk u_va u_su u_ce u_ho u_wy u_bt u_ps b_pt u_tg u_sn b_ip u_ic b_ah b_be b_me u_wd b_tr b_ld u_st b_wn u_id)), (b_pi, (arI G 400 v_pi)), (b_pa, (arI G 400 v_pa))]) hP hD hS hA [1, 4, 5] (by decide) rfl
            refine va_callv (va_runV (As := [.int 21, .int 0]) (rest := []) ⟨hx, hb, hml, hown, hts⟩ (n_push l G b_o b_pi b_pa b_rf b_ro b_im b_ke b_tp b_nl b_op b_ar b_ws b_hw b_se b_re b_pt b_ip b_ah b_be b_me b_tr b_ld b_wn H.size u_th u_sa u_fd u_td u_fr u_to u_so u_fa u_bd u_nc z39 u_le z40 u_od u_la u_bk u_ce u_ho u_wy u_bt u_ps u_tg u_sn u_ic u_wd u_id 21 0 u_wo u_va u_su u_st v_pi v_pa h_u_td h_u_fr h_u_to ⟨by omega, by omega⟩ h_u_nc i_32 i_33 h_u_la h_u_bk h_u_ce h_u_ho h_u_wy h_u_bt h_u_ps h_u_ic h_u_id (by omega)) (cwV 2 hts gV_X12_261 rfl rfl rfl hv_X12_push ⟨Nat.le_of_ble_eq_true rfl, Nat.le_of_ble_eq_true rfl⟩) (g5_preV hPc hK hDc hN hT hS hFc (ci := 12) (q0 := 0) rfl rfl) rfl rfl hl.1 rfl (lv_room (Nat.le_of_ble_eq_true rfl)) dX12_behindSum_74 ⟨Nat.le_of_ble_eq_true rfl, Nat.le_of_ble_eq_true rfl⟩) hS (fun q _ h => hFc q h) hFc (fun u t H1 locs ht hvm hw hB hz1 hk1 hS => ?_)
            obtain ⟨hP1, hD1⟩ := hB
            rw [ht] at hP1
            obtain ⟨z45, i_43, i_44, rfl⟩ := hw
            have i_43 : 0 ≤ z45.toInt ∧ z45.toInt ≤ 400 := i_43
            have i_44 : z45.toInt = z40.toInt + 1 := i_44
            obtain ⟨hP, hD⟩ := va_join (wr := [(b_tp, (arI G 400 v_tp)), (b_op, (arI G 400 z41)), (b_ar, (arI G 400 z42))]) hP hD [1, 4, 5] [0, 2, 3] rfl rfl (by decide) (by decide) hk1 hFc hP1 hD1
            generalize H1 = H at hP hS ⊢
            refine g5_rs [(b_tp, (arI G 400 v_tp)), (b_op, (arI G 400 z41)), (b_ar, (arI G 400 z42)), (b_o, (oc12 u_th u_sa b_rf b_ro b_im b_ke u_fd b_tp u_td u_fr u_to u_so u_wo u_fa u_bd u_nc b_nl z39 b_op b_ar u_le b_pi b_pa z45 u_od b_ws b_hw u_la b_se b_re u_bk u_va u_su u_ce u_ho u_wy u_bt u_ps b_pt u_tg u_sn b_ip u_ic b_ah b_be b_me u_wd b_tr b_ld u_st b_wn u_id)), (b_pi, (arI G 400 (upd v_pi z40.toNatClampNeg 21))), (b_pa, (arI G 400 (upd v_pa z40.toNatClampNeg 0)))] hP hD (fun hP hD => ?_)
            refine lv_aload_n hx hb dX12_behindSum_77 rfl (lv_at hl 1 rfl) ?_
            obtain ⟨hPc, hDc, hFc⟩ := g5_sub3 (wc := [(b_o, (oc12 u_th u_sa b_rf b_ro b_im b_ke u_fd b_tp u_td u_fr u_to u_so u_wo u_fa u_bd u_nc b_nl z39 b_op b_ar u_le b_pi b_pa z45 u_od b_ws b_hw u_la b_se b_re u_bk u_va u_su u_ce u_ho u_wy u_bt u_ps b_pt u_tg u_sn b_ip u_ic b_ah b_be b_me u_wd b_tr b_ld u_st b_wn u_id)), (b_tp, (arI G 400 v_tp))]) hP hD hS hA [3, 0] (by decide) rfl
            refine va_callv (va_runV (As := []) (rest := []) ⟨hx, hb, hml, hown, hts⟩ (n_next l G b_o b_tp b_rf b_ro b_im b_ke b_nl b_op b_ar b_pi b_pa b_ws b_hw b_se b_re b_pt b_ip b_ah b_be b_me b_tr b_ld b_wn H.size u_th u_sa u_fd u_td u_fr u_to u_so u_fa u_bd u_nc z39 u_le z45 u_od u_la u_bk u_ce u_ho u_wy u_bt u_ps u_tg u_sn u_ic u_wd u_id u_wo u_va u_su u_st v_tp h_u_td h_u_fr h_u_to ⟨by omega, by omega⟩ h_u_nc i_32 i_43 h_u_la h_u_bk h_u_ce h_u_ho h_u_wy h_u_bt h_u_ps h_u_ic h_u_id (by omega)) (cwV 0 hts gV_X12_208 rfl rfl rfl hv_X12_next ⟨Nat.le_of_ble_eq_true rfl, Nat.le_of_ble_eq_true rfl⟩) (g5_preV hPc hK hDc hN hT hS hFc (ci := 12) (q0 := 0) rfl rfl) rfl rfl hl.1 rfl (lv_room (Nat.le_of_ble_eq_true rfl)) dX12_behindSum_78 ⟨Nat.le_of_ble_eq_true rfl, Nat.le_of_ble_eq_true rfl⟩) hS (fun q _ h => hFc q h) hFc (fun u t H1 locs ht hvm hw hB hz1 hk1 hS => ?_)
            obtain ⟨hP1, hD1⟩ := hB
            rw [ht] at hP1
            obtain ⟨z50, z51, z52, z53, i_46, i_47, i_48, i_49, rfl⟩ := hw
            have i_46 : 0 ≤ z50.toInt ∧ z50.toInt ≤ 400 := i_46
            have i_47 : 0 ≤ z51.toInt ∧ z51.toInt ≤ 400 := i_47
            have i_48 : u_to.toInt ≤ z50.toInt ∧ z50.toInt ≤ z51.toInt ∧ z51.toInt ≤ u_td.toInt := i_48
            have i_49 : TKs z52.toInt z50.toInt z51.toInt := i_49
            obtain ⟨hP, hD⟩ := va_join (wr := [(b_op, (arI G 400 z41)), (b_ar, (arI G 400 z42)), (b_pi, (arI G 400 (upd v_pi z40.toNatClampNeg 21))), (b_pa, (arI G 400 (upd v_pa z40.toNatClampNeg 0)))]) hP hD [3, 0] [1, 2, 4, 5] rfl rfl (by decide) (by decide) hk1 hFc hP1 hD1
            generalize H1 = H at hP hS ⊢
            refine g5_rs [(b_op, (arI G 400 z41)), (b_ar, (arI G 400 z42)), (b_pi, (arI G 400 (upd v_pi z40.toNatClampNeg 21))), (b_pa, (arI G 400 (upd v_pa z40.toNatClampNeg 0))), (b_o, (oc12 u_th u_sa b_rf b_ro b_im b_ke u_fd b_tp u_td z50 z51 z52 z53 u_fa u_bd u_nc b_nl z39 b_op b_ar u_le b_pi b_pa z45 u_od b_ws b_hw u_la b_se b_re u_bk u_va u_su u_ce u_ho u_wy u_bt u_ps b_pt u_tg u_sn b_ip u_ic b_ah b_be b_me u_wd b_tr b_ld u_st b_wn u_id)), (b_tp, (arI G 400 v_tp))] hP hD (fun hP hD => ?_)
            refine lv_iconst (v := 1) hx hb dX12_behindSum_81 (by decide) ?_
            exact W.iret (v := 1) hx hb hr (fun t ht hW => ⟨⟨1, [(b_o, (oc12 u_th u_sa b_rf b_ro b_im b_ke u_fd b_tp u_td z50 z51 z52 z53 u_fa u_bd u_nc b_nl z39 b_op b_ar u_le b_pi b_pa z45 u_od b_ws b_hw u_la b_se b_re u_bk u_va u_su u_ce u_ho u_wy u_bt u_ps b_pt u_tg u_sn b_ip u_ic b_ah b_be b_me u_wd b_tr b_ld u_st b_wn u_id)), (b_tp, (arI G 400 v_tp)), (b_op, (arI G 400 z41)), (b_ar, (arI G 400 z42)), (b_pi, (arI G 400 (upd v_pi z40.toNatClampNeg 21))), (b_pa, (arI G 400 (upd v_pa z40.toNatClampNeg 0)))], rfl, Or.inr (⟨1, z50, z51, z52, z53, z39, z45, u_od, z41, z42, (upd v_pi z40.toNatClampNeg 21), (upd v_pa z40.toNatClampNeg 0), i_46, i_47, i_32, i_43, ⟨by have zc_o_r : (1 : Int32).toInt = 1 := (by decide); omega, by have zc_o_r : (1 : Int32).toInt = 1 := (by decide); omega⟩, by omega, i_49, xj_push i_34 (by omega) (by omega) ⟨by decide, by decide⟩ (Or.inl (by decide)), tj_1 (hj_push2 i_35 (by omega) (by omega) ⟨by decide, by decide⟩ (Or.inl (by decide))) (by decide), by have w9 := (twt_0 (by decide) : twt (1 : Int32).toInt = 0); omega, rfl, rfl⟩), by rw [ht]; exact hP.sub [4, 5, 0, 1, 2, 3] rfl, hD.sub [4, 5, 0, 1, 2, 3] (by decide) rfl⟩, hS.F ht⟩) hS.2.2 dX12_behindSum_82
      ·
        obtain ⟨hP, hD⟩ := va_join (wr := [(b_tp, (arI G 400 v_tp)), (b_op, (arI G 400 v_op)), (b_ar, (arI G 400 v_ar)), (b_pi, (arI G 400 v_pi)), (b_pa, (arI G 400 v_pa))]) hP hD [5] [0, 1, 2, 3, 4] rfl rfl (by decide) (by decide) hk1 hFc hP1 hD1
        generalize H1 = H at hP hS ⊢
        refine g5_rs [(b_tp, (arI G 400 v_tp)), (b_op, (arI G 400 v_op)), (b_ar, (arI G 400 v_ar)), (b_pi, (arI G 400 v_pi)), (b_pa, (arI G 400 v_pa)), (b_o, (oc12 u_th u_sa b_rf b_ro b_im b_ke u_fd b_tp u_td u_fr u_to u_so u_wo u_fa u_bd u_nc b_nl u_co b_op b_ar u_le b_pi b_pa u_pd u_od b_ws b_hw u_la b_se b_re u_bk u_va u_su u_ce u_ho u_wy u_bt u_ps b_pt u_tg u_sn b_ip u_ic b_ah b_be b_me u_wd b_tr b_ld u_st b_wn u_id))] hP hD (fun hP hD => ?_)
        refine lv_if_eq (tgt := 28) hx hb dX12_behindSum_20 (by decide) (fun c_54 => ?_) (fun c_54 => ?_)
        ·
          refine lv_aload_n hx hb dX12_behindSum_28 rfl (lv_at hl 0 rfl) ?_
          refine lv_bipush (v := 42) hx hb dX12_behindSum_29 (by decide) ?_
          obtain ⟨hPc, hDc, hFc⟩ := g5_sub3 (wc := [(b_o, (oc12 u_th u_sa b_rf b_ro b_im b_ke u_fd b_tp u_td u_fr u_to u_so u_wo u_fa u_bd u_nc b_nl u_co b_op b_ar u_le b_pi b_pa u_pd u_od b_ws b_hw u_la b_se b_re u_bk u_va u_su u_ce u_ho u_wy u_bt u_ps b_pt u_tg u_sn b_ip u_ic b_ah b_be b_me u_wd b_tr b_ld u_st b_wn u_id))]) hP hD hS hA [5] (by decide) rfl
          refine va_calli (va_runV (As := [.int 42]) (rest := []) ⟨hx, hb, hml, hown, hts⟩ (n_isSign l G b_o b_rf b_ro b_im b_ke b_tp b_nl b_op b_ar b_pi b_pa b_ws b_hw b_se b_re b_pt b_ip b_ah b_be b_me b_tr b_ld b_wn H.size u_th u_sa u_fd u_td u_fr u_to u_so u_fa u_bd u_nc u_co u_le u_pd u_od u_la u_bk u_ce u_ho u_wy u_bt u_ps u_tg u_sn u_ic u_wd u_id 42 u_wo u_va u_su u_st h_u_td h_u_fr h_u_to ⟨by omega, by omega⟩ h_u_nc h_u_co h_u_pd h_u_la h_u_bk h_u_ce h_u_ho h_u_wy h_u_bt h_u_ps h_u_ic h_u_id) (cwV 1 hts gV_X12_267 rfl rfl rfl hv_X12_isSign ⟨Nat.le_of_ble_eq_true rfl, Nat.le_of_ble_eq_true rfl⟩) (g5_preV hPc hK hDc hN hT hS hFc (ci := 12) (q0 := 0) rfl rfl) rfl rfl hl.1 rfl (lv_room (Nat.le_of_ble_eq_true rfl)) dX12_behindSum_31 ⟨Nat.le_of_ble_eq_true rfl, Nat.le_of_ble_eq_true rfl⟩) hS (fun q _ h => hFc q h) hFc (fun r u t H1 locs ht hvm hw hB hz1 hk1 hS => ?_)
          obtain ⟨hP1, hD1⟩ := hB
          rw [ht] at hP1
          rcases hw with ⟨i_55, rfl, rfl⟩ | ⟨rfl, rfl⟩
          ·
            have i_55 : u_so.toInt = 3 := i_55
            obtain ⟨hP, hD⟩ := va_join (wr := [(b_tp, (arI G 400 v_tp)), (b_op, (arI G 400 v_op)), (b_ar, (arI G 400 v_ar)), (b_pi, (arI G 400 v_pi)), (b_pa, (arI G 400 v_pa))]) hP hD [5] [0, 1, 2, 3, 4] rfl rfl (by decide) (by decide) hk1 hFc hP1 hD1
            generalize H1 = H at hP hS ⊢
            refine g5_rs [(b_tp, (arI G 400 v_tp)), (b_op, (arI G 400 v_op)), (b_ar, (arI G 400 v_ar)), (b_pi, (arI G 400 v_pi)), (b_pa, (arI G 400 v_pa)), (b_o, (oc12 u_th u_sa b_rf b_ro b_im b_ke u_fd b_tp u_td u_fr u_to u_so u_wo u_fa u_bd u_nc b_nl u_co b_op b_ar u_le b_pi b_pa u_pd u_od b_ws b_hw u_la b_se b_re u_bk u_va u_su u_ce u_ho u_wy u_bt u_ps b_pt u_tg u_sn b_ip u_ic b_ah b_be b_me u_wd b_tr b_ld u_st b_wn u_id))] hP hD (fun hP hD => ?_)
            refine lv_if_eq (tgt := 42) hx hb dX12_behindSum_34 (by decide) (fun c_56 => ?_) (fun c_56 => ?_)
            ·
              exact absurd c_56 (by decide)
            ·
              refine lv_bipush (v := 22) hx hb dX12_behindSum_37 (by decide) ?_
              refine lv_goto (tgt := 57) hx hb dX12_behindSum_39 (by decide) ?_
              refine lv_istore_n (lv' := [(2, .int 22), (0, .ref b_o), (1, .int p_1)]) hx hb dX12_behindSum_57 rfl hl (by decide) rfl (fun ls hl => ?_)
              refine lv_iload_n hx hb dX12_behindSum_58 rfl (lv_at hl 0 rfl) ?_
              refine lv_iconst (v := (-1)) hx hb dX12_behindSum_59 (by decide) ?_
              refine lv_icmp_eq (tgt := 83) hx hb dX12_behindSum_60 (by decide) (fun c_57 => ?_) (fun c_57 => ?_)
              ·
                exact absurd c_57 (by decide)
              ·
                have hlt9 : u_fr.toInt < u_to.toInt := tks_lt e_s (by omega)
                have hE_58 : HJ v_op v_ar v_pi v_pa g_a.toInt u_co.toInt u_pd.toInt 1 := tj_d1 e_j (by decide)
                refine lv_aload_n hx hb dX12_behindSum_63 rfl (lv_at hl 1 rfl) ?_
                refine lv_iload_n hx hb dX12_behindSum_64 rfl (lv_at hl 0 rfl) ?_
                obtain ⟨hPc, hDc, hFc⟩ := g5_sub3 (wc := []) hP hD hS hA [] (by decide) rfl
                refine va_calli (va_runS (As := [.int 22]) (rest := [.ref b_o]) ⟨hx, hb, hml, hown, hts⟩ (n_binds22 l G H.size) (va_cwS 1 hts gS_X12_243 rfl rfl rfl hs_X12_binds ⟨Nat.le_of_ble_eq_true rfl, Nat.le_of_ble_eq_true rfl⟩) (g5_preS hPc hK hDc hN hT hS hFc) rfl rfl hl.1 rfl (lv_room (Nat.le_of_ble_eq_true rfl)) dX12_behindSum_65 ⟨Nat.le_of_ble_eq_true rfl, Nat.le_of_ble_eq_true rfl⟩) hS (fun q _ h => hFc q h) hFc (fun r u t H1 locs ht hvm hw hB hz1 hk1 hS => ?_)
                obtain ⟨hP1, hD1⟩ := hB
                rw [ht] at hP1
                obtain ⟨rfl, rfl⟩ := hw
                have hP := g5_same hP hk1
                generalize H1 = H at hP hS ⊢
                obtain ⟨hPc, hDc, hFc⟩ := g5_sub3 (wc := [(b_o, (oc12 u_th u_sa b_rf b_ro b_im b_ke u_fd b_tp u_td u_fr u_to u_so u_wo u_fa u_bd u_nc b_nl u_co b_op b_ar u_le b_pi b_pa u_pd u_od b_ws b_hw u_la b_se b_re u_bk u_va u_su u_ce u_ho u_wy u_bt u_ps b_pt u_tg u_sn b_ip u_ic b_ah b_be b_me u_wd b_tr b_ld u_st b_wn u_id)), (b_op, (arI G 400 v_op)), (b_ar, (arI G 400 v_ar)), (b_pi, (arI G 400 v_pi)), (b_pa, (arI G 400 v_pa))]) hP hD hS hA [5, 1, 2, 3, 4] (by decide) rfl
                refine va_callv (va_runV (As := [.int 6]) (rest := []) ⟨hx, hb, hml, hown, hts⟩ (n_settleH l G b_o b_op b_ar b_pi b_pa b_rf b_ro b_im b_ke b_tp b_nl b_ws b_hw b_se b_re b_pt b_ip b_ah b_be b_me b_tr b_ld b_wn H.size u_th u_sa u_fd u_td u_fr u_to u_so u_fa u_bd u_nc u_co u_le u_pd u_od u_la u_bk u_ce u_ho u_wy u_bt u_ps u_tg u_sn u_ic u_wd u_id 6 g_a u_fr u_wo u_va u_su u_st v_op v_ar v_pi v_pa g_op g_ar h_u_td h_u_fr h_u_to ⟨by omega, by omega⟩ h_u_nc h_u_co h_u_pd h_u_la h_u_bk h_u_ce h_u_ho h_u_wy h_u_bt h_u_ps h_u_ic h_u_id ⟨by decide, by decide⟩ (by omega) (e_x) (hE_58)) (cwV 1 hts gV_X12_288 rfl rfl rfl hv_X12_settle ⟨Nat.le_of_ble_eq_true rfl, Nat.le_of_ble_eq_true rfl⟩) (g5_preV hPc hK hDc hN hT hS hFc (ci := 12) (q0 := 0) rfl rfl) rfl rfl hl.1 rfl (lv_room (Nat.le_of_ble_eq_true rfl)) dX12_behindSum_68 ⟨Nat.le_of_ble_eq_true rfl, Nat.le_of_ble_eq_true rfl⟩) hS (fun q _ h => hFc q h) hFc (fun u t H1 locs ht hvm hw hB hz1 hk1 hS => ?_)
                obtain ⟨hP1, hD1⟩ := hB
                rw [ht] at hP1
                obtain ⟨z66, z67, z68, z69, i_59, i_60, i_61, i_62, i_63, i_64, i_65, rfl⟩ := hw
                have i_59 : 0 ≤ z66.toInt ∧ z66.toInt ≤ 400 := i_59
                have i_60 : 0 ≤ z67.toInt ∧ z67.toInt ≤ 400 := i_60
                have i_61 : XJ g_op g_ar z68 z69 v_pi v_pa g_a.toInt z66.toInt z67.toInt u_fr.toInt := i_61
                have i_62 : HJ z68 z69 v_pi v_pa g_a.toInt z66.toInt z67.toInt 1 := i_62
                have i_63 : S1 v_pi u_pd.toInt z67.toInt := i_63
                have i_64 : S2 v_pi z67.toInt (6 : Int32).toInt := i_64
                have i_65 : z67.toInt ≤ u_pd.toInt := i_65
                obtain ⟨hP, hD⟩ := va_join (wr := [(b_tp, (arI G 400 v_tp))]) hP hD [5, 1, 2, 3, 4] [0] rfl rfl (by decide) (by decide) hk1 hFc hP1 hD1
                generalize H1 = H at hP hS ⊢
                refine g5_rs [(b_tp, (arI G 400 v_tp)), (b_o, (oc12 u_th u_sa b_rf b_ro b_im b_ke u_fd b_tp u_td u_fr u_to u_so u_wo u_fa u_bd u_nc b_nl z66 b_op b_ar u_le b_pi b_pa z67 u_od b_ws b_hw u_la b_se b_re u_bk u_va u_su u_ce u_ho u_wy u_bt u_ps b_pt u_tg u_sn b_ip u_ic b_ah b_be b_me u_wd b_tr b_ld u_st b_wn u_id)), (b_op, (arI G 400 z68)), (b_ar, (arI G 400 z69)), (b_pi, (arI G 400 v_pi)), (b_pa, (arI G 400 v_pa))] hP hD (fun hP hD => ?_)
                have hmf8 := xj_mf i_61
                refine lv_aload_n hx hb dX12_behindSum_71 rfl (lv_at hl 1 rfl) ?_
                refine lv_iload_n hx hb dX12_behindSum_72 rfl (lv_at hl 0 rfl) ?_
                refine lv_iconst (v := 0) hx hb dX12_behindSum_73 (by decide) ?_
                obtain ⟨hPc, hDc, hFc⟩ := g5_sub3 (wc := [(b_o, (oc12 u_th u_sa b_rf b_ro b_im b_ke u_fd b_tp u_td u_fr u_to u_so u_wo u_fa u_bd u_nc b_nl z66 b_op b_ar u_le b_pi b_pa z67 u_od b_ws b_hw u_la b_se b_re u_bk u_va u_su u_ce u_ho u_wy u_bt u_ps b_pt u_tg u_sn b_ip u_ic b_ah b_be b_me u_wd b_tr b_ld u_st b_wn u_id)), (b_pi, (arI G 400 v_pi)), (b_pa, (arI G 400 v_pa))]) hP hD hS hA [1, 4, 5] (by decide) rfl
                refine va_callv (va_runV (As := [.int 22, .int 0]) (rest := []) ⟨hx, hb, hml, hown, hts⟩ (n_push l G b_o b_pi b_pa b_rf b_ro b_im b_ke b_tp b_nl b_op b_ar b_ws b_hw b_se b_re b_pt b_ip b_ah b_be b_me b_tr b_ld b_wn H.size u_th u_sa u_fd u_td u_fr u_to u_so u_fa u_bd u_nc z66 u_le z67 u_od u_la u_bk u_ce u_ho u_wy u_bt u_ps u_tg u_sn u_ic u_wd u_id 22 0 u_wo u_va u_su u_st v_pi v_pa h_u_td h_u_fr h_u_to ⟨by omega, by omega⟩ h_u_nc i_59 i_60 h_u_la h_u_bk h_u_ce h_u_ho h_u_wy h_u_bt h_u_ps h_u_ic h_u_id (by omega)) (cwV 2 hts gV_X12_261 rfl rfl rfl hv_X12_push ⟨Nat.le_of_ble_eq_true rfl, Nat.le_of_ble_eq_true rfl⟩) (g5_preV hPc hK hDc hN hT hS hFc (ci := 12) (q0 := 0) rfl rfl) rfl rfl hl.1 rfl (lv_room (Nat.le_of_ble_eq_true rfl)) dX12_behindSum_74 ⟨Nat.le_of_ble_eq_true rfl, Nat.le_of_ble_eq_true rfl⟩) hS (fun q _ h => hFc q h) hFc (fun u t H1 locs ht hvm hw hB hz1 hk1 hS => ?_)
                obtain ⟨hP1, hD1⟩ := hB
                rw [ht] at hP1
                obtain ⟨z72, i_70, i_71, rfl⟩ := hw
                have i_70 : 0 ≤ z72.toInt ∧ z72.toInt ≤ 400 := i_70
                have i_71 : z72.toInt = z67.toInt + 1 := i_71
                obtain ⟨hP, hD⟩ := va_join (wr := [(b_tp, (arI G 400 v_tp)), (b_op, (arI G 400 z68)), (b_ar, (arI G 400 z69))]) hP hD [1, 4, 5] [0, 2, 3] rfl rfl (by decide) (by decide) hk1 hFc hP1 hD1
                generalize H1 = H at hP hS ⊢
                refine g5_rs [(b_tp, (arI G 400 v_tp)), (b_op, (arI G 400 z68)), (b_ar, (arI G 400 z69)), (b_o, (oc12 u_th u_sa b_rf b_ro b_im b_ke u_fd b_tp u_td u_fr u_to u_so u_wo u_fa u_bd u_nc b_nl z66 b_op b_ar u_le b_pi b_pa z72 u_od b_ws b_hw u_la b_se b_re u_bk u_va u_su u_ce u_ho u_wy u_bt u_ps b_pt u_tg u_sn b_ip u_ic b_ah b_be b_me u_wd b_tr b_ld u_st b_wn u_id)), (b_pi, (arI G 400 (upd v_pi z67.toNatClampNeg 22))), (b_pa, (arI G 400 (upd v_pa z67.toNatClampNeg 0)))] hP hD (fun hP hD => ?_)
                refine lv_aload_n hx hb dX12_behindSum_77 rfl (lv_at hl 1 rfl) ?_
                obtain ⟨hPc, hDc, hFc⟩ := g5_sub3 (wc := [(b_o, (oc12 u_th u_sa b_rf b_ro b_im b_ke u_fd b_tp u_td u_fr u_to u_so u_wo u_fa u_bd u_nc b_nl z66 b_op b_ar u_le b_pi b_pa z72 u_od b_ws b_hw u_la b_se b_re u_bk u_va u_su u_ce u_ho u_wy u_bt u_ps b_pt u_tg u_sn b_ip u_ic b_ah b_be b_me u_wd b_tr b_ld u_st b_wn u_id)), (b_tp, (arI G 400 v_tp))]) hP hD hS hA [3, 0] (by decide) rfl
                refine va_callv (va_runV (As := []) (rest := []) ⟨hx, hb, hml, hown, hts⟩ (n_next l G b_o b_tp b_rf b_ro b_im b_ke b_nl b_op b_ar b_pi b_pa b_ws b_hw b_se b_re b_pt b_ip b_ah b_be b_me b_tr b_ld b_wn H.size u_th u_sa u_fd u_td u_fr u_to u_so u_fa u_bd u_nc z66 u_le z72 u_od u_la u_bk u_ce u_ho u_wy u_bt u_ps u_tg u_sn u_ic u_wd u_id u_wo u_va u_su u_st v_tp h_u_td h_u_fr h_u_to ⟨by omega, by omega⟩ h_u_nc i_59 i_70 h_u_la h_u_bk h_u_ce h_u_ho h_u_wy h_u_bt h_u_ps h_u_ic h_u_id (by omega)) (cwV 0 hts gV_X12_208 rfl rfl rfl hv_X12_next ⟨Nat.le_of_ble_eq_true rfl, Nat.le_of_ble_eq_true rfl⟩) (g5_preV hPc hK hDc hN hT hS hFc (ci := 12) (q0 := 0) rfl rfl) rfl rfl hl.1 rfl (lv_room (Nat.le_of_ble_eq_true rfl)) dX12_behindSum_78 ⟨Nat.le_of_ble_eq_true rfl, Nat.le_of_ble_eq_true rfl⟩) hS (fun q _ h => hFc q h) hFc (fun u t H1 locs ht hvm hw hB hz1 hk1 hS => ?_)
                obtain ⟨hP1, hD1⟩ := hB
                rw [ht] at hP1
                obtain ⟨z77, z78, z79, z80, i_73, i_74, i_75, i_76, rfl⟩ := hw
                have i_73 : 0 ≤ z77.toInt ∧ z77.toInt ≤ 400 := i_73
                have i_74 : 0 ≤ z78.toInt ∧ z78.toInt ≤ 400 := i_74
                have i_75 : u_to.toInt ≤ z77.toInt ∧ z77.toInt ≤ z78.toInt ∧ z78.toInt ≤ u_td.toInt := i_75
                have i_76 : TKs z79.toInt z77.toInt z78.toInt := i_76
                obtain ⟨hP, hD⟩ := va_join (wr := [(b_op, (arI G 400 z68)), (b_ar, (arI G 400 z69)), (b_pi, (arI G 400 (upd v_pi z67.toNatClampNeg 22))), (b_pa, (arI G 400 (upd v_pa z67.toNatClampNeg 0)))]) hP hD [3, 0] [1, 2, 4, 5] rfl rfl (by decide) (by decide) hk1 hFc hP1 hD1
                generalize H1 = H at hP hS ⊢
                refine g5_rs [(b_op, (arI G 400 z68)), (b_ar, (arI G 400 z69)), (b_pi, (arI G 400 (upd v_pi z67.toNatClampNeg 22))), (b_pa, (arI G 400 (upd v_pa z67.toNatClampNeg 0))), (b_o, (oc12 u_th u_sa b_rf b_ro b_im b_ke u_fd b_tp u_td z77 z78 z79 z80 u_fa u_bd u_nc b_nl z66 b_op b_ar u_le b_pi b_pa z72 u_od b_ws b_hw u_la b_se b_re u_bk u_va u_su u_ce u_ho u_wy u_bt u_ps b_pt u_tg u_sn b_ip u_ic b_ah b_be b_me u_wd b_tr b_ld u_st b_wn u_id)), (b_tp, (arI G 400 v_tp))] hP hD (fun hP hD => ?_)
                refine lv_iconst (v := 1) hx hb dX12_behindSum_81 (by decide) ?_
                exact W.iret (v := 1) hx hb hr (fun t ht hW => ⟨⟨1, [(b_o, (oc12 u_th u_sa b_rf b_ro b_im b_ke u_fd b_tp u_td z77 z78 z79 z80 u_fa u_bd u_nc b_nl z66 b_op b_ar u_le b_pi b_pa z72 u_od b_ws b_hw u_la b_se b_re u_bk u_va u_su u_ce u_ho u_wy u_bt u_ps b_pt u_tg u_sn b_ip u_ic b_ah b_be b_me u_wd b_tr b_ld u_st b_wn u_id)), (b_tp, (arI G 400 v_tp)), (b_op, (arI G 400 z68)), (b_ar, (arI G 400 z69)), (b_pi, (arI G 400 (upd v_pi z67.toNatClampNeg 22))), (b_pa, (arI G 400 (upd v_pa z67.toNatClampNeg 0)))], rfl, Or.inr (⟨1, z77, z78, z79, z80, z66, z72, u_od, z68, z69, (upd v_pi z67.toNatClampNeg 22), (upd v_pa z67.toNatClampNeg 0), i_73, i_74, i_59, i_70, ⟨by have zc_o_r : (1 : Int32).toInt = 1 := (by decide); omega, by have zc_o_r : (1 : Int32).toInt = 1 := (by decide); omega⟩, by omega, i_76, xj_push i_61 (by omega) (by omega) ⟨by decide, by decide⟩ (Or.inl (by decide)), tj_1 (hj_push2 i_62 (by omega) (by omega) ⟨by decide, by decide⟩ (Or.inl (by decide))) (by decide), by have w9 := (twt_0 (by decide) : twt (1 : Int32).toInt = 0); omega, rfl, rfl⟩), by rw [ht]; exact hP.sub [4, 5, 0, 1, 2, 3] rfl, hD.sub [4, 5, 0, 1, 2, 3] (by decide) rfl⟩, hS.F ht⟩) hS.2.2 dX12_behindSum_82
          ·
            obtain ⟨hP, hD⟩ := va_join (wr := [(b_tp, (arI G 400 v_tp)), (b_op, (arI G 400 v_op)), (b_ar, (arI G 400 v_ar)), (b_pi, (arI G 400 v_pi)), (b_pa, (arI G 400 v_pa))]) hP hD [5] [0, 1, 2, 3, 4] rfl rfl (by decide) (by decide) hk1 hFc hP1 hD1
            generalize H1 = H at hP hS ⊢
            refine g5_rs [(b_tp, (arI G 400 v_tp)), (b_op, (arI G 400 v_op)), (b_ar, (arI G 400 v_ar)), (b_pi, (arI G 400 v_pi)), (b_pa, (arI G 400 v_pa)), (b_o, (oc12 u_th u_sa b_rf b_ro b_im b_ke u_fd b_tp u_td u_fr u_to u_so u_wo u_fa u_bd u_nc b_nl u_co b_op b_ar u_le b_pi b_pa u_pd u_od b_ws b_hw u_la b_se b_re u_bk u_va u_su u_ce u_ho u_wy u_bt u_ps b_pt u_tg u_sn b_ip u_ic b_ah b_be b_me u_wd b_tr b_ld u_st b_wn u_id))] hP hD (fun hP hD => ?_)
            refine lv_if_eq (tgt := 42) hx hb dX12_behindSum_34 (by decide) (fun c_81 => ?_) (fun c_81 => ?_)
            ·
              refine lv_aload_n hx hb dX12_behindSum_42 rfl (lv_at hl 0 rfl) ?_
              refine lv_bipush (v := 47) hx hb dX12_behindSum_43 (by decide) ?_
              obtain ⟨hPc, hDc, hFc⟩ := g5_sub3 (wc := [(b_o, (oc12 u_th u_sa b_rf b_ro b_im b_ke u_fd b_tp u_td u_fr u_to u_so u_wo u_fa u_bd u_nc b_nl u_co b_op b_ar u_le b_pi b_pa u_pd u_od b_ws b_hw u_la b_se b_re u_bk u_va u_su u_ce u_ho u_wy u_bt u_ps b_pt u_tg u_sn b_ip u_ic b_ah b_be b_me u_wd b_tr b_ld u_st b_wn u_id))]) hP hD hS hA [5] (by decide) rfl
              refine va_calli (va_runV (As := [.int 47]) (rest := []) ⟨hx, hb, hml, hown, hts⟩ (n_isSign l G b_o b_rf b_ro b_im b_ke b_tp b_nl b_op b_ar b_pi b_pa b_ws b_hw b_se b_re b_pt b_ip b_ah b_be b_me b_tr b_ld b_wn H.size u_th u_sa u_fd u_td u_fr u_to u_so u_fa u_bd u_nc u_co u_le u_pd u_od u_la u_bk u_ce u_ho u_wy u_bt u_ps u_tg u_sn u_ic u_wd u_id 47 u_wo u_va u_su u_st h_u_td h_u_fr h_u_to ⟨by omega, by omega⟩ h_u_nc h_u_co h_u_pd h_u_la h_u_bk h_u_ce h_u_ho h_u_wy h_u_bt h_u_ps h_u_ic h_u_id) (cwV 1 hts gV_X12_267 rfl rfl rfl hv_X12_isSign ⟨Nat.le_of_ble_eq_true rfl, Nat.le_of_ble_eq_true rfl⟩) (g5_preV hPc hK hDc hN hT hS hFc (ci := 12) (q0 := 0) rfl rfl) rfl rfl hl.1 rfl (lv_room (Nat.le_of_ble_eq_true rfl)) dX12_behindSum_45 ⟨Nat.le_of_ble_eq_true rfl, Nat.le_of_ble_eq_true rfl⟩) hS (fun q _ h => hFc q h) hFc (fun r u t H1 locs ht hvm hw hB hz1 hk1 hS => ?_)
              obtain ⟨hP1, hD1⟩ := hB
              rw [ht] at hP1
              rcases hw with ⟨i_82, rfl, rfl⟩ | ⟨rfl, rfl⟩
              ·
                have i_82 : u_so.toInt = 3 := i_82
                obtain ⟨hP, hD⟩ := va_join (wr := [(b_tp, (arI G 400 v_tp)), (b_op, (arI G 400 v_op)), (b_ar, (arI G 400 v_ar)), (b_pi, (arI G 400 v_pi)), (b_pa, (arI G 400 v_pa))]) hP hD [5] [0, 1, 2, 3, 4] rfl rfl (by decide) (by decide) hk1 hFc hP1 hD1
                generalize H1 = H at hP hS ⊢
                refine g5_rs [(b_tp, (arI G 400 v_tp)), (b_op, (arI G 400 v_op)), (b_ar, (arI G 400 v_ar)), (b_pi, (arI G 400 v_pi)), (b_pa, (arI G 400 v_pa)), (b_o, (oc12 u_th u_sa b_rf b_ro b_im b_ke u_fd b_tp u_td u_fr u_to u_so u_wo u_fa u_bd u_nc b_nl u_co b_op b_ar u_le b_pi b_pa u_pd u_od b_ws b_hw u_la b_se b_re u_bk u_va u_su u_ce u_ho u_wy u_bt u_ps b_pt u_tg u_sn b_ip u_ic b_ah b_be b_me u_wd b_tr b_ld u_st b_wn u_id))] hP hD (fun hP hD => ?_)
                refine lv_if_eq (tgt := 56) hx hb dX12_behindSum_48 (by decide) (fun c_83 => ?_) (fun c_83 => ?_)
                ·
                  exact absurd c_83 (by decide)
                ·
                  refine lv_bipush (v := 23) hx hb dX12_behindSum_51 (by decide) ?_
                  refine lv_goto (tgt := 57) hx hb dX12_behindSum_53 (by decide) ?_
                  refine lv_istore_n (lv' := [(2, .int 23), (0, .ref b_o), (1, .int p_1)]) hx hb dX12_behindSum_57 rfl hl (by decide) rfl (fun ls hl => ?_)
                  refine lv_iload_n hx hb dX12_behindSum_58 rfl (lv_at hl 0 rfl) ?_
                  refine lv_iconst (v := (-1)) hx hb dX12_behindSum_59 (by decide) ?_
                  refine lv_icmp_eq (tgt := 83) hx hb dX12_behindSum_60 (by decide) (fun c_84 => ?_) (fun c_84 => ?_)
                  ·
                    exact absurd c_84 (by decide)
                  ·
                    have hlt9 : u_fr.toInt < u_to.toInt := tks_lt e_s (by omega)
                    have hE_85 : HJ v_op v_ar v_pi v_pa g_a.toInt u_co.toInt u_pd.toInt 1 := tj_d1 e_j (by decide)
                    refine lv_aload_n hx hb dX12_behindSum_63 rfl (lv_at hl 1 rfl) ?_
                    refine lv_iload_n hx hb dX12_behindSum_64 rfl (lv_at hl 0 rfl) ?_
                    obtain ⟨hPc, hDc, hFc⟩ := g5_sub3 (wc := []) hP hD hS hA [] (by decide) rfl
                    refine va_calli (va_runS (As := [.int 23]) (rest := [.ref b_o]) ⟨hx, hb, hml, hown, hts⟩ (n_binds23 l G H.size) (va_cwS 1 hts gS_X12_243 rfl rfl rfl hs_X12_binds ⟨Nat.le_of_ble_eq_true rfl, Nat.le_of_ble_eq_true rfl⟩) (g5_preS hPc hK hDc hN hT hS hFc) rfl rfl hl.1 rfl (lv_room (Nat.le_of_ble_eq_true rfl)) dX12_behindSum_65 ⟨Nat.le_of_ble_eq_true rfl, Nat.le_of_ble_eq_true rfl⟩) hS (fun q _ h => hFc q h) hFc (fun r u t H1 locs ht hvm hw hB hz1 hk1 hS => ?_)
                    obtain ⟨hP1, hD1⟩ := hB
                    rw [ht] at hP1
                    obtain ⟨rfl, rfl⟩ := hw
                    have hP := g5_same hP hk1
                    generalize H1 = H at hP hS ⊢
                    obtain ⟨hPc, hDc, hFc⟩ := g5_sub3 (wc := [(b_o, (oc12 u_th u_sa b_rf b_ro b_im b_ke u_fd b_tp u_td u_fr u_to u_so u_wo u_fa u_bd u_nc b_nl u_co b_op b_ar u_le b_pi b_pa u_pd u_od b_ws b_hw u_la b_se b_re u_bk u_va u_su u_ce u_ho u_wy u_bt u_ps b_pt u_tg u_sn b_ip u_ic b_ah b_be b_me u_wd b_tr b_ld u_st b_wn u_id)), (b_op, (arI G 400 v_op)), (b_ar, (arI G 400 v_ar)), (b_pi, (arI G 400 v_pi)), (b_pa, (arI G 400 v_pa))]) hP hD hS hA [5, 1, 2, 3, 4] (by decide) rfl
                    refine va_callv (va_runV (As := [.int 6]) (rest := []) ⟨hx, hb, hml, hown, hts⟩ (n_settleH l G b_o b_op b_ar b_pi b_pa b_rf b_ro b_im b_ke b_tp b_nl b_ws b_hw b_se b_re b_pt b_ip b_ah b_be b_me b_tr b_ld b_wn H.size u_th u_sa u_fd u_td u_fr u_to u_so u_fa u_bd u_nc u_co u_le u_pd u_od u_la u_bk u_ce u_ho u_wy u_bt u_ps u_tg u_sn u_ic u_wd u_id 6 g_a u_fr u_wo u_va u_su u_st v_op v_ar v_pi v_pa g_op g_ar h_u_td h_u_fr h_u_to ⟨by omega, by omega⟩ h_u_nc h_u_co h_u_pd h_u_la h_u_bk h_u_ce h_u_ho h_u_wy h_u_bt h_u_ps h_u_ic h_u_id ⟨by decide, by decide⟩ (by omega) (e_x) (hE_85)) (cwV 1 hts gV_X12_288 rfl rfl rfl hv_X12_settle ⟨Nat.le_of_ble_eq_true rfl, Nat.le_of_ble_eq_true rfl⟩) (g5_preV hPc hK hDc hN hT hS hFc (ci := 12) (q0 := 0) rfl rfl) rfl rfl hl.1 rfl (lv_room (Nat.le_of_ble_eq_true rfl)) dX12_behindSum_68 ⟨Nat.le_of_ble_eq_true rfl, Nat.le_of_ble_eq_true rfl⟩) hS (fun q _ h => hFc q h) hFc (fun u t H1 locs ht hvm hw hB hz1 hk1 hS => ?_)
                    obtain ⟨hP1, hD1⟩ := hB
                    rw [ht] at hP1
                    obtain ⟨z93, z94, z95, z96, i_86, i_87, i_88, i_89, i_90, i_91, i_92, rfl⟩ := hw
                    have i_86 : 0 ≤ z93.toInt ∧ z93.toInt ≤ 400 := i_86
                    have i_87 : 0 ≤ z94.toInt ∧ z94.toInt ≤ 400 := i_87
                    have i_88 : XJ g_op g_ar z95 z96 v_pi v_pa g_a.toInt z93.toInt z94.toInt u_fr.toInt := i_88
                    have i_89 : HJ z95 z96 v_pi v_pa g_a.toInt z93.toInt z94.toInt 1 := i_89
                    have i_90 : S1 v_pi u_pd.toInt z94.toInt := i_90
                    have i_91 : S2 v_pi z94.toInt (6 : Int32).toInt := i_91
                    have i_92 : z94.toInt ≤ u_pd.toInt := i_92
                    obtain ⟨hP, hD⟩ := va_join (wr := [(b_tp, (arI G 400 v_tp))]) hP hD [5, 1, 2, 3, 4] [0] rfl rfl (by decide) (by decide) hk1 hFc hP1 hD1
                    generalize H1 = H at hP hS ⊢
                    refine g5_rs [(b_tp, (arI G 400 v_tp)), (b_o, (oc12 u_th u_sa b_rf b_ro b_im b_ke u_fd b_tp u_td u_fr u_to u_so u_wo u_fa u_bd u_nc b_nl z93 b_op b_ar u_le b_pi b_pa z94 u_od b_ws b_hw u_la b_se b_re u_bk u_va u_su u_ce u_ho u_wy u_bt u_ps b_pt u_tg u_sn b_ip u_ic b_ah b_be b_me u_wd b_tr b_ld u_st b_wn u_id)), (b_op, (arI G 400 z95)), (b_ar, (arI G 400 z96)), (b_pi, (arI G 400 v_pi)), (b_pa, (arI G 400 v_pa))] hP hD (fun hP hD => ?_)
                    have hmf8 := xj_mf i_88
                    refine lv_aload_n hx hb dX12_behindSum_71 rfl (lv_at hl 1 rfl) ?_
                    refine lv_iload_n hx hb dX12_behindSum_72 rfl (lv_at hl 0 rfl) ?_
                    refine lv_iconst (v := 0) hx hb dX12_behindSum_73 (by decide) ?_
                    obtain ⟨hPc, hDc, hFc⟩ := g5_sub3 (wc := [(b_o, (oc12 u_th u_sa b_rf b_ro b_im b_ke u_fd b_tp u_td u_fr u_to u_so u_wo u_fa u_bd u_nc b_nl z93 b_op b_ar u_le b_pi b_pa z94 u_od b_ws b_hw u_la b_se b_re u_bk u_va u_su u_ce u_ho u_wy u_bt u_ps b_pt u_tg u_sn b_ip u_ic b_ah b_be b_me u_wd b_tr b_ld u_st b_wn u_id)), (b_pi, (arI G 400 v_pi)), (b_pa, (arI G 400 v_pa))]) hP hD hS hA [1, 4, 5] (by decide) rfl
                    refine va_callv (va_runV (As := [.int 23, .int 0]) (rest := []) ⟨hx, hb, hml, hown, hts⟩ (n_push l G b_o b_pi b_pa b_rf b_ro b_im b_ke b_tp b_nl b_op b_ar b_ws b_hw b_se b_re b_pt b_ip b_ah b_be b_me b_tr b_ld b_wn H.size u_th u_sa u_fd u_td u_fr u_to u_so u_fa u_bd u_nc z93 u_le z94 u_od u_la u_bk u_ce u_ho u_wy u_bt u_ps u_tg u_sn u_ic u_wd u_id 23 0 u_wo u_va u_su u_st v_pi v_pa h_u_td h_u_fr h_u_to ⟨by omega, by omega⟩ h_u_nc i_86 i_87 h_u_la h_u_bk h_u_ce h_u_ho h_u_wy h_u_bt h_u_ps h_u_ic h_u_id (by omega)) (cwV 2 hts gV_X12_261 rfl rfl rfl hv_X12_push ⟨Nat.le_of_ble_eq_true rfl, Nat.le_of_ble_eq_true rfl⟩) (g5_preV hPc hK hDc hN hT hS hFc (ci := 12) (q0 := 0) rfl rfl) rfl rfl hl.1 rfl (lv_room (Nat.le_of_ble_eq_true rfl)) dX12_behindSum_74 ⟨Nat.le_of_ble_eq_true rfl, Nat.le_of_ble_eq_true rfl⟩) hS (fun q _ h => hFc q h) hFc (fun u t H1 locs ht hvm hw hB hz1 hk1 hS => ?_)
                    obtain ⟨hP1, hD1⟩ := hB
                    rw [ht] at hP1
                    obtain ⟨z99, i_97, i_98, rfl⟩ := hw
                    have i_97 : 0 ≤ z99.toInt ∧ z99.toInt ≤ 400 := i_97
                    have i_98 : z99.toInt = z94.toInt + 1 := i_98
                    obtain ⟨hP, hD⟩ := va_join (wr := [(b_tp, (arI G 400 v_tp)), (b_op, (arI G 400 z95)), (b_ar, (arI G 400 z96))]) hP hD [1, 4, 5] [0, 2, 3] rfl rfl (by decide) (by decide) hk1 hFc hP1 hD1
                    generalize H1 = H at hP hS ⊢
                    refine g5_rs [(b_tp, (arI G 400 v_tp)), (b_op, (arI G 400 z95)), (b_ar, (arI G 400 z96)), (b_o, (oc12 u_th u_sa b_rf b_ro b_im b_ke u_fd b_tp u_td u_fr u_to u_so u_wo u_fa u_bd u_nc b_nl z93 b_op b_ar u_le b_pi b_pa z99 u_od b_ws b_hw u_la b_se b_re u_bk u_va u_su u_ce u_ho u_wy u_bt u_ps b_pt u_tg u_sn b_ip u_ic b_ah b_be b_me u_wd b_tr b_ld u_st b_wn u_id)), (b_pi, (arI G 400 (upd v_pi z94.toNatClampNeg 23))), (b_pa, (arI G 400 (upd v_pa z94.toNatClampNeg 0)))] hP hD (fun hP hD => ?_)
                    refine lv_aload_n hx hb dX12_behindSum_77 rfl (lv_at hl 1 rfl) ?_
                    obtain ⟨hPc, hDc, hFc⟩ := g5_sub3 (wc := [(b_o, (oc12 u_th u_sa b_rf b_ro b_im b_ke u_fd b_tp u_td u_fr u_to u_so u_wo u_fa u_bd u_nc b_nl z93 b_op b_ar u_le b_pi b_pa z99 u_od b_ws b_hw u_la b_se b_re u_bk u_va u_su u_ce u_ho u_wy u_bt u_ps b_pt u_tg u_sn b_ip u_ic b_ah b_be b_me u_wd b_tr b_ld u_st b_wn u_id)), (b_tp, (arI G 400 v_tp))]) hP hD hS hA [3, 0] (by decide) rfl
                    refine va_callv (va_runV (As := []) (rest := []) ⟨hx, hb, hml, hown, hts⟩ (n_next l G b_o b_tp b_rf b_ro b_im b_ke b_nl b_op b_ar b_pi b_pa b_ws b_hw b_se b_re b_pt b_ip b_ah b_be b_me b_tr b_ld b_wn H.size u_th u_sa u_fd u_td u_fr u_to u_so u_fa u_bd u_nc z93 u_le z99 u_od u_la u_bk u_ce u_ho u_wy u_bt u_ps u_tg u_sn u_ic u_wd u_id u_wo u_va u_su u_st v_tp h_u_td h_u_fr h_u_to ⟨by omega, by omega⟩ h_u_nc i_86 i_97 h_u_la h_u_bk h_u_ce h_u_ho h_u_wy h_u_bt h_u_ps h_u_ic h_u_id (by omega)) (cwV 0 hts gV_X12_208 rfl rfl rfl hv_X12_next ⟨Nat.le_of_ble_eq_true rfl, Nat.le_of_ble_eq_true rfl⟩) (g5_preV hPc hK hDc hN hT hS hFc (ci := 12) (q0 := 0) rfl rfl) rfl rfl hl.1 rfl (lv_room (Nat.le_of_ble_eq_true rfl)) dX12_behindSum_78 ⟨Nat.le_of_ble_eq_true rfl, Nat.le_of_ble_eq_true rfl⟩) hS (fun q _ h => hFc q h) hFc (fun u t H1 locs ht hvm hw hB hz1 hk1 hS => ?_)
                    obtain ⟨hP1, hD1⟩ := hB
                    rw [ht] at hP1
                    obtain ⟨z104, z105, z106, z107, i_100, i_101, i_102, i_103, rfl⟩ := hw
                    have i_100 : 0 ≤ z104.toInt ∧ z104.toInt ≤ 400 := i_100
                    have i_101 : 0 ≤ z105.toInt ∧ z105.toInt ≤ 400 := i_101
                    have i_102 : u_to.toInt ≤ z104.toInt ∧ z104.toInt ≤ z105.toInt ∧ z105.toInt ≤ u_td.toInt := i_102
                    have i_103 : TKs z106.toInt z104.toInt z105.toInt := i_103
                    obtain ⟨hP, hD⟩ := va_join (wr := [(b_op, (arI G 400 z95)), (b_ar, (arI G 400 z96)), (b_pi, (arI G 400 (upd v_pi z94.toNatClampNeg 23))), (b_pa, (arI G 400 (upd v_pa z94.toNatClampNeg 0)))]) hP hD [3, 0] [1, 2, 4, 5] rfl rfl (by decide) (by decide) hk1 hFc hP1 hD1
                    generalize H1 = H at hP hS ⊢
                    refine g5_rs [(b_op, (arI G 400 z95)), (b_ar, (arI G 400 z96)), (b_pi, (arI G 400 (upd v_pi z94.toNatClampNeg 23))), (b_pa, (arI G 400 (upd v_pa z94.toNatClampNeg 0))), (b_o, (oc12 u_th u_sa b_rf b_ro b_im b_ke u_fd b_tp u_td z104 z105 z106 z107 u_fa u_bd u_nc b_nl z93 b_op b_ar u_le b_pi b_pa z99 u_od b_ws b_hw u_la b_se b_re u_bk u_va u_su u_ce u_ho u_wy u_bt u_ps b_pt u_tg u_sn b_ip u_ic b_ah b_be b_me u_wd b_tr b_ld u_st b_wn u_id)), (b_tp, (arI G 400 v_tp))] hP hD (fun hP hD => ?_)
                    refine lv_iconst (v := 1) hx hb dX12_behindSum_81 (by decide) ?_
                    exact W.iret (v := 1) hx hb hr (fun t ht hW => ⟨⟨1, [(b_o, (oc12 u_th u_sa b_rf b_ro b_im b_ke u_fd b_tp u_td z104 z105 z106 z107 u_fa u_bd u_nc b_nl z93 b_op b_ar u_le b_pi b_pa z99 u_od b_ws b_hw u_la b_se b_re u_bk u_va u_su u_ce u_ho u_wy u_bt u_ps b_pt u_tg u_sn b_ip u_ic b_ah b_be b_me u_wd b_tr b_ld u_st b_wn u_id)), (b_tp, (arI G 400 v_tp)), (b_op, (arI G 400 z95)), (b_ar, (arI G 400 z96)), (b_pi, (arI G 400 (upd v_pi z94.toNatClampNeg 23))), (b_pa, (arI G 400 (upd v_pa z94.toNatClampNeg 0)))], rfl, Or.inr (⟨1, z104, z105, z106, z107, z93, z99, u_od, z95, z96, (upd v_pi z94.toNatClampNeg 23), (upd v_pa z94.toNatClampNeg 0), i_100, i_101, i_86, i_97, ⟨by have zc_o_r : (1 : Int32).toInt = 1 := (by decide); omega, by have zc_o_r : (1 : Int32).toInt = 1 := (by decide); omega⟩, by omega, i_103, xj_push i_88 (by omega) (by omega) ⟨by decide, by decide⟩ (Or.inl (by decide)), tj_1 (hj_push2 i_89 (by omega) (by omega) ⟨by decide, by decide⟩ (Or.inl (by decide))) (by decide), by have w9 := (twt_0 (by decide) : twt (1 : Int32).toInt = 0); omega, rfl, rfl⟩), by rw [ht]; exact hP.sub [4, 5, 0, 1, 2, 3] rfl, hD.sub [4, 5, 0, 1, 2, 3] (by decide) rfl⟩, hS.F ht⟩) hS.2.2 dX12_behindSum_82
              ·
                obtain ⟨hP, hD⟩ := va_join (wr := [(b_tp, (arI G 400 v_tp)), (b_op, (arI G 400 v_op)), (b_ar, (arI G 400 v_ar)), (b_pi, (arI G 400 v_pi)), (b_pa, (arI G 400 v_pa))]) hP hD [5] [0, 1, 2, 3, 4] rfl rfl (by decide) (by decide) hk1 hFc hP1 hD1
                generalize H1 = H at hP hS ⊢
                refine g5_rs [(b_tp, (arI G 400 v_tp)), (b_op, (arI G 400 v_op)), (b_ar, (arI G 400 v_ar)), (b_pi, (arI G 400 v_pi)), (b_pa, (arI G 400 v_pa)), (b_o, (oc12 u_th u_sa b_rf b_ro b_im b_ke u_fd b_tp u_td u_fr u_to u_so u_wo u_fa u_bd u_nc b_nl u_co b_op b_ar u_le b_pi b_pa u_pd u_od b_ws b_hw u_la b_se b_re u_bk u_va u_su u_ce u_ho u_wy u_bt u_ps b_pt u_tg u_sn b_ip u_ic b_ah b_be b_me u_wd b_tr b_ld u_st b_wn u_id))] hP hD (fun hP hD => ?_)
                refine lv_if_eq (tgt := 56) hx hb dX12_behindSum_48 (by decide) (fun c_108 => ?_) (fun c_108 => ?_)
                ·
                  refine lv_iconst (v := (-1)) hx hb dX12_behindSum_56 (by decide) ?_
                  refine lv_istore_n (lv' := [(2, .int (-1)), (0, .ref b_o), (1, .int p_1)]) hx hb dX12_behindSum_57 rfl hl (by decide) rfl (fun ls hl => ?_)
                  refine lv_iload_n hx hb dX12_behindSum_58 rfl (lv_at hl 0 rfl) ?_
                  refine lv_iconst (v := (-1)) hx hb dX12_behindSum_59 (by decide) ?_
                  refine lv_icmp_eq (tgt := 83) hx hb dX12_behindSum_60 (by decide) (fun c_109 => ?_) (fun c_109 => ?_)
                  ·
                    refine lv_aload_n hx hb dX12_behindSum_83 rfl (lv_at hl 1 rfl) ?_
                    obtain ⟨hPc, hDc, hFc⟩ := g5_sub3 (wc := [(b_o, (oc12 u_th u_sa b_rf b_ro b_im b_ke u_fd b_tp u_td u_fr u_to u_so u_wo u_fa u_bd u_nc b_nl u_co b_op b_ar u_le b_pi b_pa u_pd u_od b_ws b_hw u_la b_se b_re u_bk u_va u_su u_ce u_ho u_wy u_bt u_ps b_pt u_tg u_sn b_ip u_ic b_ah b_be b_me u_wd b_tr b_ld u_st b_wn u_id)), (b_pi, (arI G 400 v_pi))]) hP hD hS hA [5, 3] (by decide) rfl
                    refine va_calli (va_runV (As := []) (rest := []) ⟨hx, hb, hml, hown, hts⟩ (n_inner l G b_o b_pi b_rf b_ro b_im b_ke b_tp b_nl b_op b_ar b_pa b_ws b_hw b_se b_re b_pt b_ip b_ah b_be b_me b_tr b_ld b_wn H.size u_th u_sa u_fd u_td u_fr u_to u_so u_fa u_bd u_nc u_co u_le u_pd u_od u_la u_bk u_ce u_ho u_wy u_bt u_ps u_tg u_sn u_ic u_wd u_id u_wo u_va u_su u_st v_pi h_u_td h_u_fr h_u_to ⟨by omega, by omega⟩ h_u_nc h_u_co h_u_pd h_u_la h_u_bk h_u_ce h_u_ho h_u_wy h_u_bt h_u_ps h_u_ic h_u_id) (cwV 0 hts gV_X12_291 rfl rfl rfl hv_X12_inner ⟨Nat.le_of_ble_eq_true rfl, Nat.le_of_ble_eq_true rfl⟩) (g5_preV hPc hK hDc hN hT hS hFc (ci := 12) (q0 := 0) rfl rfl) rfl rfl hl.1 rfl (lv_room (Nat.le_of_ble_eq_true rfl)) dX12_behindSum_84 ⟨Nat.le_of_ble_eq_true rfl, Nat.le_of_ble_eq_true rfl⟩) hS (fun q _ h => hFc q h) hFc (fun r u t H1 locs ht hvm hw hB hz1 hk1 hS => ?_)
                    obtain ⟨hP1, hD1⟩ := hB
                    rw [ht] at hP1
                    obtain ⟨z111, i_110, y112, rfl⟩ := hw
                    have i_110 : innP v_pi u_pd.toInt z111.toInt := i_110
                    obtain ⟨hP, hD⟩ := va_join (wr := [(b_tp, (arI G 400 v_tp)), (b_op, (arI G 400 v_op)), (b_ar, (arI G 400 v_ar)), (b_pa, (arI G 400 v_pa))]) hP hD [5, 3] [0, 1, 2, 4] rfl rfl (by decide) (by decide) hk1 hFc hP1 hD1
                    generalize H1 = H at hP hS ⊢
                    refine g5_rs [(b_tp, (arI G 400 v_tp)), (b_op, (arI G 400 v_op)), (b_ar, (arI G 400 v_ar)), (b_pa, (arI G 400 v_pa)), (b_o, (oc12 u_th u_sa b_rf b_ro b_im b_ke u_fd b_tp u_td u_fr u_to u_so u_wo u_fa u_bd u_nc b_nl u_co b_op b_ar u_le b_pi b_pa u_pd u_od b_ws b_hw u_la b_se b_re u_bk u_va u_su u_ce u_ho u_wy u_bt u_ps b_pt u_tg u_sn b_ip u_ic b_ah b_be b_me u_wd b_tr b_ld u_st b_wn u_id)), (b_pi, (arI G 400 v_pi))] hP hD (fun hP hD => ?_)
                    refine g5_ti (v := z111) y112 ?_
                    refine lv_istore_n (lv' := [(3, .int z111), (2, .int (-1)), (0, .ref b_o), (1, .int p_1)]) hx hb dX12_behindSum_87 rfl hl (by decide) rfl (fun ls hl => ?_)
                    refine lv_iload_n hx hb dX12_behindSum_88 rfl (lv_at hl 0 rfl) ?_
                    refine lv_bipush (v := 31) hx hb dX12_behindSum_89 (by decide) ?_
                    refine lv_icmp_ne (tgt := 138) hx hb dX12_behindSum_91 (by decide) (fun c_113 => ?_) (fun c_113 => ?_)
                    ·
                      have n_113 : gNe (z111.toInt) (31) := by have z := g5_ne (a := z111.toInt) (b := 31) (by rfl) (by decide) c_113; unfold gNe; omega
                      refine lv_iload_n hx hb dX12_behindSum_138 rfl (lv_at hl 0 rfl) ?_
                      refine lv_iconst (v := (-1)) hx hb dX12_behindSum_139 (by decide) ?_
                      refine lv_icmp_ne (tgt := 149) hx hb dX12_behindSum_140 (by decide) (fun c_114 => ?_) (fun c_114 => ?_)
                      ·
                        have n_114 : gNe (z111.toInt) ((-1)) := by have z := g5_ne (a := z111.toInt) (b := (-1)) (by rfl) (by decide) c_114; unfold gNe; omega
                        refine lv_aload_n hx hb dX12_behindSum_149 rfl (lv_at hl 2 rfl) ?_
                        obtain ⟨hPc, hDc, hFc⟩ := g5_sub3 (wc := [(b_o, (oc12 u_th u_sa b_rf b_ro b_im b_ke u_fd b_tp u_td u_fr u_to u_so u_wo u_fa u_bd u_nc b_nl u_co b_op b_ar u_le b_pi b_pa u_pd u_od b_ws b_hw u_la b_se b_re u_bk u_va u_su u_ce u_ho u_wy u_bt u_ps b_pt u_tg u_sn b_ip u_ic b_ah b_be b_me u_wd b_tr b_ld u_st b_wn u_id)), (b_pi, (arI G 400 v_pi))]) hP hD hS hA [4, 5] (by decide) rfl
                        refine va_calli (va_runV (As := []) (rest := []) ⟨hx, hb, hml, hown, hts⟩ (n_isCompared l G b_o b_pi b_rf b_ro b_im b_ke b_tp b_nl b_op b_ar b_pa b_ws b_hw b_se b_re b_pt b_ip b_ah b_be b_me b_tr b_ld b_wn H.size u_th u_sa u_fd u_td u_fr u_to u_so u_fa u_bd u_nc u_co u_le u_pd u_od u_la u_bk u_ce u_ho u_wy u_bt u_ps u_tg u_sn u_ic u_wd u_id u_wo u_va u_su u_st v_pi h_u_td h_u_fr h_u_to ⟨by omega, by omega⟩ h_u_nc h_u_co h_u_pd h_u_la h_u_bk h_u_ce h_u_ho h_u_wy h_u_bt h_u_ps h_u_ic h_u_id) (cwV 0 hts gV_X12_294 rfl rfl rfl hv_X12_isCompared ⟨Nat.le_of_ble_eq_true rfl, Nat.le_of_ble_eq_true rfl⟩) (g5_preV hPc hK hDc hN hT hS hFc (ci := 12) (q0 := 0) rfl rfl) rfl rfl hl.1 rfl (lv_room (Nat.le_of_ble_eq_true rfl)) dX12_behindSum_150 ⟨Nat.le_of_ble_eq_true rfl, Nat.le_of_ble_eq_true rfl⟩) hS (fun q _ h => hFc q h) hFc (fun r u t H1 locs ht hvm hw hB hz1 hk1 hS => ?_)
                        obtain ⟨hP1, hD1⟩ := hB
                        rw [ht] at hP1
                        obtain ⟨z116, i_115, y117, rfl⟩ := hw
                        have i_115 : 0 ≤ z116.toInt ∧ z116.toInt ≤ 1 := i_115
                        obtain ⟨hP, hD⟩ := va_join (wr := [(b_tp, (arI G 400 v_tp)), (b_op, (arI G 400 v_op)), (b_ar, (arI G 400 v_ar)), (b_pa, (arI G 400 v_pa))]) hP hD [4, 5] [0, 1, 2, 3] rfl rfl (by decide) (by decide) hk1 hFc hP1 hD1
                        generalize H1 = H at hP hS ⊢
                        refine g5_rs [(b_tp, (arI G 400 v_tp)), (b_op, (arI G 400 v_op)), (b_ar, (arI G 400 v_ar)), (b_pa, (arI G 400 v_pa)), (b_o, (oc12 u_th u_sa b_rf b_ro b_im b_ke u_fd b_tp u_td u_fr u_to u_so u_wo u_fa u_bd u_nc b_nl u_co b_op b_ar u_le b_pi b_pa u_pd u_od b_ws b_hw u_la b_se b_re u_bk u_va u_su u_ce u_ho u_wy u_bt u_ps b_pt u_tg u_sn b_ip u_ic b_ah b_be b_me u_wd b_tr b_ld u_st b_wn u_id)), (b_pi, (arI G 400 v_pi))] hP hD (fun hP hD => ?_)
                        refine g5_ti (v := z116) y117 ?_
                        refine lv_if_eq (tgt := 158) hx hb dX12_behindSum_153 (by decide) (fun c_118 => ?_) (fun c_118 => ?_)
                        ·
                          have i_118 : z116.toInt = 0 := by have z := g5_eq (a := z116.toInt) (b := 0) (by rfl) (by decide) c_118; omega
                          refine lv_aload_n hx hb dX12_behindSum_158 rfl (lv_at hl 2 rfl) ?_
                          refine lv_bipush (v := 60) hx hb dX12_behindSum_159 (by decide) ?_
                          obtain ⟨hPc, hDc, hFc⟩ := g5_sub3 (wc := [(b_o, (oc12 u_th u_sa b_rf b_ro b_im b_ke u_fd b_tp u_td u_fr u_to u_so u_wo u_fa u_bd u_nc b_nl u_co b_op b_ar u_le b_pi b_pa u_pd u_od b_ws b_hw u_la b_se b_re u_bk u_va u_su u_ce u_ho u_wy u_bt u_ps b_pt u_tg u_sn b_ip u_ic b_ah b_be b_me u_wd b_tr b_ld u_st b_wn u_id))]) hP hD hS hA [4] (by decide) rfl
                          refine va_calli (va_runV (As := [.int 60]) (rest := []) ⟨hx, hb, hml, hown, hts⟩ (n_isSign l G b_o b_rf b_ro b_im b_ke b_tp b_nl b_op b_ar b_pi b_pa b_ws b_hw b_se b_re b_pt b_ip b_ah b_be b_me b_tr b_ld b_wn H.size u_th u_sa u_fd u_td u_fr u_to u_so u_fa u_bd u_nc u_co u_le u_pd u_od u_la u_bk u_ce u_ho u_wy u_bt u_ps u_tg u_sn u_ic u_wd u_id 60 u_wo u_va u_su u_st h_u_td h_u_fr h_u_to ⟨by omega, by omega⟩ h_u_nc h_u_co h_u_pd h_u_la h_u_bk h_u_ce h_u_ho h_u_wy h_u_bt h_u_ps h_u_ic h_u_id) (cwV 1 hts gV_X12_267 rfl rfl rfl hv_X12_isSign ⟨Nat.le_of_ble_eq_true rfl, Nat.le_of_ble_eq_true rfl⟩) (g5_preV hPc hK hDc hN hT hS hFc (ci := 12) (q0 := 0) rfl rfl) rfl rfl hl.1 rfl (lv_room (Nat.le_of_ble_eq_true rfl)) dX12_behindSum_161 ⟨Nat.le_of_ble_eq_true rfl, Nat.le_of_ble_eq_true rfl⟩) hS (fun q _ h => hFc q h) hFc (fun r u t H1 locs ht hvm hw hB hz1 hk1 hS => ?_)
                          obtain ⟨hP1, hD1⟩ := hB
                          rw [ht] at hP1
                          rcases hw with ⟨i_119, rfl, rfl⟩ | ⟨rfl, rfl⟩
                          ·
                            have i_119 : u_so.toInt = 3 := i_119
                            obtain ⟨hP, hD⟩ := va_join (wr := [(b_tp, (arI G 400 v_tp)), (b_op, (arI G 400 v_op)), (b_ar, (arI G 400 v_ar)), (b_pa, (arI G 400 v_pa)), (b_pi, (arI G 400 v_pi))]) hP hD [4] [0, 1, 2, 3, 5] rfl rfl (by decide) (by decide) hk1 hFc hP1 hD1
                            generalize H1 = H at hP hS ⊢
                            refine g5_rs [(b_tp, (arI G 400 v_tp)), (b_op, (arI G 400 v_op)), (b_ar, (arI G 400 v_ar)), (b_pa, (arI G 400 v_pa)), (b_pi, (arI G 400 v_pi)), (b_o, (oc12 u_th u_sa b_rf b_ro b_im b_ke u_fd b_tp u_td u_fr u_to u_so u_wo u_fa u_bd u_nc b_nl u_co b_op b_ar u_le b_pi b_pa u_pd u_od b_ws b_hw u_la b_se b_re u_bk u_va u_su u_ce u_ho u_wy u_bt u_ps b_pt u_tg u_sn b_ip u_ic b_ah b_be b_me u_wd b_tr b_ld u_st b_wn u_id))] hP hD (fun hP hD => ?_)
                            refine lv_if_eq (tgt := 172) hx hb dX12_behindSum_164 (by decide) (fun c_120 => ?_) (fun c_120 => ?_)
                            ·
                              exact absurd c_120 (by decide)
                            ·
                              refine lv_bipush (v := 24) hx hb dX12_behindSum_167 (by decide) ?_
                              refine lv_goto (tgt := 188) hx hb dX12_behindSum_169 (by decide) ?_
                              refine lv_istore_n (lv' := [(2, .int 24), (3, .int z111), (0, .ref b_o), (1, .int p_1)]) hx hb dX12_behindSum_188 rfl hl (by decide) rfl (fun ls hl => ?_)
                              refine lv_aload_n hx hb dX12_behindSum_189 rfl (lv_at hl 2 rfl) ?_
                              refine lv_iload_n hx hb dX12_behindSum_190 rfl (lv_at hl 0 rfl) ?_
                              refine lv_bipush (v := 26) hx hb dX12_behindSum_191 (by decide) ?_
                              refine lv_icmp_ne (tgt := 205) hx hb dX12_behindSum_193 (by decide) (fun c_121 => ?_) (fun c_121 => ?_)
                              ·
                                refine lv_iconst (v := 1) hx hb dX12_behindSum_205 (by decide) ?_
                                refine lv_goto (tgt := 210) hx hb dX12_behindSum_206 (by decide) ?_
                                have hlt9 : u_fr.toInt < u_to.toInt := tks_lt e_s (by omega)
                                obtain ⟨hPc, hDc, hFc⟩ := g5_sub3 (wc := [(b_o, (oc12 u_th u_sa b_rf b_ro b_im b_ke u_fd b_tp u_td u_fr u_to u_so u_wo u_fa u_bd u_nc b_nl u_co b_op b_ar u_le b_pi b_pa u_pd u_od b_ws b_hw u_la b_se b_re u_bk u_va u_su u_ce u_ho u_wy u_bt u_ps b_pt u_tg u_sn b_ip u_ic b_ah b_be b_me u_wd b_tr b_ld u_st b_wn u_id)), (b_tp, (arI G 400 v_tp))]) hP hD hS hA [5, 0] (by decide) rfl
                                refine va_callv (va_runV (As := [.int 1]) (rest := []) ⟨hx, hb, hml, hown, hts⟩ (n_must1 l G b_o b_tp b_rf b_ro b_im b_ke b_nl b_op b_ar b_pi b_pa b_ws b_hw b_se b_re b_pt b_ip b_ah b_be b_me b_tr b_ld b_wn H.size u_th u_sa u_fd u_td u_fr u_to u_so u_fa u_bd u_nc u_co u_le u_pd u_od u_la u_bk u_ce u_ho u_wy u_bt u_ps u_tg u_sn u_ic u_wd u_id u_wo u_va u_su u_st v_tp h_u_td h_u_fr h_u_to h_u_bd h_u_nc h_u_co h_u_pd h_u_la h_u_bk h_u_ce h_u_ho h_u_wy h_u_bt h_u_ps h_u_ic h_u_id (by omega)) (cwV 1 hts gV_X12_233 rfl rfl rfl hv_X12_must ⟨Nat.le_of_ble_eq_true rfl, Nat.le_of_ble_eq_true rfl⟩) (g5_preV hPc hK hDc hN hT hS hFc (ci := 12) (q0 := 0) rfl rfl) rfl rfl hl.1 rfl (lv_room (Nat.le_of_ble_eq_true rfl)) dX12_behindSum_210 ⟨Nat.le_of_ble_eq_true rfl, Nat.le_of_ble_eq_true rfl⟩) hS (fun q _ h => hFc q h) hFc (fun u t H1 locs ht hvm hw hB hz1 hk1 hS => ?_)
                                obtain ⟨hP1, hD1⟩ := hB
                                rw [ht] at hP1
                                obtain ⟨z126, z127, z128, z129, i_122, i_123, i_124, i_125, rfl⟩ := hw
                                have i_122 : 0 ≤ z126.toInt ∧ z126.toInt ≤ 400 := i_122
                                have i_123 : 0 ≤ z127.toInt ∧ z127.toInt ≤ 400 := i_123
                                have i_124 : u_to.toInt ≤ z126.toInt ∧ z126.toInt ≤ z127.toInt ∧ z127.toInt ≤ u_td.toInt := i_124
                                have i_125 : TKs z128.toInt z126.toInt z127.toInt := i_125
                                obtain ⟨hP, hD⟩ := va_join (wr := [(b_op, (arI G 400 v_op)), (b_ar, (arI G 400 v_ar)), (b_pa, (arI G 400 v_pa)), (b_pi, (arI G 400 v_pi))]) hP hD [5, 0] [1, 2, 3, 4] rfl rfl (by decide) (by decide) hk1 hFc hP1 hD1
                                generalize H1 = H at hP hS ⊢
                                refine g5_rs [(b_op, (arI G 400 v_op)), (b_ar, (arI G 400 v_ar)), (b_pa, (arI G 400 v_pa)), (b_pi, (arI G 400 v_pi)), (b_o, (oc12 u_th u_sa b_rf b_ro b_im b_ke u_fd b_tp u_td z126 z127 z128 z129 u_fa u_bd u_nc b_nl u_co b_op b_ar u_le b_pi b_pa u_pd u_od b_ws b_hw u_la b_se b_re u_bk u_va u_su u_ce u_ho u_wy u_bt u_ps b_pt u_tg u_sn b_ip u_ic b_ah b_be b_me u_wd b_tr b_ld u_st b_wn u_id)), (b_tp, (arI G 400 v_tp))] hP hD (fun hP hD => ?_)
                                refine lv_aload_n hx hb dX12_behindSum_213 rfl (lv_at hl 2 rfl) ?_
                                refine va_get (D := G.1) (ci := 12) (v := .int u_bd) (C := RX12) (T := TX12) (N := 52) hx hb hts inG_X12 hown hK hP 4 rfl rfl 14 (by decide) (hts _ fl_X12_205) (fun _ h9 => h9) rfl dX12_behindSum_214 ?_
                                refine lv_if_ne (tgt := 231) hx hb dX12_behindSum_217 (by decide) (fun c_130 => ?_) (fun c_130 => ?_)
                                ·
                                  have i_130 : u_bd.toInt ≠ 0 := by have z := g5_ne (a := u_bd.toInt) (b := 0) (by rfl) (by decide) c_130; omega
                                  omega
                                ·
                                  have i_130 : u_bd.toInt = 0 := by have z := g5_neN (a := u_bd.toInt) (b := 0) (by rfl) (by decide) c_130; omega
                                  have hE_131 : HJ v_op v_ar v_pi v_pa g_a.toInt u_co.toInt u_pd.toInt 1 := tj_d1 e_j (by decide)
                                  refine lv_aload_n hx hb dX12_behindSum_220 rfl (lv_at hl 2 rfl) ?_
                                  refine lv_iconst (v := 5) hx hb dX12_behindSum_221 (by decide) ?_
                                  obtain ⟨hPc, hDc, hFc⟩ := g5_sub3 (wc := [(b_o, (oc12 u_th u_sa b_rf b_ro b_im b_ke u_fd b_tp u_td z126 z127 z128 z129 u_fa u_bd u_nc b_nl u_co b_op b_ar u_le b_pi b_pa u_pd u_od b_ws b_hw u_la b_se b_re u_bk u_va u_su u_ce u_ho u_wy u_bt u_ps b_pt u_tg u_sn b_ip u_ic b_ah b_be b_me u_wd b_tr b_ld u_st b_wn u_id)), (b_op, (arI G 400 v_op)), (b_ar, (arI G 400 v_ar)), (b_pi, (arI G 400 v_pi)), (b_pa, (arI G 400 v_pa))]) hP hD hS hA [4, 0, 1, 3, 2] (by decide) rfl
                                  refine va_callv (va_runV (As := [.int 5]) (rest := []) ⟨hx, hb, hml, hown, hts⟩ (n_settleH l G b_o b_op b_ar b_pi b_pa b_rf b_ro b_im b_ke b_tp b_nl b_ws b_hw b_se b_re b_pt b_ip b_ah b_be b_me b_tr b_ld b_wn H.size u_th u_sa u_fd u_td z126 z127 z128 u_fa u_bd u_nc u_co u_le u_pd u_od u_la u_bk u_ce u_ho u_wy u_bt u_ps u_tg u_sn u_ic u_wd u_id 5 g_a u_fr z129 u_va u_su u_st v_op v_ar v_pi v_pa g_op g_ar h_u_td i_122 i_123 ⟨by omega, by omega⟩ h_u_nc h_u_co h_u_pd h_u_la h_u_bk h_u_ce h_u_ho h_u_wy h_u_bt h_u_ps h_u_ic h_u_id ⟨by decide, by decide⟩ (by omega) (e_x) (hE_131)) (cwV 1 hts gV_X12_288 rfl rfl rfl hv_X12_settle ⟨Nat.le_of_ble_eq_true rfl, Nat.le_of_ble_eq_true rfl⟩) (g5_preV hPc hK hDc hN hT hS hFc (ci := 12) (q0 := 0) rfl rfl) rfl rfl hl.1 rfl (lv_room (Nat.le_of_ble_eq_true rfl)) dX12_behindSum_222 ⟨Nat.le_of_ble_eq_true rfl, Nat.le_of_ble_eq_true rfl⟩) hS (fun q _ h => hFc q h) hFc (fun u t H1 locs ht hvm hw hB hz1 hk1 hS => ?_)
                                  obtain ⟨hP1, hD1⟩ := hB
                                  rw [ht] at hP1
                                  obtain ⟨z139, z140, z141, z142, i_132, i_133, i_134, i_135, i_136, i_137, i_138, rfl⟩ := hw
                                  have i_132 : 0 ≤ z139.toInt ∧ z139.toInt ≤ 400 := i_132
                                  have i_133 : 0 ≤ z140.toInt ∧ z140.toInt ≤ 400 := i_133
                                  have i_134 : XJ g_op g_ar z141 z142 v_pi v_pa g_a.toInt z139.toInt z140.toInt u_fr.toInt := i_134
                                  have i_135 : HJ z141 z142 v_pi v_pa g_a.toInt z139.toInt z140.toInt 1 := i_135
                                  have i_136 : S1 v_pi u_pd.toInt z140.toInt := i_136
                                  have i_137 : S2 v_pi z140.toInt (5 : Int32).toInt := i_137
                                  have i_138 : z140.toInt ≤ u_pd.toInt := i_138
                                  obtain ⟨hP, hD⟩ := va_join (wr := [(b_tp, (arI G 400 v_tp))]) hP hD [4, 0, 1, 3, 2] [5] rfl rfl (by decide) (by decide) hk1 hFc hP1 hD1
                                  generalize H1 = H at hP hS ⊢
                                  refine g5_rs [(b_tp, (arI G 400 v_tp)), (b_o, (oc12 u_th u_sa b_rf b_ro b_im b_ke u_fd b_tp u_td z126 z127 z128 z129 u_fa u_bd u_nc b_nl z139 b_op b_ar u_le b_pi b_pa z140 u_od b_ws b_hw u_la b_se b_re u_bk u_va u_su u_ce u_ho u_wy u_bt u_ps b_pt u_tg u_sn b_ip u_ic b_ah b_be b_me u_wd b_tr b_ld u_st b_wn u_id)), (b_op, (arI G 400 z141)), (b_ar, (arI G 400 z142)), (b_pi, (arI G 400 v_pi)), (b_pa, (arI G 400 v_pa))] hP hD (fun hP hD => ?_)
                                  have hmf8 := xj_mf i_134
                                  refine lv_aload_n hx hb dX12_behindSum_225 rfl (lv_at hl 2 rfl) ?_
                                  refine lv_iload_n hx hb dX12_behindSum_226 rfl (lv_at hl 0 rfl) ?_
                                  refine lv_iconst (v := 0) hx hb dX12_behindSum_227 (by decide) ?_
                                  obtain ⟨hPc, hDc, hFc⟩ := g5_sub3 (wc := [(b_o, (oc12 u_th u_sa b_rf b_ro b_im b_ke u_fd b_tp u_td z126 z127 z128 z129 u_fa u_bd u_nc b_nl z139 b_op b_ar u_le b_pi b_pa z140 u_od b_ws b_hw u_la b_se b_re u_bk u_va u_su u_ce u_ho u_wy u_bt u_ps b_pt u_tg u_sn b_ip u_ic b_ah b_be b_me u_wd b_tr b_ld u_st b_wn u_id)), (b_pi, (arI G 400 v_pi)), (b_pa, (arI G 400 v_pa))]) hP hD hS hA [1, 4, 5] (by decide) rfl
                                  refine va_callv (va_runV (As := [.int 24, .int 0]) (rest := []) ⟨hx, hb, hml, hown, hts⟩ (n_push l G b_o b_pi b_pa b_rf b_ro b_im b_ke b_tp b_nl b_op b_ar b_ws b_hw b_se b_re b_pt b_ip b_ah b_be b_me b_tr b_ld b_wn H.size u_th u_sa u_fd u_td z126 z127 z128 u_fa u_bd u_nc z139 u_le z140 u_od u_la u_bk u_ce u_ho u_wy u_bt u_ps u_tg u_sn u_ic u_wd u_id 24 0 z129 u_va u_su u_st v_pi v_pa h_u_td i_122 i_123 ⟨by omega, by omega⟩ h_u_nc i_132 i_133 h_u_la h_u_bk h_u_ce h_u_ho h_u_wy h_u_bt h_u_ps h_u_ic h_u_id (by omega)) (cwV 2 hts gV_X12_261 rfl rfl rfl hv_X12_push ⟨Nat.le_of_ble_eq_true rfl, Nat.le_of_ble_eq_true rfl⟩) (g5_preV hPc hK hDc hN hT hS hFc (ci := 12) (q0 := 0) rfl rfl) rfl rfl hl.1 rfl (lv_room (Nat.le_of_ble_eq_true rfl)) dX12_behindSum_228 ⟨Nat.le_of_ble_eq_true rfl, Nat.le_of_ble_eq_true rfl⟩) hS (fun q _ h => hFc q h) hFc (fun u t H1 locs ht hvm hw hB hz1 hk1 hS => ?_)
                                  obtain ⟨hP1, hD1⟩ := hB
                                  rw [ht] at hP1
                                  obtain ⟨z145, i_143, i_144, rfl⟩ := hw
                                  have i_143 : 0 ≤ z145.toInt ∧ z145.toInt ≤ 400 := i_143
                                  have i_144 : z145.toInt = z140.toInt + 1 := i_144
                                  obtain ⟨hP, hD⟩ := va_join (wr := [(b_tp, (arI G 400 v_tp)), (b_op, (arI G 400 z141)), (b_ar, (arI G 400 z142))]) hP hD [1, 4, 5] [0, 2, 3] rfl rfl (by decide) (by decide) hk1 hFc hP1 hD1
                                  generalize H1 = H at hP hS ⊢
                                  refine g5_rs [(b_tp, (arI G 400 v_tp)), (b_op, (arI G 400 z141)), (b_ar, (arI G 400 z142)), (b_o, (oc12 u_th u_sa b_rf b_ro b_im b_ke u_fd b_tp u_td z126 z127 z128 z129 u_fa u_bd u_nc b_nl z139 b_op b_ar u_le b_pi b_pa z145 u_od b_ws b_hw u_la b_se b_re u_bk u_va u_su u_ce u_ho u_wy u_bt u_ps b_pt u_tg u_sn b_ip u_ic b_ah b_be b_me u_wd b_tr b_ld u_st b_wn u_id)), (b_pi, (arI G 400 (upd v_pi z140.toNatClampNeg 24))), (b_pa, (arI G 400 (upd v_pa z140.toNatClampNeg 0)))] hP hD (fun hP hD => ?_)
                                  refine lv_iconst (v := 1) hx hb dX12_behindSum_231 (by decide) ?_
                                  exact W.iret (v := 1) hx hb hr (fun t ht hW => ⟨⟨1, [(b_o, (oc12 u_th u_sa b_rf b_ro b_im b_ke u_fd b_tp u_td z126 z127 z128 z129 u_fa u_bd u_nc b_nl z139 b_op b_ar u_le b_pi b_pa z145 u_od b_ws b_hw u_la b_se b_re u_bk u_va u_su u_ce u_ho u_wy u_bt u_ps b_pt u_tg u_sn b_ip u_ic b_ah b_be b_me u_wd b_tr b_ld u_st b_wn u_id)), (b_tp, (arI G 400 v_tp)), (b_op, (arI G 400 z141)), (b_ar, (arI G 400 z142)), (b_pi, (arI G 400 (upd v_pi z140.toNatClampNeg 24))), (b_pa, (arI G 400 (upd v_pa z140.toNatClampNeg 0)))], rfl, Or.inr (⟨1, z126, z127, z128, z129, z139, z145, u_od, z141, z142, (upd v_pi z140.toNatClampNeg 24), (upd v_pa z140.toNatClampNeg 0), i_122, i_123, i_132, i_143, ⟨by have zc_o_r : (1 : Int32).toInt = 1 := (by decide); omega, by have zc_o_r : (1 : Int32).toInt = 1 := (by decide); omega⟩, by omega, i_125, xj_push i_134 (by omega) (by omega) ⟨by decide, by decide⟩ (Or.inl (by decide)), tj_1 (hj_push2 i_135 (by omega) (by omega) ⟨by decide, by decide⟩ (Or.inr (no31_le (inn_no31 i_110 (tj_d1 e_j (by decide)) n_113) (by omega)))) (by decide), by have w9 := (twt_0 (by decide) : twt (1 : Int32).toInt = 0); omega, rfl, rfl⟩), by rw [ht]; exact hP.sub [3, 0, 1, 2, 4, 5] rfl, hD.sub [3, 0, 1, 2, 4, 5] (by decide) rfl⟩, hS.F ht⟩) hS.2.2 dX12_behindSum_232
                              ·
                                exact absurd c_121 (by decide)
                          ·
                            obtain ⟨hP, hD⟩ := va_join (wr := [(b_tp, (arI G 400 v_tp)), (b_op, (arI G 400 v_op)), (b_ar, (arI G 400 v_ar)), (b_pa, (arI G 400 v_pa)), (b_pi, (arI G 400 v_pi))]) hP hD [4] [0, 1, 2, 3, 5] rfl rfl (by decide) (by decide) hk1 hFc hP1 hD1
                            generalize H1 = H at hP hS ⊢
                            refine g5_rs [(b_tp, (arI G 400 v_tp)), (b_op, (arI G 400 v_op)), (b_ar, (arI G 400 v_ar)), (b_pa, (arI G 400 v_pa)), (b_pi, (arI G 400 v_pi)), (b_o, (oc12 u_th u_sa b_rf b_ro b_im b_ke u_fd b_tp u_td u_fr u_to u_so u_wo u_fa u_bd u_nc b_nl u_co b_op b_ar u_le b_pi b_pa u_pd u_od b_ws b_hw u_la b_se b_re u_bk u_va u_su u_ce u_ho u_wy u_bt u_ps b_pt u_tg u_sn b_ip u_ic b_ah b_be b_me u_wd b_tr b_ld u_st b_wn u_id))] hP hD (fun hP hD => ?_)
                            refine lv_if_eq (tgt := 172) hx hb dX12_behindSum_164 (by decide) (fun c_146 => ?_) (fun c_146 => ?_)
                            ·
                              refine lv_aload_n hx hb dX12_behindSum_172 rfl (lv_at hl 2 rfl) ?_
                              refine lv_bipush (v := 62) hx hb dX12_behindSum_173 (by decide) ?_
                              obtain ⟨hPc, hDc, hFc⟩ := g5_sub3 (wc := [(b_o, (oc12 u_th u_sa b_rf b_ro b_im b_ke u_fd b_tp u_td u_fr u_to u_so u_wo u_fa u_bd u_nc b_nl u_co b_op b_ar u_le b_pi b_pa u_pd u_od b_ws b_hw u_la b_se b_re u_bk u_va u_su u_ce u_ho u_wy u_bt u_ps b_pt u_tg u_sn b_ip u_ic b_ah b_be b_me u_wd b_tr b_ld u_st b_wn u_id))]) hP hD hS hA [5] (by decide) rfl
                              refine va_calli (va_runV (As := [.int 62]) (rest := []) ⟨hx, hb, hml, hown, hts⟩ (n_isSign l G b_o b_rf b_ro b_im b_ke b_tp b_nl b_op b_ar b_pi b_pa b_ws b_hw b_se b_re b_pt b_ip b_ah b_be b_me b_tr b_ld b_wn H.size u_th u_sa u_fd u_td u_fr u_to u_so u_fa u_bd u_nc u_co u_le u_pd u_od u_la u_bk u_ce u_ho u_wy u_bt u_ps u_tg u_sn u_ic u_wd u_id 62 u_wo u_va u_su u_st h_u_td h_u_fr h_u_to ⟨by omega, by omega⟩ h_u_nc h_u_co h_u_pd h_u_la h_u_bk h_u_ce h_u_ho h_u_wy h_u_bt h_u_ps h_u_ic h_u_id) (cwV 1 hts gV_X12_267 rfl rfl rfl hv_X12_isSign ⟨Nat.le_of_ble_eq_true rfl, Nat.le_of_ble_eq_true rfl⟩) (g5_preV hPc hK hDc hN hT hS hFc (ci := 12) (q0 := 0) rfl rfl) rfl rfl hl.1 rfl (lv_room (Nat.le_of_ble_eq_true rfl)) dX12_behindSum_175 ⟨Nat.le_of_ble_eq_true rfl, Nat.le_of_ble_eq_true rfl⟩) hS (fun q _ h => hFc q h) hFc (fun r u t H1 locs ht hvm hw hB hz1 hk1 hS => ?_)
                              obtain ⟨hP1, hD1⟩ := hB
                              rw [ht] at hP1
                              rcases hw with ⟨i_147, rfl, rfl⟩ | ⟨rfl, rfl⟩
                              ·
                                have i_147 : u_so.toInt = 3 := i_147
                                obtain ⟨hP, hD⟩ := va_join (wr := [(b_tp, (arI G 400 v_tp)), (b_op, (arI G 400 v_op)), (b_ar, (arI G 400 v_ar)), (b_pa, (arI G 400 v_pa)), (b_pi, (arI G 400 v_pi))]) hP hD [5] [0, 1, 2, 3, 4] rfl rfl (by decide) (by decide) hk1 hFc hP1 hD1
                                generalize H1 = H at hP hS ⊢
                                refine g5_rs [(b_tp, (arI G 400 v_tp)), (b_op, (arI G 400 v_op)), (b_ar, (arI G 400 v_ar)), (b_pa, (arI G 400 v_pa)), (b_pi, (arI G 400 v_pi)), (b_o, (oc12 u_th u_sa b_rf b_ro b_im b_ke u_fd b_tp u_td u_fr u_to u_so u_wo u_fa u_bd u_nc b_nl u_co b_op b_ar u_le b_pi b_pa u_pd u_od b_ws b_hw u_la b_se b_re u_bk u_va u_su u_ce u_ho u_wy u_bt u_ps b_pt u_tg u_sn b_ip u_ic b_ah b_be b_me u_wd b_tr b_ld u_st b_wn u_id))] hP hD (fun hP hD => ?_)
                                refine lv_if_eq (tgt := 186) hx hb dX12_behindSum_178 (by decide) (fun c_148 => ?_) (fun c_148 => ?_)
                                ·
                                  exact absurd c_148 (by decide)
                                ·
                                  refine lv_bipush (v := 25) hx hb dX12_behindSum_181 (by decide) ?_
                                  refine lv_goto (tgt := 188) hx hb dX12_behindSum_183 (by decide) ?_
                                  refine lv_istore_n (lv' := [(2, .int 25), (3, .int z111), (0, .ref b_o), (1, .int p_1)]) hx hb dX12_behindSum_188 rfl hl (by decide) rfl (fun ls hl => ?_)
                                  refine lv_aload_n hx hb dX12_behindSum_189 rfl (lv_at hl 2 rfl) ?_
                                  refine lv_iload_n hx hb dX12_behindSum_190 rfl (lv_at hl 0 rfl) ?_
                                  refine lv_bipush (v := 26) hx hb dX12_behindSum_191 (by decide) ?_
                                  refine lv_icmp_ne (tgt := 205) hx hb dX12_behindSum_193 (by decide) (fun c_149 => ?_) (fun c_149 => ?_)
                                  ·
                                    refine lv_iconst (v := 1) hx hb dX12_behindSum_205 (by decide) ?_
                                    refine lv_goto (tgt := 210) hx hb dX12_behindSum_206 (by decide) ?_
                                    have hlt9 : u_fr.toInt < u_to.toInt := tks_lt e_s (by omega)
                                    obtain ⟨hPc, hDc, hFc⟩ := g5_sub3 (wc := [(b_o, (oc12 u_th u_sa b_rf b_ro b_im b_ke u_fd b_tp u_td u_fr u_to u_so u_wo u_fa u_bd u_nc b_nl u_co b_op b_ar u_le b_pi b_pa u_pd u_od b_ws b_hw u_la b_se b_re u_bk u_va u_su u_ce u_ho u_wy u_bt u_ps b_pt u_tg u_sn b_ip u_ic b_ah b_be b_me u_wd b_tr b_ld u_st b_wn u_id)), (b_tp, (arI G 400 v_tp))]) hP hD hS hA [5, 0] (by decide) rfl
                                    refine va_callv (va_runV (As := [.int 1]) (rest := []) ⟨hx, hb, hml, hown, hts⟩ (n_must1 l G b_o b_tp b_rf b_ro b_im b_ke b_nl b_op b_ar b_pi b_pa b_ws b_hw b_se b_re b_pt b_ip b_ah b_be b_me b_tr b_ld b_wn H.size u_th u_sa u_fd u_td u_fr u_to u_so u_fa u_bd u_nc u_co u_le u_pd u_od u_la u_bk u_ce u_ho u_wy u_bt u_ps u_tg u_sn u_ic u_wd u_id u_wo u_va u_su u_st v_tp h_u_td h_u_fr h_u_to h_u_bd h_u_nc h_u_co h_u_pd h_u_la h_u_bk h_u_ce h_u_ho h_u_wy h_u_bt h_u_ps h_u_ic h_u_id (by omega)) (cwV 1 hts gV_X12_233 rfl rfl rfl hv_X12_must ⟨Nat.le_of_ble_eq_true rfl, Nat.le_of_ble_eq_true rfl⟩) (g5_preV hPc hK hDc hN hT hS hFc (ci := 12) (q0 := 0) rfl rfl) rfl rfl hl.1 rfl (lv_room (Nat.le_of_ble_eq_true rfl)) dX12_behindSum_210 ⟨Nat.le_of_ble_eq_true rfl, Nat.le_of_ble_eq_true rfl⟩) hS (fun q _ h => hFc q h) hFc (fun u t H1 locs ht hvm hw hB hz1 hk1 hS => ?_)
                                    obtain ⟨hP1, hD1⟩ := hB
                                    rw [ht] at hP1
                                    obtain ⟨z154, z155, z156, z157, i_150, i_151, i_152, i_153, rfl⟩ := hw
                                    have i_150 : 0 ≤ z154.toInt ∧ z154.toInt ≤ 400 := i_150
                                    have i_151 : 0 ≤ z155.toInt ∧ z155.toInt ≤ 400 := i_151
                                    have i_152 : u_to.toInt ≤ z154.toInt ∧ z154.toInt ≤ z155.toInt ∧ z155.toInt ≤ u_td.toInt := i_152
                                    have i_153 : TKs z156.toInt z154.toInt z155.toInt := i_153
                                    obtain ⟨hP, hD⟩ := va_join (wr := [(b_op, (arI G 400 v_op)), (b_ar, (arI G 400 v_ar)), (b_pa, (arI G 400 v_pa)), (b_pi, (arI G 400 v_pi))]) hP hD [5, 0] [1, 2, 3, 4] rfl rfl (by decide) (by decide) hk1 hFc hP1 hD1
                                    generalize H1 = H at hP hS ⊢
                                    refine g5_rs [(b_op, (arI G 400 v_op)), (b_ar, (arI G 400 v_ar)), (b_pa, (arI G 400 v_pa)), (b_pi, (arI G 400 v_pi)), (b_o, (oc12 u_th u_sa b_rf b_ro b_im b_ke u_fd b_tp u_td z154 z155 z156 z157 u_fa u_bd u_nc b_nl u_co b_op b_ar u_le b_pi b_pa u_pd u_od b_ws b_hw u_la b_se b_re u_bk u_va u_su u_ce u_ho u_wy u_bt u_ps b_pt u_tg u_sn b_ip u_ic b_ah b_be b_me u_wd b_tr b_ld u_st b_wn u_id)), (b_tp, (arI G 400 v_tp))] hP hD (fun hP hD => ?_)
                                    refine lv_aload_n hx hb dX12_behindSum_213 rfl (lv_at hl 2 rfl) ?_
                                    refine va_get (D := G.1) (ci := 12) (v := .int u_bd) (C := RX12) (T := TX12) (N := 52) hx hb hts inG_X12 hown hK hP 4 rfl rfl 14 (by decide) (hts _ fl_X12_205) (fun _ h9 => h9) rfl dX12_behindSum_214 ?_
                                    refine lv_if_ne (tgt := 231) hx hb dX12_behindSum_217 (by decide) (fun c_158 => ?_) (fun c_158 => ?_)
                                    ·
                                      have i_158 : u_bd.toInt ≠ 0 := by have z := g5_ne (a := u_bd.toInt) (b := 0) (by rfl) (by decide) c_158; omega
                                      omega
                                    ·
                                      have i_158 : u_bd.toInt = 0 := by have z := g5_neN (a := u_bd.toInt) (b := 0) (by rfl) (by decide) c_158; omega
                                      have hE_159 : HJ v_op v_ar v_pi v_pa g_a.toInt u_co.toInt u_pd.toInt 1 := tj_d1 e_j (by decide)
                                      refine lv_aload_n hx hb dX12_behindSum_220 rfl (lv_at hl 2 rfl) ?_
                                      refine lv_iconst (v := 5) hx hb dX12_behindSum_221 (by decide) ?_
                                      obtain ⟨hPc, hDc, hFc⟩ := g5_sub3 (wc := [(b_o, (oc12 u_th u_sa b_rf b_ro b_im b_ke u_fd b_tp u_td z154 z155 z156 z157 u_fa u_bd u_nc b_nl u_co b_op b_ar u_le b_pi b_pa u_pd u_od b_ws b_hw u_la b_se b_re u_bk u_va u_su u_ce u_ho u_wy u_bt u_ps b_pt u_tg u_sn b_ip u_ic b_ah b_be b_me u_wd b_tr b_ld u_st b_wn u_id)), (b_op, (arI G 400 v_op)), (b_ar, (arI G 400 v_ar)), (b_pi, (arI G 400 v_pi)), (b_pa, (arI G 400 v_pa))]) hP hD hS hA [4, 0, 1, 3, 2] (by decide) rfl
                                      refine va_callv (va_runV (As := [.int 5]) (rest := []) ⟨hx, hb, hml, hown, hts⟩ (n_settleH l G b_o b_op b_ar b_pi b_pa b_rf b_ro b_im b_ke b_tp b_nl b_ws b_hw b_se b_re b_pt b_ip b_ah b_be b_me b_tr b_ld b_wn H.size u_th u_sa u_fd u_td z154 z155 z156 u_fa u_bd u_nc u_co u_le u_pd u_od u_la u_bk u_ce u_ho u_wy u_bt u_ps u_tg u_sn u_ic u_wd u_id 5 g_a u_fr z157 u_va u_su u_st v_op v_ar v_pi v_pa g_op g_ar h_u_td i_150 i_151 ⟨by omega, by omega⟩ h_u_nc h_u_co h_u_pd h_u_la h_u_bk h_u_ce h_u_ho h_u_wy h_u_bt h_u_ps h_u_ic h_u_id ⟨by decide, by decide⟩ (by omega) (e_x) (hE_159)) (cwV 1 hts gV_X12_288 rfl rfl rfl hv_X12_settle ⟨Nat.le_of_ble_eq_true rfl, Nat.le_of_ble_eq_true rfl⟩) (g5_preV hPc hK hDc hN hT hS hFc (ci := 12) (q0 := 0) rfl rfl) rfl rfl hl.1 rfl (lv_room (Nat.le_of_ble_eq_true rfl)) dX12_behindSum_222 ⟨Nat.le_of_ble_eq_true rfl, Nat.le_of_ble_eq_true rfl⟩) hS (fun q _ h => hFc q h) hFc (fun u t H1 locs ht hvm hw hB hz1 hk1 hS => ?_)
                                      obtain ⟨hP1, hD1⟩ := hB
                                      rw [ht] at hP1
                                      obtain ⟨z167, z168, z169, z170, i_160, i_161, i_162, i_163, i_164, i_165, i_166, rfl⟩ := hw
                                      have i_160 : 0 ≤ z167.toInt ∧ z167.toInt ≤ 400 := i_160
                                      have i_161 : 0 ≤ z168.toInt ∧ z168.toInt ≤ 400 := i_161
                                      have i_162 : XJ g_op g_ar z169 z170 v_pi v_pa g_a.toInt z167.toInt z168.toInt u_fr.toInt := i_162
                                      have i_163 : HJ z169 z170 v_pi v_pa g_a.toInt z167.toInt z168.toInt 1 := i_163
                                      have i_164 : S1 v_pi u_pd.toInt z168.toInt := i_164
                                      have i_165 : S2 v_pi z168.toInt (5 : Int32).toInt := i_165
                                      have i_166 : z168.toInt ≤ u_pd.toInt := i_166
                                      obtain ⟨hP, hD⟩ := va_join (wr := [(b_tp, (arI G 400 v_tp))]) hP hD [4, 0, 1, 3, 2] [5] rfl rfl (by decide) (by decide) hk1 hFc hP1 hD1
                                      generalize H1 = H at hP hS ⊢
                                      refine g5_rs [(b_tp, (arI G 400 v_tp)), (b_o, (oc12 u_th u_sa b_rf b_ro b_im b_ke u_fd b_tp u_td z154 z155 z156 z157 u_fa u_bd u_nc b_nl z167 b_op b_ar u_le b_pi b_pa z168 u_od b_ws b_hw u_la b_se b_re u_bk u_va u_su u_ce u_ho u_wy u_bt u_ps b_pt u_tg u_sn b_ip u_ic b_ah b_be b_me u_wd b_tr b_ld u_st b_wn u_id)), (b_op, (arI G 400 z169)), (b_ar, (arI G 400 z170)), (b_pi, (arI G 400 v_pi)), (b_pa, (arI G 400 v_pa))] hP hD (fun hP hD => ?_)
                                      have hmf8 := xj_mf i_162
                                      refine lv_aload_n hx hb dX12_behindSum_225 rfl (lv_at hl 2 rfl) ?_
                                      refine lv_iload_n hx hb dX12_behindSum_226 rfl (lv_at hl 0 rfl) ?_
                                      refine lv_iconst (v := 0) hx hb dX12_behindSum_227 (by decide) ?_
                                      obtain ⟨hPc, hDc, hFc⟩ := g5_sub3 (wc := [(b_o, (oc12 u_th u_sa b_rf b_ro b_im b_ke u_fd b_tp u_td z154 z155 z156 z157 u_fa u_bd u_nc b_nl z167 b_op b_ar u_le b_pi b_pa z168 u_od b_ws b_hw u_la b_se b_re u_bk u_va u_su u_ce u_ho u_wy u_bt u_ps b_pt u_tg u_sn b_ip u_ic b_ah b_be b_me u_wd b_tr b_ld u_st b_wn u_id)), (b_pi, (arI G 400 v_pi)), (b_pa, (arI G 400 v_pa))]) hP hD hS hA [1, 4, 5] (by decide) rfl
                                      refine va_callv (va_runV (As := [.int 25, .int 0]) (rest := []) ⟨hx, hb, hml, hown, hts⟩ (n_push l G b_o b_pi b_pa b_rf b_ro b_im b_ke b_tp b_nl b_op b_ar b_ws b_hw b_se b_re b_pt b_ip b_ah b_be b_me b_tr b_ld b_wn H.size u_th u_sa u_fd u_td z154 z155 z156 u_fa u_bd u_nc z167 u_le z168 u_od u_la u_bk u_ce u_ho u_wy u_bt u_ps u_tg u_sn u_ic u_wd u_id 25 0 z157 u_va u_su u_st v_pi v_pa h_u_td i_150 i_151 ⟨by omega, by omega⟩ h_u_nc i_160 i_161 h_u_la h_u_bk h_u_ce h_u_ho h_u_wy h_u_bt h_u_ps h_u_ic h_u_id (by omega)) (cwV 2 hts gV_X12_261 rfl rfl rfl hv_X12_push ⟨Nat.le_of_ble_eq_true rfl, Nat.le_of_ble_eq_true rfl⟩) (g5_preV hPc hK hDc hN hT hS hFc (ci := 12) (q0 := 0) rfl rfl) rfl rfl hl.1 rfl (lv_room (Nat.le_of_ble_eq_true rfl)) dX12_behindSum_228 ⟨Nat.le_of_ble_eq_true rfl, Nat.le_of_ble_eq_true rfl⟩) hS (fun q _ h => hFc q h) hFc (fun u t H1 locs ht hvm hw hB hz1 hk1 hS => ?_)
                                      obtain ⟨hP1, hD1⟩ := hB
                                      rw [ht] at hP1
                                      obtain ⟨z173, i_171, i_172, rfl⟩ := hw
                                      have i_171 : 0 ≤ z173.toInt ∧ z173.toInt ≤ 400 := i_171
                                      have i_172 : z173.toInt = z168.toInt + 1 := i_172
                                      obtain ⟨hP, hD⟩ := va_join (wr := [(b_tp, (arI G 400 v_tp)), (b_op, (arI G 400 z169)), (b_ar, (arI G 400 z170))]) hP hD [1, 4, 5] [0, 2, 3] rfl rfl (by decide) (by decide) hk1 hFc hP1 hD1
                                      generalize H1 = H at hP hS ⊢
                                      refine g5_rs [(b_tp, (arI G 400 v_tp)), (b_op, (arI G 400 z169)), (b_ar, (arI G 400 z170)), (b_o, (oc12 u_th u_sa b_rf b_ro b_im b_ke u_fd b_tp u_td z154 z155 z156 z157 u_fa u_bd u_nc b_nl z167 b_op b_ar u_le b_pi b_pa z173 u_od b_ws b_hw u_la b_se b_re u_bk u_va u_su u_ce u_ho u_wy u_bt u_ps b_pt u_tg u_sn b_ip u_ic b_ah b_be b_me u_wd b_tr b_ld u_st b_wn u_id)), (b_pi, (arI G 400 (upd v_pi z168.toNatClampNeg 25))), (b_pa, (arI G 400 (upd v_pa z168.toNatClampNeg 0)))] hP hD (fun hP hD => ?_)
                                      refine lv_iconst (v := 1) hx hb dX12_behindSum_231 (by decide) ?_
                                      exact W.iret (v := 1) hx hb hr (fun t ht hW => ⟨⟨1, [(b_o, (oc12 u_th u_sa b_rf b_ro b_im b_ke u_fd b_tp u_td z154 z155 z156 z157 u_fa u_bd u_nc b_nl z167 b_op b_ar u_le b_pi b_pa z173 u_od b_ws b_hw u_la b_se b_re u_bk u_va u_su u_ce u_ho u_wy u_bt u_ps b_pt u_tg u_sn b_ip u_ic b_ah b_be b_me u_wd b_tr b_ld u_st b_wn u_id)), (b_tp, (arI G 400 v_tp)), (b_op, (arI G 400 z169)), (b_ar, (arI G 400 z170)), (b_pi, (arI G 400 (upd v_pi z168.toNatClampNeg 25))), (b_pa, (arI G 400 (upd v_pa z168.toNatClampNeg 0)))], rfl, Or.inr (⟨1, z154, z155, z156, z157, z167, z173, u_od, z169, z170, (upd v_pi z168.toNatClampNeg 25), (upd v_pa z168.toNatClampNeg 0), i_150, i_151, i_160, i_171, ⟨by have zc_o_r : (1 : Int32).toInt = 1 := (by decide); omega, by have zc_o_r : (1 : Int32).toInt = 1 := (by decide); omega⟩, by omega, i_153, xj_push i_162 (by omega) (by omega) ⟨by decide, by decide⟩ (Or.inl (by decide)), tj_1 (hj_push2 i_163 (by omega) (by omega) ⟨by decide, by decide⟩ (Or.inr (no31_le (inn_no31 i_110 (tj_d1 e_j (by decide)) n_113) (by omega)))) (by decide), by have w9 := (twt_0 (by decide) : twt (1 : Int32).toInt = 0); omega, rfl, rfl⟩), by rw [ht]; exact hP.sub [3, 0, 1, 2, 4, 5] rfl, hD.sub [3, 0, 1, 2, 4, 5] (by decide) rfl⟩, hS.F ht⟩) hS.2.2 dX12_behindSum_232
                                  ·
                                    exact absurd c_149 (by decide)
                              ·
                                obtain ⟨hP, hD⟩ := va_join (wr := [(b_tp, (arI G 400 v_tp)), (b_op, (arI G 400 v_op)), (b_ar, (arI G 400 v_ar)), (b_pa, (arI G 400 v_pa)), (b_pi, (arI G 400 v_pi))]) hP hD [5] [0, 1, 2, 3, 4] rfl rfl (by decide) (by decide) hk1 hFc hP1 hD1
                                generalize H1 = H at hP hS ⊢
                                refine g5_rs [(b_tp, (arI G 400 v_tp)), (b_op, (arI G 400 v_op)), (b_ar, (arI G 400 v_ar)), (b_pa, (arI G 400 v_pa)), (b_pi, (arI G 400 v_pi)), (b_o, (oc12 u_th u_sa b_rf b_ro b_im b_ke u_fd b_tp u_td u_fr u_to u_so u_wo u_fa u_bd u_nc b_nl u_co b_op b_ar u_le b_pi b_pa u_pd u_od b_ws b_hw u_la b_se b_re u_bk u_va u_su u_ce u_ho u_wy u_bt u_ps b_pt u_tg u_sn b_ip u_ic b_ah b_be b_me u_wd b_tr b_ld u_st b_wn u_id))] hP hD (fun hP hD => ?_)
                                refine lv_if_eq (tgt := 186) hx hb dX12_behindSum_178 (by decide) (fun c_174 => ?_) (fun c_174 => ?_)
                                ·
                                  refine lv_bipush (v := 26) hx hb dX12_behindSum_186 (by decide) ?_
                                  refine lv_istore_n (lv' := [(2, .int 26), (3, .int z111), (0, .ref b_o), (1, .int p_1)]) hx hb dX12_behindSum_188 rfl hl (by decide) rfl (fun ls hl => ?_)
                                  refine lv_aload_n hx hb dX12_behindSum_189 rfl (lv_at hl 2 rfl) ?_
                                  refine lv_iload_n hx hb dX12_behindSum_190 rfl (lv_at hl 0 rfl) ?_
                                  refine lv_bipush (v := 26) hx hb dX12_behindSum_191 (by decide) ?_
                                  refine lv_icmp_ne (tgt := 205) hx hb dX12_behindSum_193 (by decide) (fun c_175 => ?_) (fun c_175 => ?_)
                                  ·
                                    exact absurd c_175 (by decide)
                                  ·
                                    refine lv_aload_n hx hb dX12_behindSum_196 rfl (lv_at hl 2 rfl) ?_
                                    refine lv_bipush (v := 61) hx hb dX12_behindSum_197 (by decide) ?_
                                    obtain ⟨hPc, hDc, hFc⟩ := g5_sub3 (wc := [(b_o, (oc12 u_th u_sa b_rf b_ro b_im b_ke u_fd b_tp u_td u_fr u_to u_so u_wo u_fa u_bd u_nc b_nl u_co b_op b_ar u_le b_pi b_pa u_pd u_od b_ws b_hw u_la b_se b_re u_bk u_va u_su u_ce u_ho u_wy u_bt u_ps b_pt u_tg u_sn b_ip u_ic b_ah b_be b_me u_wd b_tr b_ld u_st b_wn u_id))]) hP hD hS hA [5] (by decide) rfl
                                    refine va_calli (va_runV (As := [.int 61]) (rest := [.ref b_o]) ⟨hx, hb, hml, hown, hts⟩ (n_isSign l G b_o b_rf b_ro b_im b_ke b_tp b_nl b_op b_ar b_pi b_pa b_ws b_hw b_se b_re b_pt b_ip b_ah b_be b_me b_tr b_ld b_wn H.size u_th u_sa u_fd u_td u_fr u_to u_so u_fa u_bd u_nc u_co u_le u_pd u_od u_la u_bk u_ce u_ho u_wy u_bt u_ps u_tg u_sn u_ic u_wd u_id 61 u_wo u_va u_su u_st h_u_td h_u_fr h_u_to ⟨by omega, by omega⟩ h_u_nc h_u_co h_u_pd h_u_la h_u_bk h_u_ce h_u_ho h_u_wy h_u_bt h_u_ps h_u_ic h_u_id) (cwV 1 hts gV_X12_267 rfl rfl rfl hv_X12_isSign ⟨Nat.le_of_ble_eq_true rfl, Nat.le_of_ble_eq_true rfl⟩) (g5_preV hPc hK hDc hN hT hS hFc (ci := 12) (q0 := 0) rfl rfl) rfl rfl hl.1 rfl (lv_room (Nat.le_of_ble_eq_true rfl)) dX12_behindSum_199 ⟨Nat.le_of_ble_eq_true rfl, Nat.le_of_ble_eq_true rfl⟩) hS (fun q _ h => hFc q h) hFc (fun r u t H1 locs ht hvm hw hB hz1 hk1 hS => ?_)
                                    obtain ⟨hP1, hD1⟩ := hB
                                    rw [ht] at hP1
                                    rcases hw with ⟨i_176, rfl, rfl⟩ | ⟨rfl, rfl⟩
                                    ·
                                      have i_176 : u_so.toInt = 3 := i_176
                                      obtain ⟨hP, hD⟩ := va_join (wr := [(b_tp, (arI G 400 v_tp)), (b_op, (arI G 400 v_op)), (b_ar, (arI G 400 v_ar)), (b_pa, (arI G 400 v_pa)), (b_pi, (arI G 400 v_pi))]) hP hD [5] [0, 1, 2, 3, 4] rfl rfl (by decide) (by decide) hk1 hFc hP1 hD1
                                      generalize H1 = H at hP hS ⊢
                                      refine g5_rs [(b_tp, (arI G 400 v_tp)), (b_op, (arI G 400 v_op)), (b_ar, (arI G 400 v_ar)), (b_pa, (arI G 400 v_pa)), (b_pi, (arI G 400 v_pi)), (b_o, (oc12 u_th u_sa b_rf b_ro b_im b_ke u_fd b_tp u_td u_fr u_to u_so u_wo u_fa u_bd u_nc b_nl u_co b_op b_ar u_le b_pi b_pa u_pd u_od b_ws b_hw u_la b_se b_re u_bk u_va u_su u_ce u_ho u_wy u_bt u_ps b_pt u_tg u_sn b_ip u_ic b_ah b_be b_me u_wd b_tr b_ld u_st b_wn u_id))] hP hD (fun hP hD => ?_)
                                      refine lv_if_eq (tgt := 209) hx hb dX12_behindSum_202 (by decide) (fun c_177 => ?_) (fun c_177 => ?_)
                                      ·
                                        exact absurd c_177 (by decide)
                                      ·
                                        refine lv_iconst (v := 1) hx hb dX12_behindSum_205 (by decide) ?_
                                        refine lv_goto (tgt := 210) hx hb dX12_behindSum_206 (by decide) ?_
                                        have hlt9 : u_fr.toInt < u_to.toInt := tks_lt e_s (by omega)
                                        obtain ⟨hPc, hDc, hFc⟩ := g5_sub3 (wc := [(b_o, (oc12 u_th u_sa b_rf b_ro b_im b_ke u_fd b_tp u_td u_fr u_to u_so u_wo u_fa u_bd u_nc b_nl u_co b_op b_ar u_le b_pi b_pa u_pd u_od b_ws b_hw u_la b_se b_re u_bk u_va u_su u_ce u_ho u_wy u_bt u_ps b_pt u_tg u_sn b_ip u_ic b_ah b_be b_me u_wd b_tr b_ld u_st b_wn u_id)), (b_tp, (arI G 400 v_tp))]) hP hD hS hA [5, 0] (by decide) rfl
                                        refine va_callv (va_runV (As := [.int 1]) (rest := []) ⟨hx, hb, hml, hown, hts⟩ (n_must1 l G b_o b_tp b_rf b_ro b_im b_ke b_nl b_op b_ar b_pi b_pa b_ws b_hw b_se b_re b_pt b_ip b_ah b_be b_me b_tr b_ld b_wn H.size u_th u_sa u_fd u_td u_fr u_to u_so u_fa u_bd u_nc u_co u_le u_pd u_od u_la u_bk u_ce u_ho u_wy u_bt u_ps u_tg u_sn u_ic u_wd u_id u_wo u_va u_su u_st v_tp h_u_td h_u_fr h_u_to h_u_bd h_u_nc h_u_co h_u_pd h_u_la h_u_bk h_u_ce h_u_ho h_u_wy h_u_bt h_u_ps h_u_ic h_u_id (by omega)) (cwV 1 hts gV_X12_233 rfl rfl rfl hv_X12_must ⟨Nat.le_of_ble_eq_true rfl, Nat.le_of_ble_eq_true rfl⟩) (g5_preV hPc hK hDc hN hT hS hFc (ci := 12) (q0 := 0) rfl rfl) rfl rfl hl.1 rfl (lv_room (Nat.le_of_ble_eq_true rfl)) dX12_behindSum_210 ⟨Nat.le_of_ble_eq_true rfl, Nat.le_of_ble_eq_true rfl⟩) hS (fun q _ h => hFc q h) hFc (fun u t H1 locs ht hvm hw hB hz1 hk1 hS => ?_)
                                        obtain ⟨hP1, hD1⟩ := hB
                                        rw [ht] at hP1
                                        obtain ⟨z182, z183, z184, z185, i_178, i_179, i_180, i_181, rfl⟩ := hw
                                        have i_178 : 0 ≤ z182.toInt ∧ z182.toInt ≤ 400 := i_178
                                        have i_179 : 0 ≤ z183.toInt ∧ z183.toInt ≤ 400 := i_179
                                        have i_180 : u_to.toInt ≤ z182.toInt ∧ z182.toInt ≤ z183.toInt ∧ z183.toInt ≤ u_td.toInt := i_180
                                        have i_181 : TKs z184.toInt z182.toInt z183.toInt := i_181
                                        obtain ⟨hP, hD⟩ := va_join (wr := [(b_op, (arI G 400 v_op)), (b_ar, (arI G 400 v_ar)), (b_pa, (arI G 400 v_pa)), (b_pi, (arI G 400 v_pi))]) hP hD [5, 0] [1, 2, 3, 4] rfl rfl (by decide) (by decide) hk1 hFc hP1 hD1
                                        generalize H1 = H at hP hS ⊢
                                        refine g5_rs [(b_op, (arI G 400 v_op)), (b_ar, (arI G 400 v_ar)), (b_pa, (arI G 400 v_pa)), (b_pi, (arI G 400 v_pi)), (b_o, (oc12 u_th u_sa b_rf b_ro b_im b_ke u_fd b_tp u_td z182 z183 z184 z185 u_fa u_bd u_nc b_nl u_co b_op b_ar u_le b_pi b_pa u_pd u_od b_ws b_hw u_la b_se b_re u_bk u_va u_su u_ce u_ho u_wy u_bt u_ps b_pt u_tg u_sn b_ip u_ic b_ah b_be b_me u_wd b_tr b_ld u_st b_wn u_id)), (b_tp, (arI G 400 v_tp))] hP hD (fun hP hD => ?_)
                                        refine lv_aload_n hx hb dX12_behindSum_213 rfl (lv_at hl 2 rfl) ?_
                                        refine va_get (D := G.1) (ci := 12) (v := .int u_bd) (C := RX12) (T := TX12) (N := 52) hx hb hts inG_X12 hown hK hP 4 rfl rfl 14 (by decide) (hts _ fl_X12_205) (fun _ h9 => h9) rfl dX12_behindSum_214 ?_
                                        refine lv_if_ne (tgt := 231) hx hb dX12_behindSum_217 (by decide) (fun c_186 => ?_) (fun c_186 => ?_)
                                        ·
                                          have i_186 : u_bd.toInt ≠ 0 := by have z := g5_ne (a := u_bd.toInt) (b := 0) (by rfl) (by decide) c_186; omega
                                          omega
                                        ·
                                          have i_186 : u_bd.toInt = 0 := by have z := g5_neN (a := u_bd.toInt) (b := 0) (by rfl) (by decide) c_186; omega
                                          have hE_187 : HJ v_op v_ar v_pi v_pa g_a.toInt u_co.toInt u_pd.toInt 1 := tj_d1 e_j (by decide)
                                          refine lv_aload_n hx hb dX12_behindSum_220 rfl (lv_at hl 2 rfl) ?_
                                          refine lv_iconst (v := 5) hx hb dX12_behindSum_221 (by decide) ?_
                                          obtain ⟨hPc, hDc, hFc⟩ := g5_sub3 (wc := [(b_o, (oc12 u_th u_sa b_rf b_ro b_im b_ke u_fd b_tp u_td z182 z183 z184 z185 u_fa u_bd u_nc b_nl u_co b_op b_ar u_le b_pi b_pa u_pd u_od b_ws b_hw u_la b_se b_re u_bk u_va u_su u_ce u_ho u_wy u_bt u_ps b_pt u_tg u_sn b_ip u_ic b_ah b_be b_me u_wd b_tr b_ld u_st b_wn u_id)), (b_op, (arI G 400 v_op)), (b_ar, (arI G 400 v_ar)), (b_pi, (arI G 400 v_pi)), (b_pa, (arI G 400 v_pa))]) hP hD hS hA [4, 0, 1, 3, 2] (by decide) rfl
                                          refine va_callv (va_runV (As := [.int 5]) (rest := []) ⟨hx, hb, hml, hown, hts⟩ (n_settleH l G b_o b_op b_ar b_pi b_pa b_rf b_ro b_im b_ke b_tp b_nl b_ws b_hw b_se b_re b_pt b_ip b_ah b_be b_me b_tr b_ld b_wn H.size u_th u_sa u_fd u_td z182 z183 z184 u_fa u_bd u_nc u_co u_le u_pd u_od u_la u_bk u_ce u_ho u_wy u_bt u_ps u_tg u_sn u_ic u_wd u_id 5 g_a u_fr z185 u_va u_su u_st v_op v_ar v_pi v_pa g_op g_ar h_u_td i_178 i_179 ⟨by omega, by omega⟩ h_u_nc h_u_co h_u_pd h_u_la h_u_bk h_u_ce h_u_ho h_u_wy h_u_bt h_u_ps h_u_ic h_u_id ⟨by decide, by decide⟩ (by omega) (e_x) (hE_187)) (cwV 1 hts gV_X12_288 rfl rfl rfl hv_X12_settle ⟨Nat.le_of_ble_eq_true rfl, Nat.le_of_ble_eq_true rfl⟩) (g5_preV hPc hK hDc hN hT hS hFc (ci := 12) (q0 := 0) rfl rfl) rfl rfl hl.1 rfl (lv_room (Nat.le_of_ble_eq_true rfl)) dX12_behindSum_222 ⟨Nat.le_of_ble_eq_true rfl, Nat.le_of_ble_eq_true rfl⟩) hS (fun q _ h => hFc q h) hFc (fun u t H1 locs ht hvm hw hB hz1 hk1 hS => ?_)
                                          obtain ⟨hP1, hD1⟩ := hB
                                          rw [ht] at hP1
                                          obtain ⟨z195, z196, z197, z198, i_188, i_189, i_190, i_191, i_192, i_193, i_194, rfl⟩ := hw
                                          have i_188 : 0 ≤ z195.toInt ∧ z195.toInt ≤ 400 := i_188
                                          have i_189 : 0 ≤ z196.toInt ∧ z196.toInt ≤ 400 := i_189
                                          have i_190 : XJ g_op g_ar z197 z198 v_pi v_pa g_a.toInt z195.toInt z196.toInt u_fr.toInt := i_190
                                          have i_191 : HJ z197 z198 v_pi v_pa g_a.toInt z195.toInt z196.toInt 1 := i_191
                                          have i_192 : S1 v_pi u_pd.toInt z196.toInt := i_192
                                          have i_193 : S2 v_pi z196.toInt (5 : Int32).toInt := i_193
                                          have i_194 : z196.toInt ≤ u_pd.toInt := i_194
                                          obtain ⟨hP, hD⟩ := va_join (wr := [(b_tp, (arI G 400 v_tp))]) hP hD [4, 0, 1, 3, 2] [5] rfl rfl (by decide) (by decide) hk1 hFc hP1 hD1
                                          generalize H1 = H at hP hS ⊢
                                          refine g5_rs [(b_tp, (arI G 400 v_tp)), (b_o, (oc12 u_th u_sa b_rf b_ro b_im b_ke u_fd b_tp u_td z182 z183 z184 z185 u_fa u_bd u_nc b_nl z195 b_op b_ar u_le b_pi b_pa z196 u_od b_ws b_hw u_la b_se b_re u_bk u_va u_su u_ce u_ho u_wy u_bt u_ps b_pt u_tg u_sn b_ip u_ic b_ah b_be b_me u_wd b_tr b_ld u_st b_wn u_id)), (b_op, (arI G 400 z197)), (b_ar, (arI G 400 z198)), (b_pi, (arI G 400 v_pi)), (b_pa, (arI G 400 v_pa))] hP hD (fun hP hD => ?_)
                                          have hmf8 := xj_mf i_190
                                          refine lv_aload_n hx hb dX12_behindSum_225 rfl (lv_at hl 2 rfl) ?_
                                          refine lv_iload_n hx hb dX12_behindSum_226 rfl (lv_at hl 0 rfl) ?_
                                          refine lv_iconst (v := 0) hx hb dX12_behindSum_227 (by decide) ?_
                                          obtain ⟨hPc, hDc, hFc⟩ := g5_sub3 (wc := [(b_o, (oc12 u_th u_sa b_rf b_ro b_im b_ke u_fd b_tp u_td z182 z183 z184 z185 u_fa u_bd u_nc b_nl z195 b_op b_ar u_le b_pi b_pa z196 u_od b_ws b_hw u_la b_se b_re u_bk u_va u_su u_ce u_ho u_wy u_bt u_ps b_pt u_tg u_sn b_ip u_ic b_ah b_be b_me u_wd b_tr b_ld u_st b_wn u_id)), (b_pi, (arI G 400 v_pi)), (b_pa, (arI G 400 v_pa))]) hP hD hS hA [1, 4, 5] (by decide) rfl
                                          refine va_callv (va_runV (As := [.int 26, .int 0]) (rest := []) ⟨hx, hb, hml, hown, hts⟩ (n_push l G b_o b_pi b_pa b_rf b_ro b_im b_ke b_tp b_nl b_op b_ar b_ws b_hw b_se b_re b_pt b_ip b_ah b_be b_me b_tr b_ld b_wn H.size u_th u_sa u_fd u_td z182 z183 z184 u_fa u_bd u_nc z195 u_le z196 u_od u_la u_bk u_ce u_ho u_wy u_bt u_ps u_tg u_sn u_ic u_wd u_id 26 0 z185 u_va u_su u_st v_pi v_pa h_u_td i_178 i_179 ⟨by omega, by omega⟩ h_u_nc i_188 i_189 h_u_la h_u_bk h_u_ce h_u_ho h_u_wy h_u_bt h_u_ps h_u_ic h_u_id (by omega)) (cwV 2 hts gV_X12_261 rfl rfl rfl hv_X12_push ⟨Nat.le_of_ble_eq_true rfl, Nat.le_of_ble_eq_true rfl⟩) (g5_preV hPc hK hDc hN hT hS hFc (ci := 12) (q0 := 0) rfl rfl) rfl rfl hl.1 rfl (lv_room (Nat.le_of_ble_eq_true rfl)) dX12_behindSum_228 ⟨Nat.le_of_ble_eq_true rfl, Nat.le_of_ble_eq_true rfl⟩) hS (fun q _ h => hFc q h) hFc (fun u t H1 locs ht hvm hw hB hz1 hk1 hS => ?_)
                                          obtain ⟨hP1, hD1⟩ := hB
                                          rw [ht] at hP1
                                          obtain ⟨z201, i_199, i_200, rfl⟩ := hw
                                          have i_199 : 0 ≤ z201.toInt ∧ z201.toInt ≤ 400 := i_199
                                          have i_200 : z201.toInt = z196.toInt + 1 := i_200
                                          obtain ⟨hP, hD⟩ := va_join (wr := [(b_tp, (arI G 400 v_tp)), (b_op, (arI G 400 z197)), (b_ar, (arI G 400 z198))]) hP hD [1, 4, 5] [0, 2, 3] rfl rfl (by decide) (by decide) hk1 hFc hP1 hD1
                                          generalize H1 = H at hP hS ⊢
                                          refine g5_rs [(b_tp, (arI G 400 v_tp)), (b_op, (arI G 400 z197)), (b_ar, (arI G 400 z198)), (b_o, (oc12 u_th u_sa b_rf b_ro b_im b_ke u_fd b_tp u_td z182 z183 z184 z185 u_fa u_bd u_nc b_nl z195 b_op b_ar u_le b_pi b_pa z201 u_od b_ws b_hw u_la b_se b_re u_bk u_va u_su u_ce u_ho u_wy u_bt u_ps b_pt u_tg u_sn b_ip u_ic b_ah b_be b_me u_wd b_tr b_ld u_st b_wn u_id)), (b_pi, (arI G 400 (upd v_pi z196.toNatClampNeg 26))), (b_pa, (arI G 400 (upd v_pa z196.toNatClampNeg 0)))] hP hD (fun hP hD => ?_)
                                          refine lv_iconst (v := 1) hx hb dX12_behindSum_231 (by decide) ?_
                                          exact W.iret (v := 1) hx hb hr (fun t ht hW => ⟨⟨1, [(b_o, (oc12 u_th u_sa b_rf b_ro b_im b_ke u_fd b_tp u_td z182 z183 z184 z185 u_fa u_bd u_nc b_nl z195 b_op b_ar u_le b_pi b_pa z201 u_od b_ws b_hw u_la b_se b_re u_bk u_va u_su u_ce u_ho u_wy u_bt u_ps b_pt u_tg u_sn b_ip u_ic b_ah b_be b_me u_wd b_tr b_ld u_st b_wn u_id)), (b_tp, (arI G 400 v_tp)), (b_op, (arI G 400 z197)), (b_ar, (arI G 400 z198)), (b_pi, (arI G 400 (upd v_pi z196.toNatClampNeg 26))), (b_pa, (arI G 400 (upd v_pa z196.toNatClampNeg 0)))], rfl, Or.inr (⟨1, z182, z183, z184, z185, z195, z201, u_od, z197, z198, (upd v_pi z196.toNatClampNeg 26), (upd v_pa z196.toNatClampNeg 0), i_178, i_179, i_188, i_199, ⟨by have zc_o_r : (1 : Int32).toInt = 1 := (by decide); omega, by have zc_o_r : (1 : Int32).toInt = 1 := (by decide); omega⟩, by omega, i_181, xj_push i_190 (by omega) (by omega) ⟨by decide, by decide⟩ (Or.inl (by decide)), tj_1 (hj_push2 i_191 (by omega) (by omega) ⟨by decide, by decide⟩ (Or.inr (no31_le (inn_no31 i_110 (tj_d1 e_j (by decide)) n_113) (by omega)))) (by decide), by have w9 := (twt_0 (by decide) : twt (1 : Int32).toInt = 0); omega, rfl, rfl⟩), by rw [ht]; exact hP.sub [3, 0, 1, 2, 4, 5] rfl, hD.sub [3, 0, 1, 2, 4, 5] (by decide) rfl⟩, hS.F ht⟩) hS.2.2 dX12_behindSum_232
                                    ·
                                      obtain ⟨hP, hD⟩ := va_join (wr := [(b_tp, (arI G 400 v_tp)), (b_op, (arI G 400 v_op)), (b_ar, (arI G 400 v_ar)), (b_pa, (arI G 400 v_pa)), (b_pi, (arI G 400 v_pi))]) hP hD [5] [0, 1, 2, 3, 4] rfl rfl (by decide) (by decide) hk1 hFc hP1 hD1
                                      generalize H1 = H at hP hS ⊢
                                      refine g5_rs [(b_tp, (arI G 400 v_tp)), (b_op, (arI G 400 v_op)), (b_ar, (arI G 400 v_ar)), (b_pa, (arI G 400 v_pa)), (b_pi, (arI G 400 v_pi)), (b_o, (oc12 u_th u_sa b_rf b_ro b_im b_ke u_fd b_tp u_td u_fr u_to u_so u_wo u_fa u_bd u_nc b_nl u_co b_op b_ar u_le b_pi b_pa u_pd u_od b_ws b_hw u_la b_se b_re u_bk u_va u_su u_ce u_ho u_wy u_bt u_ps b_pt u_tg u_sn b_ip u_ic b_ah b_be b_me u_wd b_tr b_ld u_st b_wn u_id))] hP hD (fun hP hD => ?_)
                                      refine lv_if_eq (tgt := 209) hx hb dX12_behindSum_202 (by decide) (fun c_202 => ?_) (fun c_202 => ?_)
                                      ·
                                        refine lv_iconst (v := 0) hx hb dX12_behindSum_209 (by decide) ?_
                                        obtain ⟨hPc, hDc, hFc⟩ := g5_sub3 (wc := [(b_o, (oc12 u_th u_sa b_rf b_ro b_im b_ke u_fd b_tp u_td u_fr u_to u_so u_wo u_fa u_bd u_nc b_nl u_co b_op b_ar u_le b_pi b_pa u_pd u_od b_ws b_hw u_la b_se b_re u_bk u_va u_su u_ce u_ho u_wy u_bt u_ps b_pt u_tg u_sn b_ip u_ic b_ah b_be b_me u_wd b_tr b_ld u_st b_wn u_id)), (b_tp, (arI G 400 v_tp))]) hP hD hS hA [5, 0] (by decide) rfl
                                        refine va_callv (va_runV (As := [.int 0]) (rest := []) ⟨hx, hb, hml, hown, hts⟩ (n_must0 l G b_o b_tp b_rf b_ro b_im b_ke b_nl b_op b_ar b_pi b_pa b_ws b_hw b_se b_re b_pt b_ip b_ah b_be b_me b_tr b_ld b_wn H.size u_th u_sa u_fd u_td u_fr u_to u_so u_fa u_bd u_nc u_co u_le u_pd u_od u_la u_bk u_ce u_ho u_wy u_bt u_ps u_tg u_sn u_ic u_wd u_id u_wo u_va u_su u_st v_tp h_u_td h_u_fr h_u_to h_u_bd h_u_nc h_u_co h_u_pd h_u_la h_u_bk h_u_ce h_u_ho h_u_wy h_u_bt h_u_ps h_u_ic h_u_id) (cwV 1 hts gV_X12_233 rfl rfl rfl hv_X12_must ⟨Nat.le_of_ble_eq_true rfl, Nat.le_of_ble_eq_true rfl⟩) (g5_preV hPc hK hDc hN hT hS hFc (ci := 12) (q0 := 0) rfl rfl) rfl rfl hl.1 rfl (lv_room (Nat.le_of_ble_eq_true rfl)) dX12_behindSum_210 ⟨Nat.le_of_ble_eq_true rfl, Nat.le_of_ble_eq_true rfl⟩) hS (fun q _ h => hFc q h) hFc (fun u t H1 locs ht hvm hw hB hz1 hk1 hS => ?_)
                                        obtain ⟨hP1, hD1⟩ := hB
                                        rw [ht] at hP1
                                        obtain rfl := hw
                                        obtain ⟨hP, hD⟩ := va_join (wr := [(b_op, (arI G 400 v_op)), (b_ar, (arI G 400 v_ar)), (b_pa, (arI G 400 v_pa)), (b_pi, (arI G 400 v_pi))]) hP hD [5, 0] [1, 2, 3, 4] rfl rfl (by decide) (by decide) hk1 hFc hP1 hD1
                                        generalize H1 = H at hP hS ⊢
                                        refine g5_rs [(b_op, (arI G 400 v_op)), (b_ar, (arI G 400 v_ar)), (b_pa, (arI G 400 v_pa)), (b_pi, (arI G 400 v_pi)), (b_o, (oc12 u_th u_sa b_rf b_ro b_im b_ke u_fd b_tp u_td u_fr u_to u_so u_wo u_fr 1 u_nc b_nl u_co b_op b_ar u_le b_pi b_pa u_pd u_od b_ws b_hw u_la b_se b_re u_bk u_va u_su u_ce u_ho u_wy u_bt u_ps b_pt u_tg u_sn b_ip u_ic b_ah b_be b_me u_wd b_tr b_ld u_st b_wn u_id)), (b_tp, (arI G 400 v_tp))] hP hD (fun hP hD => ?_)
                                        refine lv_aload_n hx hb dX12_behindSum_213 rfl (lv_at hl 2 rfl) ?_
                                        refine va_get (D := G.1) (ci := 12) (v := .int 1) (C := RX12) (T := TX12) (N := 52) hx hb hts inG_X12 hown hK hP 4 rfl rfl 14 (by decide) (hts _ fl_X12_205) (fun _ h9 => h9) rfl dX12_behindSum_214 ?_
                                        refine lv_if_ne (tgt := 231) hx hb dX12_behindSum_217 (by decide) (fun c_203 => ?_) (fun c_203 => ?_)
                                        ·
                                          refine lv_iconst (v := 1) hx hb dX12_behindSum_231 (by decide) ?_
                                          exact W.iret (v := 1) hx hb hr (fun t ht hW => ⟨⟨1, [(b_o, (oc12 u_th u_sa b_rf b_ro b_im b_ke u_fd b_tp u_td u_fr u_to u_so u_wo u_fr 1 u_nc b_nl u_co b_op b_ar u_le b_pi b_pa u_pd u_od b_ws b_hw u_la b_se b_re u_bk u_va u_su u_ce u_ho u_wy u_bt u_ps b_pt u_tg u_sn b_ip u_ic b_ah b_be b_me u_wd b_tr b_ld u_st b_wn u_id)), (b_tp, (arI G 400 v_tp)), (b_op, (arI G 400 v_op)), (b_ar, (arI G 400 v_ar)), (b_pi, (arI G 400 v_pi)), (b_pa, (arI G 400 v_pa))], rfl, Or.inl (⟨1, ⟨by have zc_o_r : (1 : Int32).toInt = 1 := (by decide); omega, by have zc_o_r : (1 : Int32).toInt = 1 := (by decide); omega⟩, rfl, rfl⟩), by rw [ht]; exact hP.sub [4, 5, 0, 1, 3, 2] rfl, hD.sub [4, 5, 0, 1, 3, 2] (by decide) rfl⟩, hS.F ht⟩) hS.2.2 dX12_behindSum_232
                                        ·
                                          exact absurd c_203 (by decide)
                                      ·
                                        exact absurd c_202 (by decide)
                                ·
                                  exact absurd c_174 (by decide)
                            ·
                              exact absurd c_146 (by decide)
                        ·
                          have n_118 : gNe (z116.toInt) (0) := by have z := g5_eqN (a := z116.toInt) (b := 0) (by rfl) (by decide) c_118; unfold gNe; omega
                          have i_118 : z116.toInt ≥ 1 := by have z := g5_eqN (a := z116.toInt) (b := 0) (by rfl) (by decide) c_118; omega
                          refine lv_iconst (v := 2) hx hb dX12_behindSum_156 (by decide) ?_
                          exact W.iret (v := 2) hx hb hr (fun t ht hW => ⟨⟨2, [(b_o, (oc12 u_th u_sa b_rf b_ro b_im b_ke u_fd b_tp u_td u_fr u_to u_so u_wo u_fa u_bd u_nc b_nl u_co b_op b_ar u_le b_pi b_pa u_pd u_od b_ws b_hw u_la b_se b_re u_bk u_va u_su u_ce u_ho u_wy u_bt u_ps b_pt u_tg u_sn b_ip u_ic b_ah b_be b_me u_wd b_tr b_ld u_st b_wn u_id)), (b_tp, (arI G 400 v_tp)), (b_op, (arI G 400 v_op)), (b_ar, (arI G 400 v_ar)), (b_pi, (arI G 400 v_pi)), (b_pa, (arI G 400 v_pa))], rfl, Or.inr (⟨2, u_fr, u_to, u_so, u_wo, u_co, u_pd, u_od, v_op, v_ar, v_pi, v_pa, h_u_fr, h_u_to, h_u_co, h_u_pd, ⟨by have zc_o_r : (2 : Int32).toInt = 2 := (by decide); omega, by have zc_o_r : (2 : Int32).toInt = 2 := (by decide); omega⟩, by omega, e_s, e_x, tj_2 (tj_d1 e_j (by decide)) (by decide) (inn_no31 i_110 (tj_d1 e_j (by decide)) n_113), by have w9 := (twt_2 (by decide) : twt (2 : Int32).toInt = 1); omega, rfl, rfl⟩), by rw [ht]; exact hP.sub [4, 0, 1, 2, 5, 3] rfl, hD.sub [4, 0, 1, 2, 5, 3] (by decide) rfl⟩, hS.F ht⟩) hS.2.2 dX12_behindSum_157
                      ·
                        have i_114 : z111.toInt = (-1) := by have z := g5_neN (a := z111.toInt) (b := (-1)) (by rfl) (by decide) c_114; omega
                        refine lv_iload_n hx hb dX12_behindSum_143 rfl (lv_at hl 3 rfl) ?_
                        refine lv_if_ne (tgt := 149) hx hb dX12_behindSum_144 (by decide) (fun c_204 => ?_) (fun c_204 => ?_)
                        ·
                          have n_204 : gNe (p_1.toInt) (0) := by have z := g5_ne (a := p_1.toInt) (b := 0) (by rfl) (by decide) c_204; unfold gNe; omega
                          have i_204 : p_1.toInt ≥ 1 := by have z := g5_ne (a := p_1.toInt) (b := 0) (by rfl) (by decide) c_204; omega
                          refine lv_aload_n hx hb dX12_behindSum_149 rfl (lv_at hl 2 rfl) ?_
                          obtain ⟨hPc, hDc, hFc⟩ := g5_sub3 (wc := [(b_o, (oc12 u_th u_sa b_rf b_ro b_im b_ke u_fd b_tp u_td u_fr u_to u_so u_wo u_fa u_bd u_nc b_nl u_co b_op b_ar u_le b_pi b_pa u_pd u_od b_ws b_hw u_la b_se b_re u_bk u_va u_su u_ce u_ho u_wy u_bt u_ps b_pt u_tg u_sn b_ip u_ic b_ah b_be b_me u_wd b_tr b_ld u_st b_wn u_id)), (b_pi, (arI G 400 v_pi))]) hP hD hS hA [4, 5] (by decide) rfl
                          refine va_calli (va_runV (As := []) (rest := []) ⟨hx, hb, hml, hown, hts⟩ (n_isCompared l G b_o b_pi b_rf b_ro b_im b_ke b_tp b_nl b_op b_ar b_pa b_ws b_hw b_se b_re b_pt b_ip b_ah b_be b_me b_tr b_ld b_wn H.size u_th u_sa u_fd u_td u_fr u_to u_so u_fa u_bd u_nc u_co u_le u_pd u_od u_la u_bk u_ce u_ho u_wy u_bt u_ps u_tg u_sn u_ic u_wd u_id u_wo u_va u_su u_st v_pi h_u_td h_u_fr h_u_to ⟨by omega, by omega⟩ h_u_nc h_u_co h_u_pd h_u_la h_u_bk h_u_ce h_u_ho h_u_wy h_u_bt h_u_ps h_u_ic h_u_id) (cwV 0 hts gV_X12_294 rfl rfl rfl hv_X12_isCompared ⟨Nat.le_of_ble_eq_true rfl, Nat.le_of_ble_eq_true rfl⟩) (g5_preV hPc hK hDc hN hT hS hFc (ci := 12) (q0 := 0) rfl rfl) rfl rfl hl.1 rfl (lv_room (Nat.le_of_ble_eq_true rfl)) dX12_behindSum_150 ⟨Nat.le_of_ble_eq_true rfl, Nat.le_of_ble_eq_true rfl⟩) hS (fun q _ h => hFc q h) hFc (fun r u t H1 locs ht hvm hw hB hz1 hk1 hS => ?_)
                          obtain ⟨hP1, hD1⟩ := hB
                          rw [ht] at hP1
                          obtain ⟨z206, i_205, y207, rfl⟩ := hw
                          have i_205 : 0 ≤ z206.toInt ∧ z206.toInt ≤ 1 := i_205
                          obtain ⟨hP, hD⟩ := va_join (wr := [(b_tp, (arI G 400 v_tp)), (b_op, (arI G 400 v_op)), (b_ar, (arI G 400 v_ar)), (b_pa, (arI G 400 v_pa))]) hP hD [4, 5] [0, 1, 2, 3] rfl rfl (by decide) (by decide) hk1 hFc hP1 hD1
                          generalize H1 = H at hP hS ⊢
                          refine g5_rs [(b_tp, (arI G 400 v_tp)), (b_op, (arI G 400 v_op)), (b_ar, (arI G 400 v_ar)), (b_pa, (arI G 400 v_pa)), (b_o, (oc12 u_th u_sa b_rf b_ro b_im b_ke u_fd b_tp u_td u_fr u_to u_so u_wo u_fa u_bd u_nc b_nl u_co b_op b_ar u_le b_pi b_pa u_pd u_od b_ws b_hw u_la b_se b_re u_bk u_va u_su u_ce u_ho u_wy u_bt u_ps b_pt u_tg u_sn b_ip u_ic b_ah b_be b_me u_wd b_tr b_ld u_st b_wn u_id)), (b_pi, (arI G 400 v_pi))] hP hD (fun hP hD => ?_)
                          refine g5_ti (v := z206) y207 ?_
                          refine lv_if_eq (tgt := 158) hx hb dX12_behindSum_153 (by decide) (fun c_208 => ?_) (fun c_208 => ?_)
                          ·
                            have i_208 : z206.toInt = 0 := by have z := g5_eq (a := z206.toInt) (b := 0) (by rfl) (by decide) c_208; omega
                            refine lv_aload_n hx hb dX12_behindSum_158 rfl (lv_at hl 2 rfl) ?_
                            refine lv_bipush (v := 60) hx hb dX12_behindSum_159 (by decide) ?_
                            obtain ⟨hPc, hDc, hFc⟩ := g5_sub3 (wc := [(b_o, (oc12 u_th u_sa b_rf b_ro b_im b_ke u_fd b_tp u_td u_fr u_to u_so u_wo u_fa u_bd u_nc b_nl u_co b_op b_ar u_le b_pi b_pa u_pd u_od b_ws b_hw u_la b_se b_re u_bk u_va u_su u_ce u_ho u_wy u_bt u_ps b_pt u_tg u_sn b_ip u_ic b_ah b_be b_me u_wd b_tr b_ld u_st b_wn u_id))]) hP hD hS hA [4] (by decide) rfl
                            refine va_calli (va_runV (As := [.int 60]) (rest := []) ⟨hx, hb, hml, hown, hts⟩ (n_isSign l G b_o b_rf b_ro b_im b_ke b_tp b_nl b_op b_ar b_pi b_pa b_ws b_hw b_se b_re b_pt b_ip b_ah b_be b_me b_tr b_ld b_wn H.size u_th u_sa u_fd u_td u_fr u_to u_so u_fa u_bd u_nc u_co u_le u_pd u_od u_la u_bk u_ce u_ho u_wy u_bt u_ps u_tg u_sn u_ic u_wd u_id 60 u_wo u_va u_su u_st h_u_td h_u_fr h_u_to ⟨by omega, by omega⟩ h_u_nc h_u_co h_u_pd h_u_la h_u_bk h_u_ce h_u_ho h_u_wy h_u_bt h_u_ps h_u_ic h_u_id) (cwV 1 hts gV_X12_267 rfl rfl rfl hv_X12_isSign ⟨Nat.le_of_ble_eq_true rfl, Nat.le_of_ble_eq_true rfl⟩) (g5_preV hPc hK hDc hN hT hS hFc (ci := 12) (q0 := 0) rfl rfl) rfl rfl hl.1 rfl (lv_room (Nat.le_of_ble_eq_true rfl)) dX12_behindSum_161 ⟨Nat.le_of_ble_eq_true rfl, Nat.le_of_ble_eq_true rfl⟩) hS (fun q _ h => hFc q h) hFc (fun r u t H1 locs ht hvm hw hB hz1 hk1 hS => ?_)
                            obtain ⟨hP1, hD1⟩ := hB
                            rw [ht] at hP1
                            rcases hw with ⟨i_209, rfl, rfl⟩ | ⟨rfl, rfl⟩
                            ·
                              have i_209 : u_so.toInt = 3 := i_209
                              obtain ⟨hP, hD⟩ := va_join (wr := [(b_tp, (arI G 400 v_tp)), (b_op, (arI G 400 v_op)), (b_ar, (arI G 400 v_ar)), (b_pa, (arI G 400 v_pa)), (b_pi, (arI G 400 v_pi))]) hP hD [4] [0, 1, 2, 3, 5] rfl rfl (by decide) (by decide) hk1 hFc hP1 hD1
                              generalize H1 = H at hP hS ⊢
                              refine g5_rs [(b_tp, (arI G 400 v_tp)), (b_op, (arI G 400 v_op)), (b_ar, (arI G 400 v_ar)), (b_pa, (arI G 400 v_pa)), (b_pi, (arI G 400 v_pi)), (b_o, (oc12 u_th u_sa b_rf b_ro b_im b_ke u_fd b_tp u_td u_fr u_to u_so u_wo u_fa u_bd u_nc b_nl u_co b_op b_ar u_le b_pi b_pa u_pd u_od b_ws b_hw u_la b_se b_re u_bk u_va u_su u_ce u_ho u_wy u_bt u_ps b_pt u_tg u_sn b_ip u_ic b_ah b_be b_me u_wd b_tr b_ld u_st b_wn u_id))] hP hD (fun hP hD => ?_)
                              refine lv_if_eq (tgt := 172) hx hb dX12_behindSum_164 (by decide) (fun c_210 => ?_) (fun c_210 => ?_)
                              ·
                                exact absurd c_210 (by decide)
                              ·
                                refine lv_bipush (v := 24) hx hb dX12_behindSum_167 (by decide) ?_
                                refine lv_goto (tgt := 188) hx hb dX12_behindSum_169 (by decide) ?_
                                refine lv_istore_n (lv' := [(2, .int 24), (3, .int z111), (0, .ref b_o), (1, .int p_1)]) hx hb dX12_behindSum_188 rfl hl (by decide) rfl (fun ls hl => ?_)
                                refine lv_aload_n hx hb dX12_behindSum_189 rfl (lv_at hl 2 rfl) ?_
                                refine lv_iload_n hx hb dX12_behindSum_190 rfl (lv_at hl 0 rfl) ?_
                                refine lv_bipush (v := 26) hx hb dX12_behindSum_191 (by decide) ?_
                                refine lv_icmp_ne (tgt := 205) hx hb dX12_behindSum_193 (by decide) (fun c_211 => ?_) (fun c_211 => ?_)
                                ·
                                  refine lv_iconst (v := 1) hx hb dX12_behindSum_205 (by decide) ?_
                                  refine lv_goto (tgt := 210) hx hb dX12_behindSum_206 (by decide) ?_
                                  have hlt9 : u_fr.toInt < u_to.toInt := tks_lt e_s (by omega)
                                  obtain ⟨hPc, hDc, hFc⟩ := g5_sub3 (wc := [(b_o, (oc12 u_th u_sa b_rf b_ro b_im b_ke u_fd b_tp u_td u_fr u_to u_so u_wo u_fa u_bd u_nc b_nl u_co b_op b_ar u_le b_pi b_pa u_pd u_od b_ws b_hw u_la b_se b_re u_bk u_va u_su u_ce u_ho u_wy u_bt u_ps b_pt u_tg u_sn b_ip u_ic b_ah b_be b_me u_wd b_tr b_ld u_st b_wn u_id)), (b_tp, (arI G 400 v_tp))]) hP hD hS hA [5, 0] (by decide) rfl
                                  refine va_callv (va_runV (As := [.int 1]) (rest := []) ⟨hx, hb, hml, hown, hts⟩ (n_must1 l G b_o b_tp b_rf b_ro b_im b_ke b_nl b_op b_ar b_pi b_pa b_ws b_hw b_se b_re b_pt b_ip b_ah b_be b_me b_tr b_ld b_wn H.size u_th u_sa u_fd u_td u_fr u_to u_so u_fa u_bd u_nc u_co u_le u_pd u_od u_la u_bk u_ce u_ho u_wy u_bt u_ps u_tg u_sn u_ic u_wd u_id u_wo u_va u_su u_st v_tp h_u_td h_u_fr h_u_to h_u_bd h_u_nc h_u_co h_u_pd h_u_la h_u_bk h_u_ce h_u_ho h_u_wy h_u_bt h_u_ps h_u_ic h_u_id (by omega)) (cwV 1 hts gV_X12_233 rfl rfl rfl hv_X12_must ⟨Nat.le_of_ble_eq_true rfl, Nat.le_of_ble_eq_true rfl⟩) (g5_preV hPc hK hDc hN hT hS hFc (ci := 12) (q0 := 0) rfl rfl) rfl rfl hl.1 rfl (lv_room (Nat.le_of_ble_eq_true rfl)) dX12_behindSum_210 ⟨Nat.le_of_ble_eq_true rfl, Nat.le_of_ble_eq_true rfl⟩) hS (fun q _ h => hFc q h) hFc (fun u t H1 locs ht hvm hw hB hz1 hk1 hS => ?_)
                                  obtain ⟨hP1, hD1⟩ := hB
                                  rw [ht] at hP1
                                  obtain ⟨z216, z217, z218, z219, i_212, i_213, i_214, i_215, rfl⟩ := hw
                                  have i_212 : 0 ≤ z216.toInt ∧ z216.toInt ≤ 400 := i_212
                                  have i_213 : 0 ≤ z217.toInt ∧ z217.toInt ≤ 400 := i_213
                                  have i_214 : u_to.toInt ≤ z216.toInt ∧ z216.toInt ≤ z217.toInt ∧ z217.toInt ≤ u_td.toInt := i_214
                                  have i_215 : TKs z218.toInt z216.toInt z217.toInt := i_215
                                  obtain ⟨hP, hD⟩ := va_join (wr := [(b_op, (arI G 400 v_op)), (b_ar, (arI G 400 v_ar)), (b_pa, (arI G 400 v_pa)), (b_pi, (arI G 400 v_pi))]) hP hD [5, 0] [1, 2, 3, 4] rfl rfl (by decide) (by decide) hk1 hFc hP1 hD1
                                  generalize H1 = H at hP hS ⊢
                                  refine g5_rs [(b_op, (arI G 400 v_op)), (b_ar, (arI G 400 v_ar)), (b_pa, (arI G 400 v_pa)), (b_pi, (arI G 400 v_pi)), (b_o, (oc12 u_th u_sa b_rf b_ro b_im b_ke u_fd b_tp u_td z216 z217 z218 z219 u_fa u_bd u_nc b_nl u_co b_op b_ar u_le b_pi b_pa u_pd u_od b_ws b_hw u_la b_se b_re u_bk u_va u_su u_ce u_ho u_wy u_bt u_ps b_pt u_tg u_sn b_ip u_ic b_ah b_be b_me u_wd b_tr b_ld u_st b_wn u_id)), (b_tp, (arI G 400 v_tp))] hP hD (fun hP hD => ?_)
                                  refine lv_aload_n hx hb dX12_behindSum_213 rfl (lv_at hl 2 rfl) ?_
                                  refine va_get (D := G.1) (ci := 12) (v := .int u_bd) (C := RX12) (T := TX12) (N := 52) hx hb hts inG_X12 hown hK hP 4 rfl rfl 14 (by decide) (hts _ fl_X12_205) (fun _ h9 => h9) rfl dX12_behindSum_214 ?_
                                  refine lv_if_ne (tgt := 231) hx hb dX12_behindSum_217 (by decide) (fun c_220 => ?_) (fun c_220 => ?_)
                                  ·
                                    have i_220 : u_bd.toInt ≠ 0 := by have z := g5_ne (a := u_bd.toInt) (b := 0) (by rfl) (by decide) c_220; omega
                                    omega
                                  ·
                                    have i_220 : u_bd.toInt = 0 := by have z := g5_neN (a := u_bd.toInt) (b := 0) (by rfl) (by decide) c_220; omega
                                    have hE_221 : HJ v_op v_ar v_pi v_pa g_a.toInt u_co.toInt u_pd.toInt 1 := tj_d1 e_j (by decide)
                                    refine lv_aload_n hx hb dX12_behindSum_220 rfl (lv_at hl 2 rfl) ?_
                                    refine lv_iconst (v := 5) hx hb dX12_behindSum_221 (by decide) ?_
                                    obtain ⟨hPc, hDc, hFc⟩ := g5_sub3 (wc := [(b_o, (oc12 u_th u_sa b_rf b_ro b_im b_ke u_fd b_tp u_td z216 z217 z218 z219 u_fa u_bd u_nc b_nl u_co b_op b_ar u_le b_pi b_pa u_pd u_od b_ws b_hw u_la b_se b_re u_bk u_va u_su u_ce u_ho u_wy u_bt u_ps b_pt u_tg u_sn b_ip u_ic b_ah b_be b_me u_wd b_tr b_ld u_st b_wn u_id)), (b_op, (arI G 400 v_op)), (b_ar, (arI G 400 v_ar)), (b_pi, (arI G 400 v_pi)), (b_pa, (arI G 400 v_pa))]) hP hD hS hA [4, 0, 1, 3, 2] (by decide) rfl
                                    refine va_callv (va_runV (As := [.int 5]) (rest := []) ⟨hx, hb, hml, hown, hts⟩ (n_settleH l G b_o b_op b_ar b_pi b_pa b_rf b_ro b_im b_ke b_tp b_nl b_ws b_hw b_se b_re b_pt b_ip b_ah b_be b_me b_tr b_ld b_wn H.size u_th u_sa u_fd u_td z216 z217 z218 u_fa u_bd u_nc u_co u_le u_pd u_od u_la u_bk u_ce u_ho u_wy u_bt u_ps u_tg u_sn u_ic u_wd u_id 5 g_a u_fr z219 u_va u_su u_st v_op v_ar v_pi v_pa g_op g_ar h_u_td i_212 i_213 ⟨by omega, by omega⟩ h_u_nc h_u_co h_u_pd h_u_la h_u_bk h_u_ce h_u_ho h_u_wy h_u_bt h_u_ps h_u_ic h_u_id ⟨by decide, by decide⟩ (by omega) (e_x) (hE_221)) (cwV 1 hts gV_X12_288 rfl rfl rfl hv_X12_settle ⟨Nat.le_of_ble_eq_true rfl, Nat.le_of_ble_eq_true rfl⟩) (g5_preV hPc hK hDc hN hT hS hFc (ci := 12) (q0 := 0) rfl rfl) rfl rfl hl.1 rfl (lv_room (Nat.le_of_ble_eq_true rfl)) dX12_behindSum_222 ⟨Nat.le_of_ble_eq_true rfl, Nat.le_of_ble_eq_true rfl⟩) hS (fun q _ h => hFc q h) hFc (fun u t H1 locs ht hvm hw hB hz1 hk1 hS => ?_)
                                    obtain ⟨hP1, hD1⟩ := hB
                                    rw [ht] at hP1
                                    obtain ⟨z229, z230, z231, z232, i_222, i_223, i_224, i_225, i_226, i_227, i_228, rfl⟩ := hw
                                    have i_222 : 0 ≤ z229.toInt ∧ z229.toInt ≤ 400 := i_222
                                    have i_223 : 0 ≤ z230.toInt ∧ z230.toInt ≤ 400 := i_223
                                    have i_224 : XJ g_op g_ar z231 z232 v_pi v_pa g_a.toInt z229.toInt z230.toInt u_fr.toInt := i_224
                                    have i_225 : HJ z231 z232 v_pi v_pa g_a.toInt z229.toInt z230.toInt 1 := i_225
                                    have i_226 : S1 v_pi u_pd.toInt z230.toInt := i_226
                                    have i_227 : S2 v_pi z230.toInt (5 : Int32).toInt := i_227
                                    have i_228 : z230.toInt ≤ u_pd.toInt := i_228
                                    obtain ⟨hP, hD⟩ := va_join (wr := [(b_tp, (arI G 400 v_tp))]) hP hD [4, 0, 1, 3, 2] [5] rfl rfl (by decide) (by decide) hk1 hFc hP1 hD1
                                    generalize H1 = H at hP hS ⊢
                                    refine g5_rs [(b_tp, (arI G 400 v_tp)), (b_o, (oc12 u_th u_sa b_rf b_ro b_im b_ke u_fd b_tp u_td z216 z217 z218 z219 u_fa u_bd u_nc b_nl z229 b_op b_ar u_le b_pi b_pa z230 u_od b_ws b_hw u_la b_se b_re u_bk u_va u_su u_ce u_ho u_wy u_bt u_ps b_pt u_tg u_sn b_ip u_ic b_ah b_be b_me u_wd b_tr b_ld u_st b_wn u_id)), (b_op, (arI G 400 z231)), (b_ar, (arI G 400 z232)), (b_pi, (arI G 400 v_pi)), (b_pa, (arI G 400 v_pa))] hP hD (fun hP hD => ?_)
                                    have hmf8 := xj_mf i_224
                                    refine lv_aload_n hx hb dX12_behindSum_225 rfl (lv_at hl 2 rfl) ?_
                                    refine lv_iload_n hx hb dX12_behindSum_226 rfl (lv_at hl 0 rfl) ?_
                                    refine lv_iconst (v := 0) hx hb dX12_behindSum_227 (by decide) ?_
                                    obtain ⟨hPc, hDc, hFc⟩ := g5_sub3 (wc := [(b_o, (oc12 u_th u_sa b_rf b_ro b_im b_ke u_fd b_tp u_td z216 z217 z218 z219 u_fa u_bd u_nc b_nl z229 b_op b_ar u_le b_pi b_pa z230 u_od b_ws b_hw u_la b_se b_re u_bk u_va u_su u_ce u_ho u_wy u_bt u_ps b_pt u_tg u_sn b_ip u_ic b_ah b_be b_me u_wd b_tr b_ld u_st b_wn u_id)), (b_pi, (arI G 400 v_pi)), (b_pa, (arI G 400 v_pa))]) hP hD hS hA [1, 4, 5] (by decide) rfl
                                    refine va_callv (va_runV (As := [.int 24, .int 0]) (rest := []) ⟨hx, hb, hml, hown, hts⟩ (n_push l G b_o b_pi b_pa b_rf b_ro b_im b_ke b_tp b_nl b_op b_ar b_ws b_hw b_se b_re b_pt b_ip b_ah b_be b_me b_tr b_ld b_wn H.size u_th u_sa u_fd u_td z216 z217 z218 u_fa u_bd u_nc z229 u_le z230 u_od u_la u_bk u_ce u_ho u_wy u_bt u_ps u_tg u_sn u_ic u_wd u_id 24 0 z219 u_va u_su u_st v_pi v_pa h_u_td i_212 i_213 ⟨by omega, by omega⟩ h_u_nc i_222 i_223 h_u_la h_u_bk h_u_ce h_u_ho h_u_wy h_u_bt h_u_ps h_u_ic h_u_id (by omega)) (cwV 2 hts gV_X12_261 rfl rfl rfl hv_X12_push ⟨Nat.le_of_ble_eq_true rfl, Nat.le_of_ble_eq_true rfl⟩) (g5_preV hPc hK hDc hN hT hS hFc (ci := 12) (q0 := 0) rfl rfl) rfl rfl hl.1 rfl (lv_room (Nat.le_of_ble_eq_true rfl)) dX12_behindSum_228 ⟨Nat.le_of_ble_eq_true rfl, Nat.le_of_ble_eq_true rfl⟩) hS (fun q _ h => hFc q h) hFc (fun u t H1 locs ht hvm hw hB hz1 hk1 hS => ?_)
                                    obtain ⟨hP1, hD1⟩ := hB
                                    rw [ht] at hP1
                                    obtain ⟨z235, i_233, i_234, rfl⟩ := hw
                                    have i_233 : 0 ≤ z235.toInt ∧ z235.toInt ≤ 400 := i_233
                                    have i_234 : z235.toInt = z230.toInt + 1 := i_234
                                    obtain ⟨hP, hD⟩ := va_join (wr := [(b_tp, (arI G 400 v_tp)), (b_op, (arI G 400 z231)), (b_ar, (arI G 400 z232))]) hP hD [1, 4, 5] [0, 2, 3] rfl rfl (by decide) (by decide) hk1 hFc hP1 hD1
                                    generalize H1 = H at hP hS ⊢
                                    refine g5_rs [(b_tp, (arI G 400 v_tp)), (b_op, (arI G 400 z231)), (b_ar, (arI G 400 z232)), (b_o, (oc12 u_th u_sa b_rf b_ro b_im b_ke u_fd b_tp u_td z216 z217 z218 z219 u_fa u_bd u_nc b_nl z229 b_op b_ar u_le b_pi b_pa z235 u_od b_ws b_hw u_la b_se b_re u_bk u_va u_su u_ce u_ho u_wy u_bt u_ps b_pt u_tg u_sn b_ip u_ic b_ah b_be b_me u_wd b_tr b_ld u_st b_wn u_id)), (b_pi, (arI G 400 (upd v_pi z230.toNatClampNeg 24))), (b_pa, (arI G 400 (upd v_pa z230.toNatClampNeg 0)))] hP hD (fun hP hD => ?_)
                                    refine lv_iconst (v := 1) hx hb dX12_behindSum_231 (by decide) ?_
                                    exact W.iret (v := 1) hx hb hr (fun t ht hW => ⟨⟨1, [(b_o, (oc12 u_th u_sa b_rf b_ro b_im b_ke u_fd b_tp u_td z216 z217 z218 z219 u_fa u_bd u_nc b_nl z229 b_op b_ar u_le b_pi b_pa z235 u_od b_ws b_hw u_la b_se b_re u_bk u_va u_su u_ce u_ho u_wy u_bt u_ps b_pt u_tg u_sn b_ip u_ic b_ah b_be b_me u_wd b_tr b_ld u_st b_wn u_id)), (b_tp, (arI G 400 v_tp)), (b_op, (arI G 400 z231)), (b_ar, (arI G 400 z232)), (b_pi, (arI G 400 (upd v_pi z230.toNatClampNeg 24))), (b_pa, (arI G 400 (upd v_pa z230.toNatClampNeg 0)))], rfl, Or.inr (⟨1, z216, z217, z218, z219, z229, z235, u_od, z231, z232, (upd v_pi z230.toNatClampNeg 24), (upd v_pa z230.toNatClampNeg 0), i_212, i_213, i_222, i_233, ⟨by have zc_o_r : (1 : Int32).toInt = 1 := (by decide); omega, by have zc_o_r : (1 : Int32).toInt = 1 := (by decide); omega⟩, by omega, i_215, xj_push i_224 (by omega) (by omega) ⟨by decide, by decide⟩ (Or.inl (by decide)), tj_1 (hj_push2 i_225 (by omega) (by omega) ⟨by decide, by decide⟩ (Or.inr (no31_le (inn_no31 i_110 (tj_d1 e_j (by decide)) n_113) (by omega)))) (by decide), by have w9 := (twt_0 (by decide) : twt (1 : Int32).toInt = 0); omega, rfl, rfl⟩), by rw [ht]; exact hP.sub [3, 0, 1, 2, 4, 5] rfl, hD.sub [3, 0, 1, 2, 4, 5] (by decide) rfl⟩, hS.F ht⟩) hS.2.2 dX12_behindSum_232
                                ·
                                  exact absurd c_211 (by decide)
                            ·
                              obtain ⟨hP, hD⟩ := va_join (wr := [(b_tp, (arI G 400 v_tp)), (b_op, (arI G 400 v_op)), (b_ar, (arI G 400 v_ar)), (b_pa, (arI G 400 v_pa)), (b_pi, (arI G 400 v_pi))]) hP hD [4] [0, 1, 2, 3, 5] rfl rfl (by decide) (by decide) hk1 hFc hP1 hD1
                              generalize H1 = H at hP hS ⊢
                              refine g5_rs [(b_tp, (arI G 400 v_tp)), (b_op, (arI G 400 v_op)), (b_ar, (arI G 400 v_ar)), (b_pa, (arI G 400 v_pa)), (b_pi, (arI G 400 v_pi)), (b_o, (oc12 u_th u_sa b_rf b_ro b_im b_ke u_fd b_tp u_td u_fr u_to u_so u_wo u_fa u_bd u_nc b_nl u_co b_op b_ar u_le b_pi b_pa u_pd u_od b_ws b_hw u_la b_se b_re u_bk u_va u_su u_ce u_ho u_wy u_bt u_ps b_pt u_tg u_sn b_ip u_ic b_ah b_be b_me u_wd b_tr b_ld u_st b_wn u_id))] hP hD (fun hP hD => ?_)
                              refine lv_if_eq (tgt := 172) hx hb dX12_behindSum_164 (by decide) (fun c_236 => ?_) (fun c_236 => ?_)
                              ·
                                refine lv_aload_n hx hb dX12_behindSum_172 rfl (lv_at hl 2 rfl) ?_
                                refine lv_bipush (v := 62) hx hb dX12_behindSum_173 (by decide) ?_
                                obtain ⟨hPc, hDc, hFc⟩ := g5_sub3 (wc := [(b_o, (oc12 u_th u_sa b_rf b_ro b_im b_ke u_fd b_tp u_td u_fr u_to u_so u_wo u_fa u_bd u_nc b_nl u_co b_op b_ar u_le b_pi b_pa u_pd u_od b_ws b_hw u_la b_se b_re u_bk u_va u_su u_ce u_ho u_wy u_bt u_ps b_pt u_tg u_sn b_ip u_ic b_ah b_be b_me u_wd b_tr b_ld u_st b_wn u_id))]) hP hD hS hA [5] (by decide) rfl
                                refine va_calli (va_runV (As := [.int 62]) (rest := []) ⟨hx, hb, hml, hown, hts⟩ (n_isSign l G b_o b_rf b_ro b_im b_ke b_tp b_nl b_op b_ar b_pi b_pa b_ws b_hw b_se b_re b_pt b_ip b_ah b_be b_me b_tr b_ld b_wn H.size u_th u_sa u_fd u_td u_fr u_to u_so u_fa u_bd u_nc u_co u_le u_pd u_od u_la u_bk u_ce u_ho u_wy u_bt u_ps u_tg u_sn u_ic u_wd u_id 62 u_wo u_va u_su u_st h_u_td h_u_fr h_u_to ⟨by omega, by omega⟩ h_u_nc h_u_co h_u_pd h_u_la h_u_bk h_u_ce h_u_ho h_u_wy h_u_bt h_u_ps h_u_ic h_u_id) (cwV 1 hts gV_X12_267 rfl rfl rfl hv_X12_isSign ⟨Nat.le_of_ble_eq_true rfl, Nat.le_of_ble_eq_true rfl⟩) (g5_preV hPc hK hDc hN hT hS hFc (ci := 12) (q0 := 0) rfl rfl) rfl rfl hl.1 rfl (lv_room (Nat.le_of_ble_eq_true rfl)) dX12_behindSum_175 ⟨Nat.le_of_ble_eq_true rfl, Nat.le_of_ble_eq_true rfl⟩) hS (fun q _ h => hFc q h) hFc (fun r u t H1 locs ht hvm hw hB hz1 hk1 hS => ?_)
                                obtain ⟨hP1, hD1⟩ := hB
                                rw [ht] at hP1
                                rcases hw with ⟨i_237, rfl, rfl⟩ | ⟨rfl, rfl⟩
                                ·
                                  have i_237 : u_so.toInt = 3 := i_237
                                  obtain ⟨hP, hD⟩ := va_join (wr := [(b_tp, (arI G 400 v_tp)), (b_op, (arI G 400 v_op)), (b_ar, (arI G 400 v_ar)), (b_pa, (arI G 400 v_pa)), (b_pi, (arI G 400 v_pi))]) hP hD [5] [0, 1, 2, 3, 4] rfl rfl (by decide) (by decide) hk1 hFc hP1 hD1
                                  generalize H1 = H at hP hS ⊢
                                  refine g5_rs [(b_tp, (arI G 400 v_tp)), (b_op, (arI G 400 v_op)), (b_ar, (arI G 400 v_ar)), (b_pa, (arI G 400 v_pa)), (b_pi, (arI G 400 v_pi)), (b_o, (oc12 u_th u_sa b_rf b_ro b_im b_ke u_fd b_tp u_td u_fr u_to u_so u_wo u_fa u_bd u_nc b_nl u_co b_op b_ar u_le b_pi b_pa u_pd u_od b_ws b_hw u_la b_se b_re u_bk u_va u_su u_ce u_ho u_wy u_bt u_ps b_pt u_tg u_sn b_ip u_ic b_ah b_be b_me u_wd b_tr b_ld u_st b_wn u_id))] hP hD (fun hP hD => ?_)
                                  refine lv_if_eq (tgt := 186) hx hb dX12_behindSum_178 (by decide) (fun c_238 => ?_) (fun c_238 => ?_)
                                  ·
                                    exact absurd c_238 (by decide)
                                  ·
                                    refine lv_bipush (v := 25) hx hb dX12_behindSum_181 (by decide) ?_
                                    refine lv_goto (tgt := 188) hx hb dX12_behindSum_183 (by decide) ?_
                                    refine lv_istore_n (lv' := [(2, .int 25), (3, .int z111), (0, .ref b_o), (1, .int p_1)]) hx hb dX12_behindSum_188 rfl hl (by decide) rfl (fun ls hl => ?_)
                                    refine lv_aload_n hx hb dX12_behindSum_189 rfl (lv_at hl 2 rfl) ?_
                                    refine lv_iload_n hx hb dX12_behindSum_190 rfl (lv_at hl 0 rfl) ?_
                                    refine lv_bipush (v := 26) hx hb dX12_behindSum_191 (by decide) ?_
                                    refine lv_icmp_ne (tgt := 205) hx hb dX12_behindSum_193 (by decide) (fun c_239 => ?_) (fun c_239 => ?_)
                                    ·
                                      refine lv_iconst (v := 1) hx hb dX12_behindSum_205 (by decide) ?_
                                      refine lv_goto (tgt := 210) hx hb dX12_behindSum_206 (by decide) ?_
                                      have hlt9 : u_fr.toInt < u_to.toInt := tks_lt e_s (by omega)
                                      obtain ⟨hPc, hDc, hFc⟩ := g5_sub3 (wc := [(b_o, (oc12 u_th u_sa b_rf b_ro b_im b_ke u_fd b_tp u_td u_fr u_to u_so u_wo u_fa u_bd u_nc b_nl u_co b_op b_ar u_le b_pi b_pa u_pd u_od b_ws b_hw u_la b_se b_re u_bk u_va u_su u_ce u_ho u_wy u_bt u_ps b_pt u_tg u_sn b_ip u_ic b_ah b_be b_me u_wd b_tr b_ld u_st b_wn u_id)), (b_tp, (arI G 400 v_tp))]) hP hD hS hA [5, 0] (by decide) rfl
                                      refine va_callv (va_runV (As := [.int 1]) (rest := []) ⟨hx, hb, hml, hown, hts⟩ (n_must1 l G b_o b_tp b_rf b_ro b_im b_ke b_nl b_op b_ar b_pi b_pa b_ws b_hw b_se b_re b_pt b_ip b_ah b_be b_me b_tr b_ld b_wn H.size u_th u_sa u_fd u_td u_fr u_to u_so u_fa u_bd u_nc u_co u_le u_pd u_od u_la u_bk u_ce u_ho u_wy u_bt u_ps u_tg u_sn u_ic u_wd u_id u_wo u_va u_su u_st v_tp h_u_td h_u_fr h_u_to h_u_bd h_u_nc h_u_co h_u_pd h_u_la h_u_bk h_u_ce h_u_ho h_u_wy h_u_bt h_u_ps h_u_ic h_u_id (by omega)) (cwV 1 hts gV_X12_233 rfl rfl rfl hv_X12_must ⟨Nat.le_of_ble_eq_true rfl, Nat.le_of_ble_eq_true rfl⟩) (g5_preV hPc hK hDc hN hT hS hFc (ci := 12) (q0 := 0) rfl rfl) rfl rfl hl.1 rfl (lv_room (Nat.le_of_ble_eq_true rfl)) dX12_behindSum_210 ⟨Nat.le_of_ble_eq_true rfl, Nat.le_of_ble_eq_true rfl⟩) hS (fun q _ h => hFc q h) hFc (fun u t H1 locs ht hvm hw hB hz1 hk1 hS => ?_)
                                      obtain ⟨hP1, hD1⟩ := hB
                                      rw [ht] at hP1
                                      obtain ⟨z244, z245, z246, z247, i_240, i_241, i_242, i_243, rfl⟩ := hw
                                      have i_240 : 0 ≤ z244.toInt ∧ z244.toInt ≤ 400 := i_240
                                      have i_241 : 0 ≤ z245.toInt ∧ z245.toInt ≤ 400 := i_241
                                      have i_242 : u_to.toInt ≤ z244.toInt ∧ z244.toInt ≤ z245.toInt ∧ z245.toInt ≤ u_td.toInt := i_242
                                      have i_243 : TKs z246.toInt z244.toInt z245.toInt := i_243
                                      obtain ⟨hP, hD⟩ := va_join (wr := [(b_op, (arI G 400 v_op)), (b_ar, (arI G 400 v_ar)), (b_pa, (arI G 400 v_pa)), (b_pi, (arI G 400 v_pi))]) hP hD [5, 0] [1, 2, 3, 4] rfl rfl (by decide) (by decide) hk1 hFc hP1 hD1
                                      generalize H1 = H at hP hS ⊢
                                      refine g5_rs [(b_op, (arI G 400 v_op)), (b_ar, (arI G 400 v_ar)), (b_pa, (arI G 400 v_pa)), (b_pi, (arI G 400 v_pi)), (b_o, (oc12 u_th u_sa b_rf b_ro b_im b_ke u_fd b_tp u_td z244 z245 z246 z247 u_fa u_bd u_nc b_nl u_co b_op b_ar u_le b_pi b_pa u_pd u_od b_ws b_hw u_la b_se b_re u_bk u_va u_su u_ce u_ho u_wy u_bt u_ps b_pt u_tg u_sn b_ip u_ic b_ah b_be b_me u_wd b_tr b_ld u_st b_wn u_id)), (b_tp, (arI G 400 v_tp))] hP hD (fun hP hD => ?_)
                                      refine lv_aload_n hx hb dX12_behindSum_213 rfl (lv_at hl 2 rfl) ?_
                                      refine va_get (D := G.1) (ci := 12) (v := .int u_bd) (C := RX12) (T := TX12) (N := 52) hx hb hts inG_X12 hown hK hP 4 rfl rfl 14 (by decide) (hts _ fl_X12_205) (fun _ h9 => h9) rfl dX12_behindSum_214 ?_
                                      refine lv_if_ne (tgt := 231) hx hb dX12_behindSum_217 (by decide) (fun c_248 => ?_) (fun c_248 => ?_)
                                      ·
                                        have i_248 : u_bd.toInt ≠ 0 := by have z := g5_ne (a := u_bd.toInt) (b := 0) (by rfl) (by decide) c_248; omega
                                        omega
                                      ·
                                        have i_248 : u_bd.toInt = 0 := by have z := g5_neN (a := u_bd.toInt) (b := 0) (by rfl) (by decide) c_248; omega
                                        have hE_249 : HJ v_op v_ar v_pi v_pa g_a.toInt u_co.toInt u_pd.toInt 1 := tj_d1 e_j (by decide)
                                        refine lv_aload_n hx hb dX12_behindSum_220 rfl (lv_at hl 2 rfl) ?_
                                        refine lv_iconst (v := 5) hx hb dX12_behindSum_221 (by decide) ?_
                                        obtain ⟨hPc, hDc, hFc⟩ := g5_sub3 (wc := [(b_o, (oc12 u_th u_sa b_rf b_ro b_im b_ke u_fd b_tp u_td z244 z245 z246 z247 u_fa u_bd u_nc b_nl u_co b_op b_ar u_le b_pi b_pa u_pd u_od b_ws b_hw u_la b_se b_re u_bk u_va u_su u_ce u_ho u_wy u_bt u_ps b_pt u_tg u_sn b_ip u_ic b_ah b_be b_me u_wd b_tr b_ld u_st b_wn u_id)), (b_op, (arI G 400 v_op)), (b_ar, (arI G 400 v_ar)), (b_pi, (arI G 400 v_pi)), (b_pa, (arI G 400 v_pa))]) hP hD hS hA [4, 0, 1, 3, 2] (by decide) rfl
                                        refine va_callv (va_runV (As := [.int 5]) (rest := []) ⟨hx, hb, hml, hown, hts⟩ (n_settleH l G b_o b_op b_ar b_pi b_pa b_rf b_ro b_im b_ke b_tp b_nl b_ws b_hw b_se b_re b_pt b_ip b_ah b_be b_me b_tr b_ld b_wn H.size u_th u_sa u_fd u_td z244 z245 z246 u_fa u_bd u_nc u_co u_le u_pd u_od u_la u_bk u_ce u_ho u_wy u_bt u_ps u_tg u_sn u_ic u_wd u_id 5 g_a u_fr z247 u_va u_su u_st v_op v_ar v_pi v_pa g_op g_ar h_u_td i_240 i_241 ⟨by omega, by omega⟩ h_u_nc h_u_co h_u_pd h_u_la h_u_bk h_u_ce h_u_ho h_u_wy h_u_bt h_u_ps h_u_ic h_u_id ⟨by decide, by decide⟩ (by omega) (e_x) (hE_249)) (cwV 1 hts gV_X12_288 rfl rfl rfl hv_X12_settle ⟨Nat.le_of_ble_eq_true rfl, Nat.le_of_ble_eq_true rfl⟩) (g5_preV hPc hK hDc hN hT hS hFc (ci := 12) (q0 := 0) rfl rfl) rfl rfl hl.1 rfl (lv_room (Nat.le_of_ble_eq_true rfl)) dX12_behindSum_222 ⟨Nat.le_of_ble_eq_true rfl, Nat.le_of_ble_eq_true rfl⟩) hS (fun q _ h => hFc q h) hFc (fun u t H1 locs ht hvm hw hB hz1 hk1 hS => ?_)
                                        obtain ⟨hP1, hD1⟩ := hB
                                        rw [ht] at hP1
                                        obtain ⟨z257, z258, z259, z260, i_250, i_251, i_252, i_253, i_254, i_255, i_256, rfl⟩ := hw
                                        have i_250 : 0 ≤ z257.toInt ∧ z257.toInt ≤ 400 := i_250
                                        have i_251 : 0 ≤ z258.toInt ∧ z258.toInt ≤ 400 := i_251
                                        have i_252 : XJ g_op g_ar z259 z260 v_pi v_pa g_a.toInt z257.toInt z258.toInt u_fr.toInt := i_252
                                        have i_253 : HJ z259 z260 v_pi v_pa g_a.toInt z257.toInt z258.toInt 1 := i_253
                                        have i_254 : S1 v_pi u_pd.toInt z258.toInt := i_254
                                        have i_255 : S2 v_pi z258.toInt (5 : Int32).toInt := i_255
                                        have i_256 : z258.toInt ≤ u_pd.toInt := i_256
                                        obtain ⟨hP, hD⟩ := va_join (wr := [(b_tp, (arI G 400 v_tp))]) hP hD [4, 0, 1, 3, 2] [5] rfl rfl (by decide) (by decide) hk1 hFc hP1 hD1
                                        generalize H1 = H at hP hS ⊢
                                        refine g5_rs [(b_tp, (arI G 400 v_tp)), (b_o, (oc12 u_th u_sa b_rf b_ro b_im b_ke u_fd b_tp u_td z244 z245 z246 z247 u_fa u_bd u_nc b_nl z257 b_op b_ar u_le b_pi b_pa z258 u_od b_ws b_hw u_la b_se b_re u_bk u_va u_su u_ce u_ho u_wy u_bt u_ps b_pt u_tg u_sn b_ip u_ic b_ah b_be b_me u_wd b_tr b_ld u_st b_wn u_id)), (b_op, (arI G 400 z259)), (b_ar, (arI G 400 z260)), (b_pi, (arI G 400 v_pi)), (b_pa, (arI G 400 v_pa))] hP hD (fun hP hD => ?_)
                                        have hmf8 := xj_mf i_252
                                        refine lv_aload_n hx hb dX12_behindSum_225 rfl (lv_at hl 2 rfl) ?_
                                        refine lv_iload_n hx hb dX12_behindSum_226 rfl (lv_at hl 0 rfl) ?_
                                        refine lv_iconst (v := 0) hx hb dX12_behindSum_227 (by decide) ?_
                                        obtain ⟨hPc, hDc, hFc⟩ := g5_sub3 (wc := [(b_o, (oc12 u_th u_sa b_rf b_ro b_im b_ke u_fd b_tp u_td z244 z245 z246 z247 u_fa u_bd u_nc b_nl z257 b_op b_ar u_le b_pi b_pa z258 u_od b_ws b_hw u_la b_se b_re u_bk u_va u_su u_ce u_ho u_wy u_bt u_ps b_pt u_tg u_sn b_ip u_ic b_ah b_be b_me u_wd b_tr b_ld u_st b_wn u_id)), (b_pi, (arI G 400 v_pi)), (b_pa, (arI G 400 v_pa))]) hP hD hS hA [1, 4, 5] (by decide) rfl
                                        refine va_callv (va_runV (As := [.int 25, .int 0]) (rest := []) ⟨hx, hb, hml, hown, hts⟩ (n_push l G b_o b_pi b_pa b_rf b_ro b_im b_ke b_tp b_nl b_op b_ar b_ws b_hw b_se b_re b_pt b_ip b_ah b_be b_me b_tr b_ld b_wn H.size u_th u_sa u_fd u_td z244 z245 z246 u_fa u_bd u_nc z257 u_le z258 u_od u_la u_bk u_ce u_ho u_wy u_bt u_ps u_tg u_sn u_ic u_wd u_id 25 0 z247 u_va u_su u_st v_pi v_pa h_u_td i_240 i_241 ⟨by omega, by omega⟩ h_u_nc i_250 i_251 h_u_la h_u_bk h_u_ce h_u_ho h_u_wy h_u_bt h_u_ps h_u_ic h_u_id (by omega)) (cwV 2 hts gV_X12_261 rfl rfl rfl hv_X12_push ⟨Nat.le_of_ble_eq_true rfl, Nat.le_of_ble_eq_true rfl⟩) (g5_preV hPc hK hDc hN hT hS hFc (ci := 12) (q0 := 0) rfl rfl) rfl rfl hl.1 rfl (lv_room (Nat.le_of_ble_eq_true rfl)) dX12_behindSum_228 ⟨Nat.le_of_ble_eq_true rfl, Nat.le_of_ble_eq_true rfl⟩) hS (fun q _ h => hFc q h) hFc (fun u t H1 locs ht hvm hw hB hz1 hk1 hS => ?_)
                                        obtain ⟨hP1, hD1⟩ := hB
                                        rw [ht] at hP1
                                        obtain ⟨z263, i_261, i_262, rfl⟩ := hw
                                        have i_261 : 0 ≤ z263.toInt ∧ z263.toInt ≤ 400 := i_261
                                        have i_262 : z263.toInt = z258.toInt + 1 := i_262
                                        obtain ⟨hP, hD⟩ := va_join (wr := [(b_tp, (arI G 400 v_tp)), (b_op, (arI G 400 z259)), (b_ar, (arI G 400 z260))]) hP hD [1, 4, 5] [0, 2, 3] rfl rfl (by decide) (by decide) hk1 hFc hP1 hD1
                                        generalize H1 = H at hP hS ⊢
                                        refine g5_rs [(b_tp, (arI G 400 v_tp)), (b_op, (arI G 400 z259)), (b_ar, (arI G 400 z260)), (b_o, (oc12 u_th u_sa b_rf b_ro b_im b_ke u_fd b_tp u_td z244 z245 z246 z247 u_fa u_bd u_nc b_nl z257 b_op b_ar u_le b_pi b_pa z263 u_od b_ws b_hw u_la b_se b_re u_bk u_va u_su u_ce u_ho u_wy u_bt u_ps b_pt u_tg u_sn b_ip u_ic b_ah b_be b_me u_wd b_tr b_ld u_st b_wn u_id)), (b_pi, (arI G 400 (upd v_pi z258.toNatClampNeg 25))), (b_pa, (arI G 400 (upd v_pa z258.toNatClampNeg 0)))] hP hD (fun hP hD => ?_)
                                        refine lv_iconst (v := 1) hx hb dX12_behindSum_231 (by decide) ?_
                                        exact W.iret (v := 1) hx hb hr (fun t ht hW => ⟨⟨1, [(b_o, (oc12 u_th u_sa b_rf b_ro b_im b_ke u_fd b_tp u_td z244 z245 z246 z247 u_fa u_bd u_nc b_nl z257 b_op b_ar u_le b_pi b_pa z263 u_od b_ws b_hw u_la b_se b_re u_bk u_va u_su u_ce u_ho u_wy u_bt u_ps b_pt u_tg u_sn b_ip u_ic b_ah b_be b_me u_wd b_tr b_ld u_st b_wn u_id)), (b_tp, (arI G 400 v_tp)), (b_op, (arI G 400 z259)), (b_ar, (arI G 400 z260)), (b_pi, (arI G 400 (upd v_pi z258.toNatClampNeg 25))), (b_pa, (arI G 400 (upd v_pa z258.toNatClampNeg 0)))], rfl, Or.inr (⟨1, z244, z245, z246, z247, z257, z263, u_od, z259, z260, (upd v_pi z258.toNatClampNeg 25), (upd v_pa z258.toNatClampNeg 0), i_240, i_241, i_250, i_261, ⟨by have zc_o_r : (1 : Int32).toInt = 1 := (by decide); omega, by have zc_o_r : (1 : Int32).toInt = 1 := (by decide); omega⟩, by omega, i_243, xj_push i_252 (by omega) (by omega) ⟨by decide, by decide⟩ (Or.inl (by decide)), tj_1 (hj_push2 i_253 (by omega) (by omega) ⟨by decide, by decide⟩ (Or.inr (no31_le (inn_no31 i_110 (tj_d1 e_j (by decide)) n_113) (by omega)))) (by decide), by have w9 := (twt_0 (by decide) : twt (1 : Int32).toInt = 0); omega, rfl, rfl⟩), by rw [ht]; exact hP.sub [3, 0, 1, 2, 4, 5] rfl, hD.sub [3, 0, 1, 2, 4, 5] (by decide) rfl⟩, hS.F ht⟩) hS.2.2 dX12_behindSum_232
                                    ·
                                      exact absurd c_239 (by decide)
                                ·
                                  obtain ⟨hP, hD⟩ := va_join (wr := [(b_tp, (arI G 400 v_tp)), (b_op, (arI G 400 v_op)), (b_ar, (arI G 400 v_ar)), (b_pa, (arI G 400 v_pa)), (b_pi, (arI G 400 v_pi))]) hP hD [5] [0, 1, 2, 3, 4] rfl rfl (by decide) (by decide) hk1 hFc hP1 hD1
                                  generalize H1 = H at hP hS ⊢
                                  refine g5_rs [(b_tp, (arI G 400 v_tp)), (b_op, (arI G 400 v_op)), (b_ar, (arI G 400 v_ar)), (b_pa, (arI G 400 v_pa)), (b_pi, (arI G 400 v_pi)), (b_o, (oc12 u_th u_sa b_rf b_ro b_im b_ke u_fd b_tp u_td u_fr u_to u_so u_wo u_fa u_bd u_nc b_nl u_co b_op b_ar u_le b_pi b_pa u_pd u_od b_ws b_hw u_la b_se b_re u_bk u_va u_su u_ce u_ho u_wy u_bt u_ps b_pt u_tg u_sn b_ip u_ic b_ah b_be b_me u_wd b_tr b_ld u_st b_wn u_id))] hP hD (fun hP hD => ?_)
                                  refine lv_if_eq (tgt := 186) hx hb dX12_behindSum_178 (by decide) (fun c_264 => ?_) (fun c_264 => ?_)
                                  ·
                                    refine lv_bipush (v := 26) hx hb dX12_behindSum_186 (by decide) ?_
                                    refine lv_istore_n (lv' := [(2, .int 26), (3, .int z111), (0, .ref b_o), (1, .int p_1)]) hx hb dX12_behindSum_188 rfl hl (by decide) rfl (fun ls hl => ?_)
                                    refine lv_aload_n hx hb dX12_behindSum_189 rfl (lv_at hl 2 rfl) ?_
                                    refine lv_iload_n hx hb dX12_behindSum_190 rfl (lv_at hl 0 rfl) ?_
                                    refine lv_bipush (v := 26) hx hb dX12_behindSum_191 (by decide) ?_
                                    refine lv_icmp_ne (tgt := 205) hx hb dX12_behindSum_193 (by decide) (fun c_265 => ?_) (fun c_265 => ?_)
                                    ·
                                      exact absurd c_265 (by decide)
                                    ·
                                      refine lv_aload_n hx hb dX12_behindSum_196 rfl (lv_at hl 2 rfl) ?_
                                      refine lv_bipush (v := 61) hx hb dX12_behindSum_197 (by decide) ?_
                                      obtain ⟨hPc, hDc, hFc⟩ := g5_sub3 (wc := [(b_o, (oc12 u_th u_sa b_rf b_ro b_im b_ke u_fd b_tp u_td u_fr u_to u_so u_wo u_fa u_bd u_nc b_nl u_co b_op b_ar u_le b_pi b_pa u_pd u_od b_ws b_hw u_la b_se b_re u_bk u_va u_su u_ce u_ho u_wy u_bt u_ps b_pt u_tg u_sn b_ip u_ic b_ah b_be b_me u_wd b_tr b_ld u_st b_wn u_id))]) hP hD hS hA [5] (by decide) rfl
                                      refine va_calli (va_runV (As := [.int 61]) (rest := [.ref b_o]) ⟨hx, hb, hml, hown, hts⟩ (n_isSign l G b_o b_rf b_ro b_im b_ke b_tp b_nl b_op b_ar b_pi b_pa b_ws b_hw b_se b_re b_pt b_ip b_ah b_be b_me b_tr b_ld b_wn H.size u_th u_sa u_fd u_td u_fr u_to u_so u_fa u_bd u_nc u_co u_le u_pd u_od u_la u_bk u_ce u_ho u_wy u_bt u_ps u_tg u_sn u_ic u_wd u_id 61 u_wo u_va u_su u_st h_u_td h_u_fr h_u_to ⟨by omega, by omega⟩ h_u_nc h_u_co h_u_pd h_u_la h_u_bk h_u_ce h_u_ho h_u_wy h_u_bt h_u_ps h_u_ic h_u_id) (cwV 1 hts gV_X12_267 rfl rfl rfl hv_X12_isSign ⟨Nat.le_of_ble_eq_true rfl, Nat.le_of_ble_eq_true rfl⟩) (g5_preV hPc hK hDc hN hT hS hFc (ci := 12) (q0 := 0) rfl rfl) rfl rfl hl.1 rfl (lv_room (Nat.le_of_ble_eq_true rfl)) dX12_behindSum_199 ⟨Nat.le_of_ble_eq_true rfl, Nat.le_of_ble_eq_true rfl⟩) hS (fun q _ h => hFc q h) hFc (fun r u t H1 locs ht hvm hw hB hz1 hk1 hS => ?_)
                                      obtain ⟨hP1, hD1⟩ := hB
                                      rw [ht] at hP1
                                      rcases hw with ⟨i_266, rfl, rfl⟩ | ⟨rfl, rfl⟩
                                      ·
                                        have i_266 : u_so.toInt = 3 := i_266
                                        obtain ⟨hP, hD⟩ := va_join (wr := [(b_tp, (arI G 400 v_tp)), (b_op, (arI G 400 v_op)), (b_ar, (arI G 400 v_ar)), (b_pa, (arI G 400 v_pa)), (b_pi, (arI G 400 v_pi))]) hP hD [5] [0, 1, 2, 3, 4] rfl rfl (by decide) (by decide) hk1 hFc hP1 hD1
                                        generalize H1 = H at hP hS ⊢
                                        refine g5_rs [(b_tp, (arI G 400 v_tp)), (b_op, (arI G 400 v_op)), (b_ar, (arI G 400 v_ar)), (b_pa, (arI G 400 v_pa)), (b_pi, (arI G 400 v_pi)), (b_o, (oc12 u_th u_sa b_rf b_ro b_im b_ke u_fd b_tp u_td u_fr u_to u_so u_wo u_fa u_bd u_nc b_nl u_co b_op b_ar u_le b_pi b_pa u_pd u_od b_ws b_hw u_la b_se b_re u_bk u_va u_su u_ce u_ho u_wy u_bt u_ps b_pt u_tg u_sn b_ip u_ic b_ah b_be b_me u_wd b_tr b_ld u_st b_wn u_id))] hP hD (fun hP hD => ?_)
                                        refine lv_if_eq (tgt := 209) hx hb dX12_behindSum_202 (by decide) (fun c_267 => ?_) (fun c_267 => ?_)
                                        ·
                                          exact absurd c_267 (by decide)
                                        ·
                                          refine lv_iconst (v := 1) hx hb dX12_behindSum_205 (by decide) ?_
                                          refine lv_goto (tgt := 210) hx hb dX12_behindSum_206 (by decide) ?_
                                          have hlt9 : u_fr.toInt < u_to.toInt := tks_lt e_s (by omega)
                                          obtain ⟨hPc, hDc, hFc⟩ := g5_sub3 (wc := [(b_o, (oc12 u_th u_sa b_rf b_ro b_im b_ke u_fd b_tp u_td u_fr u_to u_so u_wo u_fa u_bd u_nc b_nl u_co b_op b_ar u_le b_pi b_pa u_pd u_od b_ws b_hw u_la b_se b_re u_bk u_va u_su u_ce u_ho u_wy u_bt u_ps b_pt u_tg u_sn b_ip u_ic b_ah b_be b_me u_wd b_tr b_ld u_st b_wn u_id)), (b_tp, (arI G 400 v_tp))]) hP hD hS hA [5, 0] (by decide) rfl
                                          refine va_callv (va_runV (As := [.int 1]) (rest := []) ⟨hx, hb, hml, hown, hts⟩ (n_must1 l G b_o b_tp b_rf b_ro b_im b_ke b_nl b_op b_ar b_pi b_pa b_ws b_hw b_se b_re b_pt b_ip b_ah b_be b_me b_tr b_ld b_wn H.size u_th u_sa u_fd u_td u_fr u_to u_so u_fa u_bd u_nc u_co u_le u_pd u_od u_la u_bk u_ce u_ho u_wy u_bt u_ps u_tg u_sn u_ic u_wd u_id u_wo u_va u_su u_st v_tp h_u_td h_u_fr h_u_to h_u_bd h_u_nc h_u_co h_u_pd h_u_la h_u_bk h_u_ce h_u_ho h_u_wy h_u_bt h_u_ps h_u_ic h_u_id (by omega)) (cwV 1 hts gV_X12_233 rfl rfl rfl hv_X12_must ⟨Nat.le_of_ble_eq_true rfl, Nat.le_of_ble_eq_true rfl⟩) (g5_preV hPc hK hDc hN hT hS hFc (ci := 12) (q0 := 0) rfl rfl) rfl rfl hl.1 rfl (lv_room (Nat.le_of_ble_eq_true rfl)) dX12_behindSum_210 ⟨Nat.le_of_ble_eq_true rfl, Nat.le_of_ble_eq_true rfl⟩) hS (fun q _ h => hFc q h) hFc (fun u t H1 locs ht hvm hw hB hz1 hk1 hS => ?_)
                                          obtain ⟨hP1, hD1⟩ := hB
                                          rw [ht] at hP1
                                          obtain ⟨z272, z273, z274, z275, i_268, i_269, i_270, i_271, rfl⟩ := hw
                                          have i_268 : 0 ≤ z272.toInt ∧ z272.toInt ≤ 400 := i_268
                                          have i_269 : 0 ≤ z273.toInt ∧ z273.toInt ≤ 400 := i_269
                                          have i_270 : u_to.toInt ≤ z272.toInt ∧ z272.toInt ≤ z273.toInt ∧ z273.toInt ≤ u_td.toInt := i_270
                                          have i_271 : TKs z274.toInt z272.toInt z273.toInt := i_271
                                          obtain ⟨hP, hD⟩ := va_join (wr := [(b_op, (arI G 400 v_op)), (b_ar, (arI G 400 v_ar)), (b_pa, (arI G 400 v_pa)), (b_pi, (arI G 400 v_pi))]) hP hD [5, 0] [1, 2, 3, 4] rfl rfl (by decide) (by decide) hk1 hFc hP1 hD1
                                          generalize H1 = H at hP hS ⊢
                                          refine g5_rs [(b_op, (arI G 400 v_op)), (b_ar, (arI G 400 v_ar)), (b_pa, (arI G 400 v_pa)), (b_pi, (arI G 400 v_pi)), (b_o, (oc12 u_th u_sa b_rf b_ro b_im b_ke u_fd b_tp u_td z272 z273 z274 z275 u_fa u_bd u_nc b_nl u_co b_op b_ar u_le b_pi b_pa u_pd u_od b_ws b_hw u_la b_se b_re u_bk u_va u_su u_ce u_ho u_wy u_bt u_ps b_pt u_tg u_sn b_ip u_ic b_ah b_be b_me u_wd b_tr b_ld u_st b_wn u_id)), (b_tp, (arI G 400 v_tp))] hP hD (fun hP hD => ?_)
                                          refine lv_aload_n hx hb dX12_behindSum_213 rfl (lv_at hl 2 rfl) ?_
                                          refine va_get (D := G.1) (ci := 12) (v := .int u_bd) (C := RX12) (T := TX12) (N := 52) hx hb hts inG_X12 hown hK hP 4 rfl rfl 14 (by decide) (hts _ fl_X12_205) (fun _ h9 => h9) rfl dX12_behindSum_214 ?_
                                          refine lv_if_ne (tgt := 231) hx hb dX12_behindSum_217 (by decide) (fun c_276 => ?_) (fun c_276 => ?_)
                                          ·
                                            have i_276 : u_bd.toInt ≠ 0 := by have z := g5_ne (a := u_bd.toInt) (b := 0) (by rfl) (by decide) c_276; omega
                                            omega
                                          ·
                                            have i_276 : u_bd.toInt = 0 := by have z := g5_neN (a := u_bd.toInt) (b := 0) (by rfl) (by decide) c_276; omega
                                            have hE_277 : HJ v_op v_ar v_pi v_pa g_a.toInt u_co.toInt u_pd.toInt 1 := tj_d1 e_j (by decide)
                                            refine lv_aload_n hx hb dX12_behindSum_220 rfl (lv_at hl 2 rfl) ?_
                                            refine lv_iconst (v := 5) hx hb dX12_behindSum_221 (by decide) ?_
                                            obtain ⟨hPc, hDc, hFc⟩ := g5_sub3 (wc := [(b_o, (oc12 u_th u_sa b_rf b_ro b_im b_ke u_fd b_tp u_td z272 z273 z274 z275 u_fa u_bd u_nc b_nl u_co b_op b_ar u_le b_pi b_pa u_pd u_od b_ws b_hw u_la b_se b_re u_bk u_va u_su u_ce u_ho u_wy u_bt u_ps b_pt u_tg u_sn b_ip u_ic b_ah b_be b_me u_wd b_tr b_ld u_st b_wn u_id)), (b_op, (arI G 400 v_op)), (b_ar, (arI G 400 v_ar)), (b_pi, (arI G 400 v_pi)), (b_pa, (arI G 400 v_pa))]) hP hD hS hA [4, 0, 1, 3, 2] (by decide) rfl
                                            refine va_callv (va_runV (As := [.int 5]) (rest := []) ⟨hx, hb, hml, hown, hts⟩ (n_settleH l G b_o b_op b_ar b_pi b_pa b_rf b_ro b_im b_ke b_tp b_nl b_ws b_hw b_se b_re b_pt b_ip b_ah b_be b_me b_tr b_ld b_wn H.size u_th u_sa u_fd u_td z272 z273 z274 u_fa u_bd u_nc u_co u_le u_pd u_od u_la u_bk u_ce u_ho u_wy u_bt u_ps u_tg u_sn u_ic u_wd u_id 5 g_a u_fr z275 u_va u_su u_st v_op v_ar v_pi v_pa g_op g_ar h_u_td i_268 i_269 ⟨by omega, by omega⟩ h_u_nc h_u_co h_u_pd h_u_la h_u_bk h_u_ce h_u_ho h_u_wy h_u_bt h_u_ps h_u_ic h_u_id ⟨by decide, by decide⟩ (by omega) (e_x) (hE_277)) (cwV 1 hts gV_X12_288 rfl rfl rfl hv_X12_settle ⟨Nat.le_of_ble_eq_true rfl, Nat.le_of_ble_eq_true rfl⟩) (g5_preV hPc hK hDc hN hT hS hFc (ci := 12) (q0 := 0) rfl rfl) rfl rfl hl.1 rfl (lv_room (Nat.le_of_ble_eq_true rfl)) dX12_behindSum_222 ⟨Nat.le_of_ble_eq_true rfl, Nat.le_of_ble_eq_true rfl⟩) hS (fun q _ h => hFc q h) hFc (fun u t H1 locs ht hvm hw hB hz1 hk1 hS => ?_)
                                            obtain ⟨hP1, hD1⟩ := hB
                                            rw [ht] at hP1
                                            obtain ⟨z285, z286, z287, z288, i_278, i_279, i_280, i_281, i_282, i_283, i_284, rfl⟩ := hw
                                            have i_278 : 0 ≤ z285.toInt ∧ z285.toInt ≤ 400 := i_278
                                            have i_279 : 0 ≤ z286.toInt ∧ z286.toInt ≤ 400 := i_279
                                            have i_280 : XJ g_op g_ar z287 z288 v_pi v_pa g_a.toInt z285.toInt z286.toInt u_fr.toInt := i_280
                                            have i_281 : HJ z287 z288 v_pi v_pa g_a.toInt z285.toInt z286.toInt 1 := i_281
                                            have i_282 : S1 v_pi u_pd.toInt z286.toInt := i_282
                                            have i_283 : S2 v_pi z286.toInt (5 : Int32).toInt := i_283
                                            have i_284 : z286.toInt ≤ u_pd.toInt := i_284
                                            obtain ⟨hP, hD⟩ := va_join (wr := [(b_tp, (arI G 400 v_tp))]) hP hD [4, 0, 1, 3, 2] [5] rfl rfl (by decide) (by decide) hk1 hFc hP1 hD1
                                            generalize H1 = H at hP hS ⊢
                                            refine g5_rs [(b_tp, (arI G 400 v_tp)), (b_o, (oc12 u_th u_sa b_rf b_ro b_im b_ke u_fd b_tp u_td z272 z273 z274 z275 u_fa u_bd u_nc b_nl z285 b_op b_ar u_le b_pi b_pa z286 u_od b_ws b_hw u_la b_se b_re u_bk u_va u_su u_ce u_ho u_wy u_bt u_ps b_pt u_tg u_sn b_ip u_ic b_ah b_be b_me u_wd b_tr b_ld u_st b_wn u_id)), (b_op, (arI G 400 z287)), (b_ar, (arI G 400 z288)), (b_pi, (arI G 400 v_pi)), (b_pa, (arI G 400 v_pa))] hP hD (fun hP hD => ?_)
                                            have hmf8 := xj_mf i_280
                                            refine lv_aload_n hx hb dX12_behindSum_225 rfl (lv_at hl 2 rfl) ?_
                                            refine lv_iload_n hx hb dX12_behindSum_226 rfl (lv_at hl 0 rfl) ?_
                                            refine lv_iconst (v := 0) hx hb dX12_behindSum_227 (by decide) ?_
                                            obtain ⟨hPc, hDc, hFc⟩ := g5_sub3 (wc := [(b_o, (oc12 u_th u_sa b_rf b_ro b_im b_ke u_fd b_tp u_td z272 z273 z274 z275 u_fa u_bd u_nc b_nl z285 b_op b_ar u_le b_pi b_pa z286 u_od b_ws b_hw u_la b_se b_re u_bk u_va u_su u_ce u_ho u_wy u_bt u_ps b_pt u_tg u_sn b_ip u_ic b_ah b_be b_me u_wd b_tr b_ld u_st b_wn u_id)), (b_pi, (arI G 400 v_pi)), (b_pa, (arI G 400 v_pa))]) hP hD hS hA [1, 4, 5] (by decide) rfl
                                            refine va_callv (va_runV (As := [.int 26, .int 0]) (rest := []) ⟨hx, hb, hml, hown, hts⟩ (n_push l G b_o b_pi b_pa b_rf b_ro b_im b_ke b_tp b_nl b_op b_ar b_ws b_hw b_se b_re b_pt b_ip b_ah b_be b_me b_tr b_ld b_wn H.size u_th u_sa u_fd u_td z272 z273 z274 u_fa u_bd u_nc z285 u_le z286 u_od u_la u_bk u_ce u_ho u_wy u_bt u_ps u_tg u_sn u_ic u_wd u_id 26 0 z275 u_va u_su u_st v_pi v_pa h_u_td i_268 i_269 ⟨by omega, by omega⟩ h_u_nc i_278 i_279 h_u_la h_u_bk h_u_ce h_u_ho h_u_wy h_u_bt h_u_ps h_u_ic h_u_id (by omega)) (cwV 2 hts gV_X12_261 rfl rfl rfl hv_X12_push ⟨Nat.le_of_ble_eq_true rfl, Nat.le_of_ble_eq_true rfl⟩) (g5_preV hPc hK hDc hN hT hS hFc (ci := 12) (q0 := 0) rfl rfl) rfl rfl hl.1 rfl (lv_room (Nat.le_of_ble_eq_true rfl)) dX12_behindSum_228 ⟨Nat.le_of_ble_eq_true rfl, Nat.le_of_ble_eq_true rfl⟩) hS (fun q _ h => hFc q h) hFc (fun u t H1 locs ht hvm hw hB hz1 hk1 hS => ?_)
                                            obtain ⟨hP1, hD1⟩ := hB
                                            rw [ht] at hP1
                                            obtain ⟨z291, i_289, i_290, rfl⟩ := hw
                                            have i_289 : 0 ≤ z291.toInt ∧ z291.toInt ≤ 400 := i_289
                                            have i_290 : z291.toInt = z286.toInt + 1 := i_290
                                            obtain ⟨hP, hD⟩ := va_join (wr := [(b_tp, (arI G 400 v_tp)), (b_op, (arI G 400 z287)), (b_ar, (arI G 400 z288))]) hP hD [1, 4, 5] [0, 2, 3] rfl rfl (by decide) (by decide) hk1 hFc hP1 hD1
                                            generalize H1 = H at hP hS ⊢
                                            refine g5_rs [(b_tp, (arI G 400 v_tp)), (b_op, (arI G 400 z287)), (b_ar, (arI G 400 z288)), (b_o, (oc12 u_th u_sa b_rf b_ro b_im b_ke u_fd b_tp u_td z272 z273 z274 z275 u_fa u_bd u_nc b_nl z285 b_op b_ar u_le b_pi b_pa z291 u_od b_ws b_hw u_la b_se b_re u_bk u_va u_su u_ce u_ho u_wy u_bt u_ps b_pt u_tg u_sn b_ip u_ic b_ah b_be b_me u_wd b_tr b_ld u_st b_wn u_id)), (b_pi, (arI G 400 (upd v_pi z286.toNatClampNeg 26))), (b_pa, (arI G 400 (upd v_pa z286.toNatClampNeg 0)))] hP hD (fun hP hD => ?_)
                                            refine lv_iconst (v := 1) hx hb dX12_behindSum_231 (by decide) ?_
                                            exact W.iret (v := 1) hx hb hr (fun t ht hW => ⟨⟨1, [(b_o, (oc12 u_th u_sa b_rf b_ro b_im b_ke u_fd b_tp u_td z272 z273 z274 z275 u_fa u_bd u_nc b_nl z285 b_op b_ar u_le b_pi b_pa z291 u_od b_ws b_hw u_la b_se b_re u_bk u_va u_su u_ce u_ho u_wy u_bt u_ps b_pt u_tg u_sn b_ip u_ic b_ah b_be b_me u_wd b_tr b_ld u_st b_wn u_id)), (b_tp, (arI G 400 v_tp)), (b_op, (arI G 400 z287)), (b_ar, (arI G 400 z288)), (b_pi, (arI G 400 (upd v_pi z286.toNatClampNeg 26))), (b_pa, (arI G 400 (upd v_pa z286.toNatClampNeg 0)))], rfl, Or.inr (⟨1, z272, z273, z274, z275, z285, z291, u_od, z287, z288, (upd v_pi z286.toNatClampNeg 26), (upd v_pa z286.toNatClampNeg 0), i_268, i_269, i_278, i_289, ⟨by have zc_o_r : (1 : Int32).toInt = 1 := (by decide); omega, by have zc_o_r : (1 : Int32).toInt = 1 := (by decide); omega⟩, by omega, i_271, xj_push i_280 (by omega) (by omega) ⟨by decide, by decide⟩ (Or.inl (by decide)), tj_1 (hj_push2 i_281 (by omega) (by omega) ⟨by decide, by decide⟩ (Or.inr (no31_le (inn_no31 i_110 (tj_d1 e_j (by decide)) n_113) (by omega)))) (by decide), by have w9 := (twt_0 (by decide) : twt (1 : Int32).toInt = 0); omega, rfl, rfl⟩), by rw [ht]; exact hP.sub [3, 0, 1, 2, 4, 5] rfl, hD.sub [3, 0, 1, 2, 4, 5] (by decide) rfl⟩, hS.F ht⟩) hS.2.2 dX12_behindSum_232
                                      ·
                                        obtain ⟨hP, hD⟩ := va_join (wr := [(b_tp, (arI G 400 v_tp)), (b_op, (arI G 400 v_op)), (b_ar, (arI G 400 v_ar)), (b_pa, (arI G 400 v_pa)), (b_pi, (arI G 400 v_pi))]) hP hD [5] [0, 1, 2, 3, 4] rfl rfl (by decide) (by decide) hk1 hFc hP1 hD1
                                        generalize H1 = H at hP hS ⊢
                                        refine g5_rs [(b_tp, (arI G 400 v_tp)), (b_op, (arI G 400 v_op)), (b_ar, (arI G 400 v_ar)), (b_pa, (arI G 400 v_pa)), (b_pi, (arI G 400 v_pi)), (b_o, (oc12 u_th u_sa b_rf b_ro b_im b_ke u_fd b_tp u_td u_fr u_to u_so u_wo u_fa u_bd u_nc b_nl u_co b_op b_ar u_le b_pi b_pa u_pd u_od b_ws b_hw u_la b_se b_re u_bk u_va u_su u_ce u_ho u_wy u_bt u_ps b_pt u_tg u_sn b_ip u_ic b_ah b_be b_me u_wd b_tr b_ld u_st b_wn u_id))] hP hD (fun hP hD => ?_)
                                        refine lv_if_eq (tgt := 209) hx hb dX12_behindSum_202 (by decide) (fun c_292 => ?_) (fun c_292 => ?_)
                                        ·
                                          refine lv_iconst (v := 0) hx hb dX12_behindSum_209 (by decide) ?_
                                          obtain ⟨hPc, hDc, hFc⟩ := g5_sub3 (wc := [(b_o, (oc12 u_th u_sa b_rf b_ro b_im b_ke u_fd b_tp u_td u_fr u_to u_so u_wo u_fa u_bd u_nc b_nl u_co b_op b_ar u_le b_pi b_pa u_pd u_od b_ws b_hw u_la b_se b_re u_bk u_va u_su u_ce u_ho u_wy u_bt u_ps b_pt u_tg u_sn b_ip u_ic b_ah b_be b_me u_wd b_tr b_ld u_st b_wn u_id)), (b_tp, (arI G 400 v_tp))]) hP hD hS hA [5, 0] (by decide) rfl
                                          refine va_callv (va_runV (As := [.int 0]) (rest := []) ⟨hx, hb, hml, hown, hts⟩ (n_must0 l G b_o b_tp b_rf b_ro b_im b_ke b_nl b_op b_ar b_pi b_pa b_ws b_hw b_se b_re b_pt b_ip b_ah b_be b_me b_tr b_ld b_wn H.size u_th u_sa u_fd u_td u_fr u_to u_so u_fa u_bd u_nc u_co u_le u_pd u_od u_la u_bk u_ce u_ho u_wy u_bt u_ps u_tg u_sn u_ic u_wd u_id u_wo u_va u_su u_st v_tp h_u_td h_u_fr h_u_to h_u_bd h_u_nc h_u_co h_u_pd h_u_la h_u_bk h_u_ce h_u_ho h_u_wy h_u_bt h_u_ps h_u_ic h_u_id) (cwV 1 hts gV_X12_233 rfl rfl rfl hv_X12_must ⟨Nat.le_of_ble_eq_true rfl, Nat.le_of_ble_eq_true rfl⟩) (g5_preV hPc hK hDc hN hT hS hFc (ci := 12) (q0 := 0) rfl rfl) rfl rfl hl.1 rfl (lv_room (Nat.le_of_ble_eq_true rfl)) dX12_behindSum_210 ⟨Nat.le_of_ble_eq_true rfl, Nat.le_of_ble_eq_true rfl⟩) hS (fun q _ h => hFc q h) hFc (fun u t H1 locs ht hvm hw hB hz1 hk1 hS => ?_)
                                          obtain ⟨hP1, hD1⟩ := hB
                                          rw [ht] at hP1
                                          obtain rfl := hw
                                          obtain ⟨hP, hD⟩ := va_join (wr := [(b_op, (arI G 400 v_op)), (b_ar, (arI G 400 v_ar)), (b_pa, (arI G 400 v_pa)), (b_pi, (arI G 400 v_pi))]) hP hD [5, 0] [1, 2, 3, 4] rfl rfl (by decide) (by decide) hk1 hFc hP1 hD1
                                          generalize H1 = H at hP hS ⊢
                                          refine g5_rs [(b_op, (arI G 400 v_op)), (b_ar, (arI G 400 v_ar)), (b_pa, (arI G 400 v_pa)), (b_pi, (arI G 400 v_pi)), (b_o, (oc12 u_th u_sa b_rf b_ro b_im b_ke u_fd b_tp u_td u_fr u_to u_so u_wo u_fr 1 u_nc b_nl u_co b_op b_ar u_le b_pi b_pa u_pd u_od b_ws b_hw u_la b_se b_re u_bk u_va u_su u_ce u_ho u_wy u_bt u_ps b_pt u_tg u_sn b_ip u_ic b_ah b_be b_me u_wd b_tr b_ld u_st b_wn u_id)), (b_tp, (arI G 400 v_tp))] hP hD (fun hP hD => ?_)
                                          refine lv_aload_n hx hb dX12_behindSum_213 rfl (lv_at hl 2 rfl) ?_
                                          refine va_get (D := G.1) (ci := 12) (v := .int 1) (C := RX12) (T := TX12) (N := 52) hx hb hts inG_X12 hown hK hP 4 rfl rfl 14 (by decide) (hts _ fl_X12_205) (fun _ h9 => h9) rfl dX12_behindSum_214 ?_
                                          refine lv_if_ne (tgt := 231) hx hb dX12_behindSum_217 (by decide) (fun c_293 => ?_) (fun c_293 => ?_)
                                          ·
                                            refine lv_iconst (v := 1) hx hb dX12_behindSum_231 (by decide) ?_
                                            exact W.iret (v := 1) hx hb hr (fun t ht hW => ⟨⟨1, [(b_o, (oc12 u_th u_sa b_rf b_ro b_im b_ke u_fd b_tp u_td u_fr u_to u_so u_wo u_fr 1 u_nc b_nl u_co b_op b_ar u_le b_pi b_pa u_pd u_od b_ws b_hw u_la b_se b_re u_bk u_va u_su u_ce u_ho u_wy u_bt u_ps b_pt u_tg u_sn b_ip u_ic b_ah b_be b_me u_wd b_tr b_ld u_st b_wn u_id)), (b_tp, (arI G 400 v_tp)), (b_op, (arI G 400 v_op)), (b_ar, (arI G 400 v_ar)), (b_pi, (arI G 400 v_pi)), (b_pa, (arI G 400 v_pa))], rfl, Or.inl (⟨1, ⟨by have zc_o_r : (1 : Int32).toInt = 1 := (by decide); omega, by have zc_o_r : (1 : Int32).toInt = 1 := (by decide); omega⟩, rfl, rfl⟩), by rw [ht]; exact hP.sub [4, 5, 0, 1, 3, 2] rfl, hD.sub [4, 5, 0, 1, 3, 2] (by decide) rfl⟩, hS.F ht⟩) hS.2.2 dX12_behindSum_232
                                          ·
                                            exact absurd c_293 (by decide)
                                        ·
                                          exact absurd c_292 (by decide)
                                  ·
                                    exact absurd c_264 (by decide)
                              ·
                                exact absurd c_236 (by decide)
                          ·
                            have n_208 : gNe (z206.toInt) (0) := by have z := g5_eqN (a := z206.toInt) (b := 0) (by rfl) (by decide) c_208; unfold gNe; omega
                            have i_208 : z206.toInt ≥ 1 := by have z := g5_eqN (a := z206.toInt) (b := 0) (by rfl) (by decide) c_208; omega
                            refine lv_iconst (v := 2) hx hb dX12_behindSum_156 (by decide) ?_
                            exact W.iret (v := 2) hx hb hr (fun t ht hW => ⟨⟨2, [(b_o, (oc12 u_th u_sa b_rf b_ro b_im b_ke u_fd b_tp u_td u_fr u_to u_so u_wo u_fa u_bd u_nc b_nl u_co b_op b_ar u_le b_pi b_pa u_pd u_od b_ws b_hw u_la b_se b_re u_bk u_va u_su u_ce u_ho u_wy u_bt u_ps b_pt u_tg u_sn b_ip u_ic b_ah b_be b_me u_wd b_tr b_ld u_st b_wn u_id)), (b_tp, (arI G 400 v_tp)), (b_op, (arI G 400 v_op)), (b_ar, (arI G 400 v_ar)), (b_pi, (arI G 400 v_pi)), (b_pa, (arI G 400 v_pa))], rfl, Or.inr (⟨2, u_fr, u_to, u_so, u_wo, u_co, u_pd, u_od, v_op, v_ar, v_pi, v_pa, h_u_fr, h_u_to, h_u_co, h_u_pd, ⟨by have zc_o_r : (2 : Int32).toInt = 2 := (by decide); omega, by have zc_o_r : (2 : Int32).toInt = 2 := (by decide); omega⟩, by omega, e_s, e_x, tj_2 (tj_d1 e_j (by decide)) (by decide) (inn_no31 i_110 (tj_d1 e_j (by decide)) n_113), by have w9 := (twt_2 (by decide) : twt (2 : Int32).toInt = 1); omega, rfl, rfl⟩), by rw [ht]; exact hP.sub [4, 0, 1, 2, 5, 3] rfl, hD.sub [4, 0, 1, 2, 5, 3] (by decide) rfl⟩, hS.F ht⟩) hS.2.2 dX12_behindSum_157
                        ·
                          have i_204 : p_1.toInt = 0 := by have z := g5_neN (a := p_1.toInt) (b := 0) (by rfl) (by decide) c_204; omega
                          refine lv_iconst (v := 4) hx hb dX12_behindSum_147 (by decide) ?_
                          exact W.iret (v := 4) hx hb hr (fun t ht hW => ⟨⟨4, [(b_o, (oc12 u_th u_sa b_rf b_ro b_im b_ke u_fd b_tp u_td u_fr u_to u_so u_wo u_fa u_bd u_nc b_nl u_co b_op b_ar u_le b_pi b_pa u_pd u_od b_ws b_hw u_la b_se b_re u_bk u_va u_su u_ce u_ho u_wy u_bt u_ps b_pt u_tg u_sn b_ip u_ic b_ah b_be b_me u_wd b_tr b_ld u_st b_wn u_id)), (b_tp, (arI G 400 v_tp)), (b_op, (arI G 400 v_op)), (b_ar, (arI G 400 v_ar)), (b_pi, (arI G 400 v_pi)), (b_pa, (arI G 400 v_pa))], rfl, Or.inr (⟨4, u_fr, u_to, u_so, u_wo, u_co, u_pd, u_od, v_op, v_ar, v_pi, v_pa, h_u_fr, h_u_to, h_u_co, h_u_pd, ⟨by have zc_o_r : (4 : Int32).toInt = 4 := (by decide); omega, by have zc_o_r : (4 : Int32).toInt = 4 := (by decide); omega⟩, by omega, e_s, e_x, tj_4 (tj_d1 e_j (by decide)) (by decide) (inn_no30 i_110 (by omega)), by have w9 := (twt_0 (by decide) : twt (4 : Int32).toInt = 0); omega, rfl, rfl⟩), by rw [ht]; exact hP.sub [4, 0, 1, 2, 5, 3] rfl, hD.sub [4, 0, 1, 2, 5, 3] (by decide) rfl⟩, hS.F ht⟩) hS.2.2 dX12_behindSum_148
                    ·
                      have i_113 : z111.toInt = 31 := by have z := g5_neN (a := z111.toInt) (b := 31) (by rfl) (by decide) c_113; omega
                      refine lv_aload_n hx hb dX12_behindSum_94 rfl (lv_at hl 2 rfl) ?_
                      refine lv_aload_n hx hb dX12_behindSum_95 rfl (lv_at hl 2 rfl) ?_
                      refine lv_bipush (v := 93) hx hb dX12_behindSum_96 (by decide) ?_
                      obtain ⟨hPc, hDc, hFc⟩ := g5_sub3 (wc := [(b_o, (oc12 u_th u_sa b_rf b_ro b_im b_ke u_fd b_tp u_td u_fr u_to u_so u_wo u_fa u_bd u_nc b_nl u_co b_op b_ar u_le b_pi b_pa u_pd u_od b_ws b_hw u_la b_se b_re u_bk u_va u_su u_ce u_ho u_wy u_bt u_ps b_pt u_tg u_sn b_ip u_ic b_ah b_be b_me u_wd b_tr b_ld u_st b_wn u_id))]) hP hD hS hA [4] (by decide) rfl
                      refine va_calli (va_runV (As := [.int 93]) (rest := [.ref b_o]) ⟨hx, hb, hml, hown, hts⟩ (n_isSign l G b_o b_rf b_ro b_im b_ke b_tp b_nl b_op b_ar b_pi b_pa b_ws b_hw b_se b_re b_pt b_ip b_ah b_be b_me b_tr b_ld b_wn H.size u_th u_sa u_fd u_td u_fr u_to u_so u_fa u_bd u_nc u_co u_le u_pd u_od u_la u_bk u_ce u_ho u_wy u_bt u_ps u_tg u_sn u_ic u_wd u_id 93 u_wo u_va u_su u_st h_u_td h_u_fr h_u_to ⟨by omega, by omega⟩ h_u_nc h_u_co h_u_pd h_u_la h_u_bk h_u_ce h_u_ho h_u_wy h_u_bt h_u_ps h_u_ic h_u_id) (cwV 1 hts gV_X12_267 rfl rfl rfl hv_X12_isSign ⟨Nat.le_of_ble_eq_true rfl, Nat.le_of_ble_eq_true rfl⟩) (g5_preV hPc hK hDc hN hT hS hFc (ci := 12) (q0 := 0) rfl rfl) rfl rfl hl.1 rfl (lv_room (Nat.le_of_ble_eq_true rfl)) dX12_behindSum_98 ⟨Nat.le_of_ble_eq_true rfl, Nat.le_of_ble_eq_true rfl⟩) hS (fun q _ h => hFc q h) hFc (fun r u t H1 locs ht hvm hw hB hz1 hk1 hS => ?_)
                      obtain ⟨hP1, hD1⟩ := hB
                      rw [ht] at hP1
                      rcases hw with ⟨i_294, rfl, rfl⟩ | ⟨rfl, rfl⟩
                      ·
                        have i_294 : u_so.toInt = 3 := i_294
                        obtain ⟨hP, hD⟩ := va_join (wr := [(b_tp, (arI G 400 v_tp)), (b_op, (arI G 400 v_op)), (b_ar, (arI G 400 v_ar)), (b_pa, (arI G 400 v_pa)), (b_pi, (arI G 400 v_pi))]) hP hD [4] [0, 1, 2, 3, 5] rfl rfl (by decide) (by decide) hk1 hFc hP1 hD1
                        generalize H1 = H at hP hS ⊢
                        refine g5_rs [(b_tp, (arI G 400 v_tp)), (b_op, (arI G 400 v_op)), (b_ar, (arI G 400 v_ar)), (b_pa, (arI G 400 v_pa)), (b_pi, (arI G 400 v_pi)), (b_o, (oc12 u_th u_sa b_rf b_ro b_im b_ke u_fd b_tp u_td u_fr u_to u_so u_wo u_fa u_bd u_nc b_nl u_co b_op b_ar u_le b_pi b_pa u_pd u_od b_ws b_hw u_la b_se b_re u_bk u_va u_su u_ce u_ho u_wy u_bt u_ps b_pt u_tg u_sn b_ip u_ic b_ah b_be b_me u_wd b_tr b_ld u_st b_wn u_id))] hP hD (fun hP hD => ?_)
                        have hlt9 : u_fr.toInt < u_to.toInt := tks_lt e_s (by omega)
                        obtain ⟨hPc, hDc, hFc⟩ := g5_sub3 (wc := [(b_o, (oc12 u_th u_sa b_rf b_ro b_im b_ke u_fd b_tp u_td u_fr u_to u_so u_wo u_fa u_bd u_nc b_nl u_co b_op b_ar u_le b_pi b_pa u_pd u_od b_ws b_hw u_la b_se b_re u_bk u_va u_su u_ce u_ho u_wy u_bt u_ps b_pt u_tg u_sn b_ip u_ic b_ah b_be b_me u_wd b_tr b_ld u_st b_wn u_id)), (b_tp, (arI G 400 v_tp))]) hP hD hS hA [5, 0] (by decide) rfl
                        refine va_callv (va_runV (As := [.int 1]) (rest := []) ⟨hx, hb, hml, hown, hts⟩ (n_must1 l G b_o b_tp b_rf b_ro b_im b_ke b_nl b_op b_ar b_pi b_pa b_ws b_hw b_se b_re b_pt b_ip b_ah b_be b_me b_tr b_ld b_wn H.size u_th u_sa u_fd u_td u_fr u_to u_so u_fa u_bd u_nc u_co u_le u_pd u_od u_la u_bk u_ce u_ho u_wy u_bt u_ps u_tg u_sn u_ic u_wd u_id u_wo u_va u_su u_st v_tp h_u_td h_u_fr h_u_to h_u_bd h_u_nc h_u_co h_u_pd h_u_la h_u_bk h_u_ce h_u_ho h_u_wy h_u_bt h_u_ps h_u_ic h_u_id (by omega)) (cwV 1 hts gV_X12_233 rfl rfl rfl hv_X12_must ⟨Nat.le_of_ble_eq_true rfl, Nat.le_of_ble_eq_true rfl⟩) (g5_preV hPc hK hDc hN hT hS hFc (ci := 12) (q0 := 0) rfl rfl) rfl rfl hl.1 rfl (lv_room (Nat.le_of_ble_eq_true rfl)) dX12_behindSum_101 ⟨Nat.le_of_ble_eq_true rfl, Nat.le_of_ble_eq_true rfl⟩) hS (fun q _ h => hFc q h) hFc (fun u t H1 locs ht hvm hw hB hz1 hk1 hS => ?_)
                        obtain ⟨hP1, hD1⟩ := hB
                        rw [ht] at hP1
                        obtain ⟨z299, z300, z301, z302, i_295, i_296, i_297, i_298, rfl⟩ := hw
                        have i_295 : 0 ≤ z299.toInt ∧ z299.toInt ≤ 400 := i_295
                        have i_296 : 0 ≤ z300.toInt ∧ z300.toInt ≤ 400 := i_296
                        have i_297 : u_to.toInt ≤ z299.toInt ∧ z299.toInt ≤ z300.toInt ∧ z300.toInt ≤ u_td.toInt := i_297
                        have i_298 : TKs z301.toInt z299.toInt z300.toInt := i_298
                        obtain ⟨hP, hD⟩ := va_join (wr := [(b_op, (arI G 400 v_op)), (b_ar, (arI G 400 v_ar)), (b_pa, (arI G 400 v_pa)), (b_pi, (arI G 400 v_pi))]) hP hD [5, 0] [1, 2, 3, 4] rfl rfl (by decide) (by decide) hk1 hFc hP1 hD1
                        generalize H1 = H at hP hS ⊢
                        refine g5_rs [(b_op, (arI G 400 v_op)), (b_ar, (arI G 400 v_ar)), (b_pa, (arI G 400 v_pa)), (b_pi, (arI G 400 v_pi)), (b_o, (oc12 u_th u_sa b_rf b_ro b_im b_ke u_fd b_tp u_td z299 z300 z301 z302 u_fa u_bd u_nc b_nl u_co b_op b_ar u_le b_pi b_pa u_pd u_od b_ws b_hw u_la b_se b_re u_bk u_va u_su u_ce u_ho u_wy u_bt u_ps b_pt u_tg u_sn b_ip u_ic b_ah b_be b_me u_wd b_tr b_ld u_st b_wn u_id)), (b_tp, (arI G 400 v_tp))] hP hD (fun hP hD => ?_)
                        refine lv_aload_n hx hb dX12_behindSum_104 rfl (lv_at hl 2 rfl) ?_
                        refine va_get (D := G.1) (ci := 12) (v := .int u_bd) (C := RX12) (T := TX12) (N := 52) hx hb hts inG_X12 hown hK hP 4 rfl rfl 14 (by decide) (hts _ fl_X12_205) (fun _ h9 => h9) rfl dX12_behindSum_105 ?_
                        refine lv_if_ne (tgt := 136) hx hb dX12_behindSum_108 (by decide) (fun c_303 => ?_) (fun c_303 => ?_)
                        ·
                          have i_303 : u_bd.toInt ≠ 0 := by have z := g5_ne (a := u_bd.toInt) (b := 0) (by rfl) (by decide) c_303; omega
                          omega
                        ·
                          have i_303 : u_bd.toInt = 0 := by have z := g5_neN (a := u_bd.toInt) (b := 0) (by rfl) (by decide) c_303; omega
                          have hE_304 : HJ v_op v_ar v_pi v_pa g_a.toInt u_co.toInt u_pd.toInt 1 := tj_d1 e_j (by decide)
                          refine lv_aload_n hx hb dX12_behindSum_111 rfl (lv_at hl 2 rfl) ?_
                          refine lv_iconst (v := 5) hx hb dX12_behindSum_112 (by decide) ?_
                          obtain ⟨hPc, hDc, hFc⟩ := g5_sub3 (wc := [(b_o, (oc12 u_th u_sa b_rf b_ro b_im b_ke u_fd b_tp u_td z299 z300 z301 z302 u_fa u_bd u_nc b_nl u_co b_op b_ar u_le b_pi b_pa u_pd u_od b_ws b_hw u_la b_se b_re u_bk u_va u_su u_ce u_ho u_wy u_bt u_ps b_pt u_tg u_sn b_ip u_ic b_ah b_be b_me u_wd b_tr b_ld u_st b_wn u_id)), (b_op, (arI G 400 v_op)), (b_ar, (arI G 400 v_ar)), (b_pi, (arI G 400 v_pi)), (b_pa, (arI G 400 v_pa))]) hP hD hS hA [4, 0, 1, 3, 2] (by decide) rfl
                          refine va_callv (va_runV (As := [.int 5]) (rest := []) ⟨hx, hb, hml, hown, hts⟩ (n_settleH l G b_o b_op b_ar b_pi b_pa b_rf b_ro b_im b_ke b_tp b_nl b_ws b_hw b_se b_re b_pt b_ip b_ah b_be b_me b_tr b_ld b_wn H.size u_th u_sa u_fd u_td z299 z300 z301 u_fa u_bd u_nc u_co u_le u_pd u_od u_la u_bk u_ce u_ho u_wy u_bt u_ps u_tg u_sn u_ic u_wd u_id 5 g_a u_fr z302 u_va u_su u_st v_op v_ar v_pi v_pa g_op g_ar h_u_td i_295 i_296 ⟨by omega, by omega⟩ h_u_nc h_u_co h_u_pd h_u_la h_u_bk h_u_ce h_u_ho h_u_wy h_u_bt h_u_ps h_u_ic h_u_id ⟨by decide, by decide⟩ (by omega) (e_x) (hE_304)) (cwV 1 hts gV_X12_288 rfl rfl rfl hv_X12_settle ⟨Nat.le_of_ble_eq_true rfl, Nat.le_of_ble_eq_true rfl⟩) (g5_preV hPc hK hDc hN hT hS hFc (ci := 12) (q0 := 0) rfl rfl) rfl rfl hl.1 rfl (lv_room (Nat.le_of_ble_eq_true rfl)) dX12_behindSum_113 ⟨Nat.le_of_ble_eq_true rfl, Nat.le_of_ble_eq_true rfl⟩) hS (fun q _ h => hFc q h) hFc (fun u t H1 locs ht hvm hw hB hz1 hk1 hS => ?_)
                          obtain ⟨hP1, hD1⟩ := hB
                          rw [ht] at hP1
                          obtain ⟨z312, z313, z314, z315, i_305, i_306, i_307, i_308, i_309, i_310, i_311, rfl⟩ := hw
                          have i_305 : 0 ≤ z312.toInt ∧ z312.toInt ≤ 400 := i_305
                          have i_306 : 0 ≤ z313.toInt ∧ z313.toInt ≤ 400 := i_306
                          have i_307 : XJ g_op g_ar z314 z315 v_pi v_pa g_a.toInt z312.toInt z313.toInt u_fr.toInt := i_307
                          have i_308 : HJ z314 z315 v_pi v_pa g_a.toInt z312.toInt z313.toInt 1 := i_308
                          have i_309 : S1 v_pi u_pd.toInt z313.toInt := i_309
                          have i_310 : S2 v_pi z313.toInt (5 : Int32).toInt := i_310
                          have i_311 : z313.toInt ≤ u_pd.toInt := i_311
                          obtain ⟨hP, hD⟩ := va_join (wr := [(b_tp, (arI G 400 v_tp))]) hP hD [4, 0, 1, 3, 2] [5] rfl rfl (by decide) (by decide) hk1 hFc hP1 hD1
                          generalize H1 = H at hP hS ⊢
                          refine g5_rs [(b_tp, (arI G 400 v_tp)), (b_o, (oc12 u_th u_sa b_rf b_ro b_im b_ke u_fd b_tp u_td z299 z300 z301 z302 u_fa u_bd u_nc b_nl z312 b_op b_ar u_le b_pi b_pa z313 u_od b_ws b_hw u_la b_se b_re u_bk u_va u_su u_ce u_ho u_wy u_bt u_ps b_pt u_tg u_sn b_ip u_ic b_ah b_be b_me u_wd b_tr b_ld u_st b_wn u_id)), (b_op, (arI G 400 z314)), (b_ar, (arI G 400 z315)), (b_pi, (arI G 400 v_pi)), (b_pa, (arI G 400 v_pa))] hP hD (fun hP hD => ?_)
                          have htp := top_sq (q' := (z313 - 1)) i_110 (by omega) i_308 (by decide) i_309 i_310
                          have htp1 := htp.1
                          refine lv_aload_n hx hb dX12_behindSum_116 rfl (lv_at hl 2 rfl) ?_
                          refine lv_dup hx hb dX12_behindSum_117 rfl ?_
                          refine va_get (D := G.1) (ci := 12) (v := .int z313) (C := RX12) (T := TX12) (N := 52) hx hb hts inG_X12 hown hK hP 1 rfl rfl 23 (by decide) (hts _ fl_X12_240) (fun _ h9 => h9) rfl dX12_behindSum_118 ?_
                          refine lv_iconst (v := 1) hx hb dX12_behindSum_121 (by decide) ?_
                          refine lv_isub hx hb dX12_behindSum_122 ?_
                          have t_317 : (z313 - 1).toInt = z313.toInt - 1 := g5_isub (a := z313.toInt) (b := 1) (by rfl) (by decide) (by omega) (by omega)
                          refine va_put (D := G.1) (ci := 12) (v := .int (z313 - 1)) (ty := .int) (C := RX12) (T := TX12) (N := 52) hx hb hts inG_X12 tyX12 tyX12_ok nmX12 hown hK hP hD hS 1 rfl rfl 23 (by decide) (hts _ fl_X12_240) (fun _ h9 => h9) rfl (by decide +kernel) rfl rfl (Nat.le_of_ble_eq_true rfl) dX12_behindSum_123 (fun H locs hP hD hS => ?_)
                          refine g5_rs [(b_tp, (arI G 400 v_tp)), (b_o, (oc12 u_th u_sa b_rf b_ro b_im b_ke u_fd b_tp u_td z299 z300 z301 z302 u_fa u_bd u_nc b_nl z312 b_op b_ar u_le b_pi b_pa (z313 - 1) u_od b_ws b_hw u_la b_se b_re u_bk u_va u_su u_ce u_ho u_wy u_bt u_ps b_pt u_tg u_sn b_ip u_ic b_ah b_be b_me u_wd b_tr b_ld u_st b_wn u_id)), (b_op, (arI G 400 z314)), (b_ar, (arI G 400 z315)), (b_pi, (arI G 400 v_pi)), (b_pa, (arI G 400 v_pa))] hP hD (fun hP hD => ?_)
                          refine lv_aload_n hx hb dX12_behindSum_126 rfl (lv_at hl 2 rfl) ?_
                          refine lv_dup hx hb dX12_behindSum_127 rfl ?_
                          refine va_get (D := G.1) (ci := 12) (v := .int u_od) (C := RX12) (T := TX12) (N := 52) hx hb hts inG_X12 hown hK hP 1 rfl rfl 24 (by decide) (hts _ fl_X12_258) (fun _ h9 => h9) rfl dX12_behindSum_128 ?_
                          refine lv_iconst (v := 1) hx hb dX12_behindSum_131 (by decide) ?_
                          refine lv_isub hx hb dX12_behindSum_132 ?_
                          refine va_put (D := G.1) (ci := 12) (v := .int (u_od - 1)) (ty := .int) (C := RX12) (T := TX12) (N := 52) hx hb hts inG_X12 tyX12 tyX12_ok nmX12 hown hK hP hD hS 1 rfl rfl 24 (by decide) (hts _ fl_X12_258) (fun _ h9 => h9) rfl (by decide +kernel) rfl rfl (Nat.le_of_ble_eq_true rfl) dX12_behindSum_133 (fun H locs hP hD hS => ?_)
                          refine g5_rs [(b_tp, (arI G 400 v_tp)), (b_o, (oc12 u_th u_sa b_rf b_ro b_im b_ke u_fd b_tp u_td z299 z300 z301 z302 u_fa u_bd u_nc b_nl z312 b_op b_ar u_le b_pi b_pa (z313 - 1) (u_od - 1) b_ws b_hw u_la b_se b_re u_bk u_va u_su u_ce u_ho u_wy u_bt u_ps b_pt u_tg u_sn b_ip u_ic b_ah b_be b_me u_wd b_tr b_ld u_st b_wn u_id)), (b_op, (arI G 400 z314)), (b_ar, (arI G 400 z315)), (b_pi, (arI G 400 v_pi)), (b_pa, (arI G 400 v_pa))] hP hD (fun hP hD => ?_)
                          refine lv_iconst (v := 3) hx hb dX12_behindSum_136 (by decide) ?_
                          exact W.iret (v := 3) hx hb hr (fun t ht hW => ⟨⟨3, [(b_o, (oc12 u_th u_sa b_rf b_ro b_im b_ke u_fd b_tp u_td z299 z300 z301 z302 u_fa u_bd u_nc b_nl z312 b_op b_ar u_le b_pi b_pa (z313 - 1) (u_od - 1) b_ws b_hw u_la b_se b_re u_bk u_va u_su u_ce u_ho u_wy u_bt u_ps b_pt u_tg u_sn b_ip u_ic b_ah b_be b_me u_wd b_tr b_ld u_st b_wn u_id)), (b_tp, (arI G 400 v_tp)), (b_op, (arI G 400 z314)), (b_ar, (arI G 400 z315)), (b_pi, (arI G 400 v_pi)), (b_pa, (arI G 400 v_pa))], rfl, Or.inr (⟨3, z299, z300, z301, z302, z312, (z313 - 1), (u_od - 1), z314, z315, v_pi, v_pa, i_295, i_296, i_305, ⟨by omega, by omega⟩, ⟨by have zc_o_r : (3 : Int32).toInt = 3 := (by decide); omega, by have zc_o_r : (3 : Int32).toInt = 3 := (by decide); omega⟩, by omega, i_298, xj_up (xj_popB i_307 htp1 (by omega)) (by omega), tj_3 (hj_popB i_308 htp1 (by omega) (htp.2 (by omega))) (by decide), by have w9 := (twt_3 (by decide) : twt (3 : Int32).toInt = 2); omega, rfl, rfl⟩), by rw [ht]; exact hP.sub [1, 0, 2, 3, 4, 5] rfl, hD.sub [1, 0, 2, 3, 4, 5] (by decide) rfl⟩, hS.F ht⟩) hS.2.2 dX12_behindSum_137
                      ·
                        obtain ⟨hP, hD⟩ := va_join (wr := [(b_tp, (arI G 400 v_tp)), (b_op, (arI G 400 v_op)), (b_ar, (arI G 400 v_ar)), (b_pa, (arI G 400 v_pa)), (b_pi, (arI G 400 v_pi))]) hP hD [4] [0, 1, 2, 3, 5] rfl rfl (by decide) (by decide) hk1 hFc hP1 hD1
                        generalize H1 = H at hP hS ⊢
                        refine g5_rs [(b_tp, (arI G 400 v_tp)), (b_op, (arI G 400 v_op)), (b_ar, (arI G 400 v_ar)), (b_pa, (arI G 400 v_pa)), (b_pi, (arI G 400 v_pi)), (b_o, (oc12 u_th u_sa b_rf b_ro b_im b_ke u_fd b_tp u_td u_fr u_to u_so u_wo u_fa u_bd u_nc b_nl u_co b_op b_ar u_le b_pi b_pa u_pd u_od b_ws b_hw u_la b_se b_re u_bk u_va u_su u_ce u_ho u_wy u_bt u_ps b_pt u_tg u_sn b_ip u_ic b_ah b_be b_me u_wd b_tr b_ld u_st b_wn u_id))] hP hD (fun hP hD => ?_)
                        obtain ⟨hPc, hDc, hFc⟩ := g5_sub3 (wc := [(b_o, (oc12 u_th u_sa b_rf b_ro b_im b_ke u_fd b_tp u_td u_fr u_to u_so u_wo u_fa u_bd u_nc b_nl u_co b_op b_ar u_le b_pi b_pa u_pd u_od b_ws b_hw u_la b_se b_re u_bk u_va u_su u_ce u_ho u_wy u_bt u_ps b_pt u_tg u_sn b_ip u_ic b_ah b_be b_me u_wd b_tr b_ld u_st b_wn u_id)), (b_tp, (arI G 400 v_tp))]) hP hD hS hA [5, 0] (by decide) rfl
                        refine va_callv (va_runV (As := [.int 0]) (rest := []) ⟨hx, hb, hml, hown, hts⟩ (n_must0 l G b_o b_tp b_rf b_ro b_im b_ke b_nl b_op b_ar b_pi b_pa b_ws b_hw b_se b_re b_pt b_ip b_ah b_be b_me b_tr b_ld b_wn H.size u_th u_sa u_fd u_td u_fr u_to u_so u_fa u_bd u_nc u_co u_le u_pd u_od u_la u_bk u_ce u_ho u_wy u_bt u_ps u_tg u_sn u_ic u_wd u_id u_wo u_va u_su u_st v_tp h_u_td h_u_fr h_u_to h_u_bd h_u_nc h_u_co h_u_pd h_u_la h_u_bk h_u_ce h_u_ho h_u_wy h_u_bt h_u_ps h_u_ic h_u_id) (cwV 1 hts gV_X12_233 rfl rfl rfl hv_X12_must ⟨Nat.le_of_ble_eq_true rfl, Nat.le_of_ble_eq_true rfl⟩) (g5_preV hPc hK hDc hN hT hS hFc (ci := 12) (q0 := 0) rfl rfl) rfl rfl hl.1 rfl (lv_room (Nat.le_of_ble_eq_true rfl)) dX12_behindSum_101 ⟨Nat.le_of_ble_eq_true rfl, Nat.le_of_ble_eq_true rfl⟩) hS (fun q _ h => hFc q h) hFc (fun u t H1 locs ht hvm hw hB hz1 hk1 hS => ?_)
                        obtain ⟨hP1, hD1⟩ := hB
                        rw [ht] at hP1
                        obtain rfl := hw
                        obtain ⟨hP, hD⟩ := va_join (wr := [(b_op, (arI G 400 v_op)), (b_ar, (arI G 400 v_ar)), (b_pa, (arI G 400 v_pa)), (b_pi, (arI G 400 v_pi))]) hP hD [5, 0] [1, 2, 3, 4] rfl rfl (by decide) (by decide) hk1 hFc hP1 hD1
                        generalize H1 = H at hP hS ⊢
                        refine g5_rs [(b_op, (arI G 400 v_op)), (b_ar, (arI G 400 v_ar)), (b_pa, (arI G 400 v_pa)), (b_pi, (arI G 400 v_pi)), (b_o, (oc12 u_th u_sa b_rf b_ro b_im b_ke u_fd b_tp u_td u_fr u_to u_so u_wo u_fr 1 u_nc b_nl u_co b_op b_ar u_le b_pi b_pa u_pd u_od b_ws b_hw u_la b_se b_re u_bk u_va u_su u_ce u_ho u_wy u_bt u_ps b_pt u_tg u_sn b_ip u_ic b_ah b_be b_me u_wd b_tr b_ld u_st b_wn u_id)), (b_tp, (arI G 400 v_tp))] hP hD (fun hP hD => ?_)
                        refine lv_aload_n hx hb dX12_behindSum_104 rfl (lv_at hl 2 rfl) ?_
                        refine va_get (D := G.1) (ci := 12) (v := .int 1) (C := RX12) (T := TX12) (N := 52) hx hb hts inG_X12 hown hK hP 4 rfl rfl 14 (by decide) (hts _ fl_X12_205) (fun _ h9 => h9) rfl dX12_behindSum_105 ?_
                        refine lv_if_ne (tgt := 136) hx hb dX12_behindSum_108 (by decide) (fun c_318 => ?_) (fun c_318 => ?_)
                        ·
                          refine lv_iconst (v := 3) hx hb dX12_behindSum_136 (by decide) ?_
                          exact W.iret (v := 3) hx hb hr (fun t ht hW => ⟨⟨3, [(b_o, (oc12 u_th u_sa b_rf b_ro b_im b_ke u_fd b_tp u_td u_fr u_to u_so u_wo u_fr 1 u_nc b_nl u_co b_op b_ar u_le b_pi b_pa u_pd u_od b_ws b_hw u_la b_se b_re u_bk u_va u_su u_ce u_ho u_wy u_bt u_ps b_pt u_tg u_sn b_ip u_ic b_ah b_be b_me u_wd b_tr b_ld u_st b_wn u_id)), (b_tp, (arI G 400 v_tp)), (b_op, (arI G 400 v_op)), (b_ar, (arI G 400 v_ar)), (b_pi, (arI G 400 v_pi)), (b_pa, (arI G 400 v_pa))], rfl, Or.inl (⟨3, ⟨by have zc_o_r : (3 : Int32).toInt = 3 := (by decide); omega, by have zc_o_r : (3 : Int32).toInt = 3 := (by decide); omega⟩, rfl, rfl⟩), by rw [ht]; exact hP.sub [4, 5, 0, 1, 3, 2] rfl, hD.sub [4, 5, 0, 1, 3, 2] (by decide) rfl⟩, hS.F ht⟩) hS.2.2 dX12_behindSum_137
                        ·
                          exact absurd c_318 (by decide)
                  ·
                    exact absurd c_109 (by decide)
                ·
                  exact absurd c_108 (by decide)
            ·
              exact absurd c_81 (by decide)
        ·
          exact absurd c_54 (by decide)
    ·
      exact absurd c_27 (by decide)
