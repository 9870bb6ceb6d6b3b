set_option maxHeartbeats 4000000 in
set_option maxRecDepth 100000 in
theorem n_behindSumX (l : Launch) (G : g5_G) (b_o b_tp b_op b_ar b_pi b_pa b_ws b_hw b_rf b_ro b_im b_ke b_nl b_se b_re b_pt b_ip b_ah b_be b_me b_tr b_ld b_wn : Nat) (sz : Nat) (u_th : Int32) (u_sa : Int32) (u_fd : Int32) (u_td : Int32) (u_fr : Int32) (u_to : Int32) (u_so : Int32) (u_fa : Int32) (u_bd : Int32) (u_nc : Int32) (u_co : Int32) (u_le : Int32) (u_pd : Int32) (u_od : Int32) (u_la : Int32) (u_bk : Int32) (u_ce : Int32) (u_ho : Int32) (u_wy : Int32) (u_bt : Int32) (u_ps : Int32) (u_tg : Int32) (u_sn : Int32) (u_ic : Int32) (u_wd : Int32) (u_id : Int32) (p_1 : Int32) (g_a : Int32) (g_t : Int32) (g_le : Int32) (u_wo : Int64) (u_va : Int64) (u_su : Int64) (u_st : Int64) (v_tp : Nat → Int32) (v_op : Nat → Int32) (v_ar : Nat → Int32) (v_pi : Nat → Int32) (v_pa : Nat → Int32) (v_ws : Nat → Int64) (v_hw : Nat → Int64) (g_op : Nat → Int32) (g_ar : Nat → Int32) (g_k : Nat) (h_u_td : 0 ≤ u_td.toInt ∧ u_td.toInt ≤ 400) (h_u_fr : 0 ≤ u_fr.toInt ∧ u_fr.toInt ≤ 400) (h_u_to : 0 ≤ u_to.toInt ∧ u_to.toInt ≤ 400) (h_u_bd : 0 ≤ u_bd.toInt ∧ u_bd.toInt ≤ 0) (h_u_nc : 0 ≤ u_nc.toInt ∧ u_nc.toInt ≤ 12) (h_u_co : 0 ≤ u_co.toInt ∧ u_co.toInt ≤ 400) (h_u_pd : 0 ≤ u_pd.toInt ∧ u_pd.toInt ≤ 400) (h_u_la : 0 ≤ u_la.toInt ∧ u_la.toInt ≤ 4840) (h_u_bk : 0 ≤ u_bk.toInt ∧ u_bk.toInt ≤ 1) (h_u_ce : 0 ≤ u_ce.toInt ∧ u_ce.toInt ≤ 63) (h_u_ho : 0 ≤ u_ho.toInt ∧ u_ho.toInt ≤ 23) (h_u_wy : 0 ≤ u_wy.toInt ∧ u_wy.toInt ≤ 3) (h_u_bt : 0 ≤ u_bt.toInt ∧ u_bt.toInt ≤ 1000000) (h_u_ps : 0 ≤ u_ps.toInt ∧ u_ps.toInt ≤ 200) (h_u_ic : 0 ≤ u_ic.toInt ∧ u_ic.toInt ≤ 1) (h_u_id : 0 ≤ u_id.toInt ∧ u_id.toInt ≤ 1) (h_p_1 : 0 ≤ p_1.toInt ∧ p_1.toInt ≤ 1) (e_t : u_fr.toInt ≤ u_to.toInt ∧ u_to.toInt ≤ u_td.toInt) (e_s : TKs u_so.toInt u_fr.toInt u_to.toInt) (e_x : XJ g_op g_ar v_op v_ar v_pi v_pa g_a.toInt u_co.toInt u_pd.toInt u_fr.toInt) (e_j : TJ v_op v_ar v_pi v_pa g_a.toInt u_co.toInt u_pd.toInt 3) (e_tp : TPI v_tp) (e_ws : WSI v_ws v_hw) (e_q : RQ v_tp u_td g_t (S0X g_t g_k g_op g_ar g_a g_le) 3 false u_fr u_to u_so u_wo v_op v_ar v_pi v_pa u_co u_pd u_od u_le) (e_gt : p_1.toInt = g_t.toInt) : Met l yX12_behindSum (wsG yX12_behindSum cX12_behindSum 4 (some .int)) ({ frames := 3, cells := 0, slots := 0, locals := 61 }) (va_Pc [.ref b_o, .int p_1] (g5_P G [(b_o, (oc12 u_th u_sa b_rf b_ro b_im b_ke u_fd b_tp u_td u_fr u_to u_so u_wo u_fa u_bd u_nc b_nl u_co b_op b_ar u_le b_pi b_pa u_pd u_od b_ws b_hw u_la b_se b_re u_bk u_va u_su u_ce u_ho u_wy u_bt u_ps b_pt u_tg u_sn b_ip u_ic b_ah b_be b_me u_wd b_tr b_ld u_st b_wn u_id)), (b_tp, (arI G 400 v_tp)), (b_op, (arI G 400 v_op)), (b_ar, (arI G 400 v_ar)), (b_pi, (arI G 400 v_pi)), (b_pa, (arI G 400 v_pa)), (b_ws, (arJ G 8 v_ws)), (b_hw, (arJ G 4 v_hw))] sz)) (va_Qi (fun (r : Int32) (u : va_W) => (∃ (o_r : Int32), (0 ≤ o_r.toInt ∧ o_r.toInt ≤ 4) ∧ (RQ v_tp u_td g_t (S0X g_t g_k g_op g_ar g_a g_le) o_r.toInt true u_fr u_to u_so u_wo v_op v_ar v_pi v_pa u_co u_pd u_od u_le) ∧ (r = o_r) ∧ (u = [(b_o, (oc12 u_th u_sa b_rf b_ro b_im b_ke u_fd b_tp u_td u_fr u_to u_so u_wo u_fr 1 u_nc b_nl u_co b_op b_ar u_le b_pi b_pa u_pd u_od b_ws b_hw u_la b_se b_re u_bk u_va u_su u_ce u_ho u_wy u_bt u_ps b_pt u_tg u_sn b_ip u_ic b_ah b_be b_me u_wd b_tr b_ld u_st b_wn u_id)), (b_tp, (arI G 400 v_tp)), (b_op, (arI G 400 v_op)), (b_ar, (arI G 400 v_ar)), (b_pi, (arI G 400 v_pi)), (b_pa, (arI G 400 v_pa)), (b_ws, (arJ G 8 v_ws)), (b_hw, (arJ G 4 v_hw))])) ∨ (∃ (o_r : Int32) (o_fr : Int32) (o_to : Int32) (o_so : Int32) (o_wo : Int64) (o_co : Int32) (o_pd : Int32) (o_od : Int32) (o_op : Nat → Int32) (o_ar : Nat → Int32) (o_pi : Nat → Int32) (o_pa : Nat → Int32), (0 ≤ o_fr.toInt ∧ o_fr.toInt ≤ 400) ∧ (0 ≤ o_to.toInt ∧ o_to.toInt ≤ 400) ∧ (0 ≤ o_co.toInt ∧ o_co.toInt ≤ 400) ∧ (0 ≤ o_pd.toInt ∧ o_pd.toInt ≤ 400) ∧ (0 ≤ o_r.toInt ∧ o_r.toInt ≤ 4) ∧ (u_fr.toInt ≤ o_fr.toInt ∧ o_fr.toInt ≤ o_to.toInt ∧ o_to.toInt ≤ u_td.toInt) ∧ (TKs o_so.toInt o_fr.toInt o_to.toInt) ∧ (XJ g_op g_ar o_op o_ar o_pi o_pa g_a.toInt o_co.toInt o_pd.toInt o_fr.toInt) ∧ (TJ o_op o_ar o_pi o_pa g_a.toInt o_co.toInt o_pd.toInt o_r.toInt) ∧ (twt o_r.toInt + 1 ≤ 2 + 3 * (o_fr.toInt - u_fr.toInt)) ∧ (RQ v_tp u_td g_t (S0X g_t g_k g_op g_ar g_a g_le) o_r.toInt false o_fr o_to o_so o_wo o_op o_ar o_pi o_pa o_co o_pd o_od u_le) ∧ (r = o_r) ∧ (u = [(b_o, (oc12 u_th u_sa b_rf b_ro b_im b_ke u_fd b_tp u_td o_fr o_to o_so o_wo u_fa u_bd u_nc b_nl o_co b_op b_ar u_le b_pi b_pa o_pd o_od b_ws b_hw u_la b_se b_re u_bk u_va u_su u_ce u_ho u_wy u_bt u_ps b_pt u_tg u_sn b_ip u_ic b_ah b_be b_me u_wd b_tr b_ld u_st b_wn u_id)), (b_tp, (arI G 400 v_tp)), (b_op, (arI G 400 o_op)), (b_ar, (arI G 400 o_ar)), (b_pi, (arI G 400 o_pi)), (b_pa, (arI G 400 o_pa)), (b_ws, (arJ G 8 v_ws)), (b_hw, (arJ G 4 v_hw))]))) (g5_B G (va_A [(b_o, (oc12 u_th u_sa b_rf b_ro b_im b_ke u_fd b_tp u_td u_fr u_to u_so u_wo u_fa u_bd u_nc b_nl u_co b_op b_ar u_le b_pi b_pa u_pd u_od b_ws b_hw u_la b_se b_re u_bk u_va u_su u_ce u_ho u_wy u_bt u_ps b_pt u_tg u_sn b_ip u_ic b_ah b_be b_me u_wd b_tr b_ld u_st b_wn u_id)), (b_tp, (arI G 400 v_tp)), (b_op, (arI G 400 v_op)), (b_ar, (arI G 400 v_ar)), (b_pi, (arI G 400 v_pi)), (b_pa, (arI G 400 v_pa)), (b_ws, (arJ G 8 v_ws)), (b_hw, (arJ G 4 v_hw))] sz)) (va_A [(b_o, (oc12 u_th u_sa b_rf b_ro b_im b_ke u_fd b_tp u_td u_fr u_to u_so u_wo u_fa u_bd u_nc b_nl u_co b_op b_ar u_le b_pi b_pa u_pd u_od b_ws b_hw u_la b_se b_re u_bk u_va u_su u_ce u_ho u_wy u_bt u_ps b_pt u_tg u_sn b_ip u_ic b_ah b_be b_me u_wd b_tr b_ld u_st b_wn u_id)), (b_tp, (arI G 400 v_tp)), (b_op, (arI G 400 v_op)), (b_ar, (arI G 400 v_ar)), (b_pi, (arI G 400 v_pi)), (b_pa, (arI G 400 v_pa)), (b_ws, (arJ G 8 v_ws)), (b_hw, (arJ G 4 v_hw))] sz)) 0 0 (va_A [(b_o, (oc12 u_th u_sa b_rf b_ro b_im b_ke u_fd b_tp u_td u_fr u_to u_so u_wo u_fa u_bd u_nc b_nl u_co b_op b_ar u_le b_pi b_pa u_pd u_od b_ws b_hw u_la b_se b_re u_bk u_va u_su u_ce u_ho u_wy u_bt u_ps b_pt u_tg u_sn b_ip u_ic b_ah b_be b_me u_wd b_tr b_ld u_st b_wn u_id)), (b_tp, (arI G 400 v_tp)), (b_op, (arI G 400 v_op)), (b_ar, (arI G 400 v_ar)), (b_pi, (arI G 400 v_pi)), (b_pa, (arI G 400 v_pa)), (b_ws, (arJ G 8 v_ws)), (b_hw, (arJ G 4 v_hw))] sz) := by
  refine Met.ofW (cc := cX12_behindSum) (maxL := 4) (ret := (some .int)) (by decide +kernel) rfl ?_
  intro p e s m args below meth c s₁ B hml hv
  obtain ⟨rfl, hsz, hP, hK, hD0, hN, hT⟩ := hv
  have hx := B.exec
  have hb := B.bytes
  have hr := B.returns
  have hts : ∀ w ∈ tblG, w.before _ s = true := fun w h => atoms_spec (ws := (wsG yX12_behindSum cX12_behindSum 4 (some .int))) B.pre w (List.mem_cons_of_mem _ h)
  have hown : s.vm.findClass RX12 = some m.cls := findClass_of_methodNamed B.named
  have hlocks := B.notSynchronized
  subst hsz
  have hD := hD0.self (sz := s.heap.size)
  generalize hAe : va_A [(b_o, (oc12 u_th u_sa b_rf b_ro b_im b_ke u_fd b_tp u_td u_fr u_to u_so u_wo u_fa u_bd u_nc b_nl u_co b_op b_ar u_le b_pi b_pa u_pd u_od b_ws b_hw u_la b_se b_re u_bk u_va u_su u_ce u_ho u_wy u_bt u_ps b_pt u_tg u_sn b_ip u_ic b_ah b_be b_me u_wd b_tr b_ld u_st b_wn u_id)), (b_tp, (arI G 400 v_tp)), (b_op, (arI G 400 v_op)), (b_ar, (arI G 400 v_ar)), (b_pi, (arI G 400 v_pi)), (b_pa, (arI G 400 v_pa)), (b_ws, (arJ G 8 v_ws)), (b_hw, (arJ G 4 v_hw))] s.heap.size = A at hD hT ⊢
  have hA : ∀ q : Nat, s.heap.size ≤ q → A q := fun q h => by rw [← hAe]; exact Or.inr h
  have hS : va_S A s.heap s.heap [] := va_S.rf
  replace hP : va_P G.1 vwCl [(b_o, (oc12 u_th u_sa b_rf b_ro b_im b_ke u_fd b_tp u_td u_fr u_to u_so u_wo u_fa u_bd u_nc b_nl u_co b_op b_ar u_le b_pi b_pa u_pd u_od b_ws b_hw u_la b_se b_re u_bk u_va u_su u_ce u_ho u_wy u_bt u_ps b_pt u_tg u_sn b_ip u_ic b_ah b_be b_me u_wd b_tr b_ld u_st b_wn u_id)), (b_tp, (arI G 400 v_tp)), (b_op, (arI G 400 v_op)), (b_ar, (arI G 400 v_ar)), (b_pi, (arI G 400 v_pi)), (b_pa, (arI G 400 v_pa)), (b_ws, (arJ G 8 v_ws)), (b_hw, (arJ G 4 v_hw))] s.heap := hP
  have hl := lv_entry ([.ref b_o, .int p_1]) (n := 4) (Nat.le_of_ble_eq_true rfl)
  rw [lg_entry_eq]
  generalize (lg_sl ([.ref b_o, .int p_1]) ++ List.replicate (4 - (lg_sl ([.ref b_o, .int p_1])).length) Slot.unset).toArray = ls at hl ⊢
  replace hl : lv_has ls 4 [(0, .ref b_o), (1, .int p_1)] := hl
  have hmf9 := xj_mf e_x
  obtain ⟨kk, hRC, hFD⟩ := e_q
  have hTK := hFD.1
  have hr1 := hFD.2.1
  have hr2 := hFD.2.2.1
  refine lv_aload_n hx hb dX12_behindSum_0 rfl (lv_at hl 0 rfl) ?_
  refine lv_bipush (v := 43) hx hb dX12_behindSum_1 (by decide +kernel) ?_
  obtain ⟨hPc, hDc, hFc⟩ := g5_sub3 (wc := [(b_o, (oc12 u_th u_sa b_rf b_ro b_im b_ke u_fd b_tp u_td u_fr u_to u_so u_wo u_fa u_bd u_nc b_nl u_co b_op b_ar u_le b_pi b_pa u_pd u_od b_ws b_hw u_la b_se b_re u_bk u_va u_su u_ce u_ho u_wy u_bt u_ps b_pt u_tg u_sn b_ip u_ic b_ah b_be b_me u_wd b_tr b_ld u_st b_wn u_id))]) hP hD hS hA [0] (by decide +kernel) rfl
  refine va_calli (va_runV (As := [.int 43]) (rest := []) ⟨hx, hb, hml, hown, hts⟩ (n_isSignX43 l G b_o b_rf b_ro b_im b_ke b_tp b_nl b_op b_ar b_pi b_pa b_ws b_hw b_se b_re b_pt b_ip b_ah b_be b_me b_tr b_ld b_wn s.heap.size u_th u_sa u_fd u_td u_fr u_to u_so u_fa u_bd u_nc u_co u_le u_pd u_od u_la u_bk u_ce u_ho u_wy u_bt u_ps u_tg u_sn u_ic u_wd u_id u_wo u_va u_su u_st h_u_td h_u_fr h_u_to ⟨by omega, by omega⟩ h_u_nc h_u_co h_u_pd h_u_la h_u_bk h_u_ce h_u_ho h_u_wy h_u_bt h_u_ps h_u_ic h_u_id) (cwV 1 hts gV_X12_267 rfl rfl rfl hv_X12_isSign ⟨Nat.le_of_ble_eq_true rfl, Nat.le_of_ble_eq_true rfl⟩) (g5_preV hPc hK hDc hN hT hS hFc (ci := 12) (q0 := 0) rfl rfl) rfl rfl hl.1 rfl (lv_room (Nat.le_of_ble_eq_true rfl)) dX12_behindSum_3 ⟨Nat.le_of_ble_eq_true rfl, Nat.le_of_ble_eq_true rfl⟩) hS (fun q _ h => hFc q h) hFc (fun r u t H locs ht hvm hw hB hz1 hk1 hS => ?_)
  obtain ⟨hP1, hD1⟩ := hB
  have hP1 := g5_ht ht hP1
  rcases hw with ⟨(i_1 : u_so.toInt = 3 ∧ u_wo.toInt = 43), rfl, rfl⟩ | ⟨(i_2 : ¬ (u_so.toInt = 3 ∧ u_wo.toInt = 43)), rfl, rfl⟩
  ·
    have hJ9 := va_join (wr := [(b_tp, (arI G 400 v_tp)), (b_op, (arI G 400 v_op)), (b_ar, (arI G 400 v_ar)), (b_pi, (arI G 400 v_pi)), (b_pa, (arI G 400 v_pa)), (b_ws, (arJ G 8 v_ws)), (b_hw, (arJ G 4 v_hw))]) hP hD [0] [1, 2, 3, 4, 5, 6, 7] rfl rfl (by decide +kernel) (by decide +kernel) hk1 hFc hP1 hD1
    clear hP hD hPc hDc hFc ht hvm hz1 hk1 hP1 hD1
    obtain ⟨hP, hD⟩ := hJ9
    refine g5_rs [(b_tp, (arI G 400 v_tp)), (b_op, (arI G 400 v_op)), (b_ar, (arI G 400 v_ar)), (b_pi, (arI G 400 v_pi)), (b_pa, (arI G 400 v_pa)), (b_ws, (arJ G 8 v_ws)), (b_hw, (arJ G 4 v_hw)), (b_o, (oc12 u_th u_sa b_rf b_ro b_im b_ke u_fd b_tp u_td u_fr u_to u_so u_wo u_fa u_bd u_nc b_nl u_co b_op b_ar u_le b_pi b_pa u_pd u_od b_ws b_hw u_la b_se b_re u_bk u_va u_su u_ce u_ho u_wy u_bt u_ps b_pt u_tg u_sn b_ip u_ic b_ah b_be b_me u_wd b_tr b_ld u_st b_wn u_id))] hP hD ?_
    clear hP hD
    intro hP hD
    refine lv_if_eq (tgt := 14) hx hb dX12_behindSum_6 (by decide +kernel) (fun c_3 => ?_) (fun c_3 => ?_)
    ·
      exact absurd c_3 (by decide +kernel)
    ·
      refine lv_bipush (v := 20) hx hb dX12_behindSum_9 (by decide +kernel) ?_
      refine lv_goto (tgt := 57) hx hb dX12_behindSum_11 (by decide +kernel) ?_
      refine lv_istore_n (lv' := [(2, .int 20), (0, .ref b_o), (1, .int p_1)]) hx hb dX12_behindSum_57 rfl hl (by decide +kernel) rfl ?_
      clear hl
      intro ls hl
      refine lv_iload_n hx hb dX12_behindSum_58 rfl (lv_at hl 0 rfl) ?_
      refine W.eq (g2 := F0 m 59 ls [.int 20]) rfl ?_
      refine lv_iconst (v := (-1)) hx hb dX12_behindSum_59 (by decide +kernel) ?_
      refine lv_icmp_eq (tgt := 83) hx hb dX12_behindSum_60 (by decide +kernel) (fun c_4 => ?_) (fun c_4 => ?_)
      ·
        exact absurd c_4 (by decide +kernel)
      ·
        have hlt9 : u_fr.toInt < u_to.toInt := tks_lt e_s (by omega)
        have hE_5 : HJ v_op v_ar v_pi v_pa g_a.toInt u_co.toInt u_pd.toInt 1 := tj_d1 e_j (by decide +kernel)
        refine lv_aload_n hx hb dX12_behindSum_63 rfl (lv_at hl 1 rfl) ?_
        refine lv_iload_n hx hb dX12_behindSum_64 rfl (lv_at hl 0 rfl) ?_
        obtain ⟨hPc, hDc, hFc⟩ := g5_sub3 (wc := []) hP hD hS hA [] (by decide +kernel) rfl
        refine va_calli (va_runS (As := [.int 20]) (rest := [.ref b_o]) ⟨hx, hb, hml, hown, hts⟩ (n_binds20 l G H.size) (va_cwS 1 hts gS_X12_243 rfl rfl rfl hs_X12_binds ⟨Nat.le_of_ble_eq_true rfl, Nat.le_of_ble_eq_true rfl⟩) (g5_preS hPc hK hDc hN hT hS hFc) rfl rfl hl.1 rfl (lv_room (Nat.le_of_ble_eq_true rfl)) dX12_behindSum_65 ⟨Nat.le_of_ble_eq_true rfl, Nat.le_of_ble_eq_true rfl⟩) hS (fun q _ h => hFc q h) hFc (fun r u t H locs ht hvm hw hB hz1 hk1 hS => ?_)
        obtain ⟨hP1, hD1⟩ := hB
        have hP1 := g5_ht ht hP1
        obtain ⟨rfl, rfl⟩ := hw
        have hJ9 := g5_same hP hk1
        clear hP hPc hDc hFc ht hvm hz1 hk1 hP1 hD1
        have hP := hJ9
        clear hJ9
        obtain ⟨hPc, hDc, hFc⟩ := g5_sub3 (wc := [(b_o, (oc12 u_th u_sa b_rf b_ro b_im b_ke u_fd b_tp u_td u_fr u_to u_so u_wo u_fa u_bd u_nc b_nl u_co b_op b_ar u_le b_pi b_pa u_pd u_od b_ws b_hw u_la b_se b_re u_bk u_va u_su u_ce u_ho u_wy u_bt u_ps b_pt u_tg u_sn b_ip u_ic b_ah b_be b_me u_wd b_tr b_ld u_st b_wn u_id)), (b_op, (arI G 400 v_op)), (b_ar, (arI G 400 v_ar)), (b_pi, (arI G 400 v_pi)), (b_pa, (arI G 400 v_pa))]) hP hD hS hA [7, 1, 2, 3, 4] (by decide +kernel) rfl
        refine va_callv (va_runV (As := [.int 5]) (rest := []) ⟨hx, hb, hml, hown, hts⟩ (n_settleX l G b_o b_op b_ar b_pi b_pa b_rf b_ro b_im b_ke b_tp b_nl b_ws b_hw b_se b_re b_pt b_ip b_ah b_be b_me b_tr b_ld b_wn H.size u_th u_sa u_fd u_td u_fr u_to u_so u_fa u_bd u_nc u_co u_le u_pd u_od u_la u_bk u_ce u_ho u_wy u_bt u_ps u_tg u_sn u_ic u_wd u_id 5 g_a u_fr u_wo u_va u_su u_st v_op v_ar v_pi v_pa g_op g_ar h_u_td h_u_fr h_u_to ⟨by omega, by omega⟩ h_u_nc h_u_co h_u_pd h_u_la h_u_bk h_u_ce h_u_ho h_u_wy h_u_bt h_u_ps h_u_ic h_u_id ⟨by decide, by decide⟩ (by omega) (e_x) (hE_5)) (cwV 1 hts gV_X12_288 rfl rfl rfl hv_X12_settle ⟨Nat.le_of_ble_eq_true rfl, Nat.le_of_ble_eq_true rfl⟩) (g5_preV hPc hK hDc hN hT hS hFc (ci := 12) (q0 := 0) rfl rfl) rfl rfl hl.1 rfl (lv_room (Nat.le_of_ble_eq_true rfl)) dX12_behindSum_68 ⟨Nat.le_of_ble_eq_true rfl, Nat.le_of_ble_eq_true rfl⟩) hS (fun q _ h => hFc q h) hFc (fun u t H locs ht hvm hw hB hz1 hk1 hS => ?_)
        obtain ⟨hP1, hD1⟩ := hB
        have hP1 := g5_ht ht hP1
        obtain ⟨z14, z15, z16, z17, (i_6 : 0 ≤ z14.toInt ∧ z14.toInt ≤ 400), (i_7 : 0 ≤ z15.toInt ∧ z15.toInt ≤ 400), (i_8 : XJ g_op g_ar z16 z17 v_pi v_pa g_a.toInt z14.toInt z15.toInt u_fr.toInt), (i_9 : HJ z16 z17 v_pi v_pa g_a.toInt z14.toInt z15.toInt 1), (i_10 : stl (5 : Int32).toInt (plL v_pi v_pa u_pd.toInt.toNat) (v_op, v_ar, u_co.toInt.toNat) = (plL v_pi v_pa z15.toInt.toNat, (z16, z17, z14.toInt.toNat))), (i_11 : S1 v_pi u_pd.toInt z15.toInt), (i_12 : S2 v_pi z15.toInt (5 : Int32).toInt), (i_13 : z15.toInt ≤ u_pd.toInt), rfl⟩ := hw
        have hJ9 := va_join (wr := [(b_tp, (arI G 400 v_tp)), (b_ws, (arJ G 8 v_ws)), (b_hw, (arJ G 4 v_hw))]) hP hD [7, 1, 2, 3, 4] [0, 5, 6] rfl rfl (by decide +kernel) (by decide +kernel) hk1 hFc hP1 hD1
        clear hP hD hPc hDc hFc ht hvm hz1 hk1 hP1 hD1
        obtain ⟨hP, hD⟩ := hJ9
        refine g5_rs [(b_tp, (arI G 400 v_tp)), (b_ws, (arJ G 8 v_ws)), (b_hw, (arJ G 4 v_hw)), (b_o, (oc12 u_th u_sa b_rf b_ro b_im b_ke u_fd b_tp u_td u_fr u_to u_so u_wo u_fa u_bd u_nc b_nl z14 b_op b_ar u_le b_pi b_pa z15 u_od b_ws b_hw u_la b_se b_re u_bk u_va u_su u_ce u_ho u_wy u_bt u_ps b_pt u_tg u_sn b_ip u_ic b_ah b_be b_me u_wd b_tr b_ld u_st b_wn u_id)), (b_op, (arI G 400 z16)), (b_ar, (arI G 400 z17)), (b_pi, (arI G 400 v_pi)), (b_pa, (arI G 400 v_pa))] hP hD ?_
        clear hP hD
        intro hP hD
        have hmf8 := xj_mf i_8
        refine W.eq (g2 := F0 m 71 ls []) rfl ?_
        refine lv_aload_n hx hb dX12_behindSum_71 rfl (lv_at hl 1 rfl) ?_
        refine lv_iload_n hx hb dX12_behindSum_72 rfl (lv_at hl 0 rfl) ?_
        refine lv_iconst (v := 0) hx hb dX12_behindSum_73 (by decide +kernel) ?_
        obtain ⟨hPc, hDc, hFc⟩ := g5_sub3 (wc := [(b_o, (oc12 u_th u_sa b_rf b_ro b_im b_ke u_fd b_tp u_td u_fr u_to u_so u_wo u_fa u_bd u_nc b_nl z14 b_op b_ar u_le b_pi b_pa z15 u_od b_ws b_hw u_la b_se b_re u_bk u_va u_su u_ce u_ho u_wy u_bt u_ps b_pt u_tg u_sn b_ip u_ic b_ah b_be b_me u_wd b_tr b_ld u_st b_wn u_id)), (b_pi, (arI G 400 v_pi)), (b_pa, (arI G 400 v_pa))]) hP hD hS hA [3, 6, 7] (by decide +kernel) rfl
        refine va_callv (va_runV (As := [.int 20, .int 0]) (rest := []) ⟨hx, hb, hml, hown, hts⟩ (n_push l G b_o b_pi b_pa b_rf b_ro b_im b_ke b_tp b_nl b_op b_ar b_ws b_hw b_se b_re b_pt b_ip b_ah b_be b_me b_tr b_ld b_wn H.size u_th u_sa u_fd u_td u_fr u_to u_so u_fa u_bd u_nc z14 u_le z15 u_od u_la u_bk u_ce u_ho u_wy u_bt u_ps u_tg u_sn u_ic u_wd u_id 20 0 u_wo u_va u_su u_st v_pi v_pa h_u_td h_u_fr h_u_to ⟨by omega, by omega⟩ h_u_nc i_6 i_7 h_u_la h_u_bk h_u_ce h_u_ho h_u_wy h_u_bt h_u_ps h_u_ic h_u_id (by omega)) (cwV 2 hts gV_X12_261 rfl rfl rfl hv_X12_push ⟨Nat.le_of_ble_eq_true rfl, Nat.le_of_ble_eq_true rfl⟩) (g5_preV hPc hK hDc hN hT hS hFc (ci := 12) (q0 := 0) rfl rfl) rfl rfl hl.1 rfl (lv_room (Nat.le_of_ble_eq_true rfl)) dX12_behindSum_74 ⟨Nat.le_of_ble_eq_true rfl, Nat.le_of_ble_eq_true rfl⟩) hS (fun q _ h => hFc q h) hFc (fun u t H locs ht hvm hw hB hz1 hk1 hS => ?_)
        obtain ⟨hP1, hD1⟩ := hB
        have hP1 := g5_ht ht hP1
        obtain ⟨z20, (i_18 : 0 ≤ z20.toInt ∧ z20.toInt ≤ 400), (i_19 : z20.toInt = z15.toInt + 1), rfl⟩ := hw
        have hJ9 := va_join (wr := [(b_tp, (arI G 400 v_tp)), (b_ws, (arJ G 8 v_ws)), (b_hw, (arJ G 4 v_hw)), (b_op, (arI G 400 z16)), (b_ar, (arI G 400 z17))]) hP hD [3, 6, 7] [0, 1, 2, 4, 5] rfl rfl (by decide +kernel) (by decide +kernel) hk1 hFc hP1 hD1
        clear hP hD hPc hDc hFc ht hvm hz1 hk1 hP1 hD1
        obtain ⟨hP, hD⟩ := hJ9
        refine g5_rs [(b_tp, (arI G 400 v_tp)), (b_ws, (arJ G 8 v_ws)), (b_hw, (arJ G 4 v_hw)), (b_op, (arI G 400 z16)), (b_ar, (arI G 400 z17)), (b_o, (oc12 u_th u_sa b_rf b_ro b_im b_ke u_fd b_tp u_td u_fr u_to u_so u_wo u_fa u_bd u_nc b_nl z14 b_op b_ar u_le b_pi b_pa z20 u_od b_ws b_hw u_la b_se b_re u_bk u_va u_su u_ce u_ho u_wy u_bt u_ps b_pt u_tg u_sn b_ip u_ic b_ah b_be b_me u_wd b_tr b_ld u_st b_wn u_id)), (b_pi, (arI G 400 (upd v_pi z15.toNatClampNeg 20))), (b_pa, (arI G 400 (upd v_pa z15.toNatClampNeg 0)))] hP hD ?_
        clear hP hD
        intro hP hD
        refine lv_aload_n hx hb dX12_behindSum_77 rfl (lv_at hl 1 rfl) ?_
        refine W.eq (g2 := F0 m 78 ls [.ref b_o]) rfl ?_
        obtain ⟨hPc, hDc, hFc⟩ := g5_sub3 (wc := [(b_o, (oc12 u_th u_sa b_rf b_ro b_im b_ke u_fd b_tp u_td u_fr u_to u_so u_wo u_fa u_bd u_nc b_nl z14 b_op b_ar u_le b_pi b_pa z20 u_od b_ws b_hw u_la b_se b_re u_bk u_va u_su u_ce u_ho u_wy u_bt u_ps b_pt u_tg u_sn b_ip u_ic b_ah b_be b_me u_wd b_tr b_ld u_st b_wn u_id)), (b_tp, (arI G 400 v_tp))]) hP hD hS hA [5, 0] (by decide +kernel) rfl
        refine va_callv (va_runV (As := []) (rest := []) ⟨hx, hb, hml, hown, hts⟩ (n_nextX l G b_o b_tp b_rf b_ro b_im b_ke b_nl b_op b_ar b_pi b_pa b_ws b_hw b_se b_re b_pt b_ip b_ah b_be b_me b_tr b_ld b_wn H.size u_th u_sa u_fd u_td u_fr u_to u_so u_fa u_bd u_nc z14 u_le z20 u_od u_la u_bk u_ce u_ho u_wy u_bt u_ps u_tg u_sn u_ic u_wd u_id u_wo u_va u_su u_st v_tp h_u_td h_u_fr h_u_to ⟨by omega, by omega⟩ h_u_nc i_6 i_18 h_u_la h_u_bk h_u_ce h_u_ho h_u_wy h_u_bt h_u_ps h_u_ic h_u_id (by omega)) (cwV 0 hts gV_X12_208 rfl rfl rfl hv_X12_next ⟨Nat.le_of_ble_eq_true rfl, Nat.le_of_ble_eq_true rfl⟩) (g5_preV hPc hK hDc hN hT hS hFc (ci := 12) (q0 := 0) rfl rfl) rfl rfl hl.1 rfl (lv_room (Nat.le_of_ble_eq_true rfl)) dX12_behindSum_78 ⟨Nat.le_of_ble_eq_true rfl, Nat.le_of_ble_eq_true rfl⟩) hS (fun q _ h => hFc q h) hFc (fun u t H locs ht hvm hw hB hz1 hk1 hS => ?_)
        obtain ⟨hP1, hD1⟩ := hB
        have hP1 := g5_ht ht hP1
        obtain ⟨z26, z27, z28, z29, (i_21 : 0 ≤ z26.toInt ∧ z26.toInt ≤ 400), (i_22 : 0 ≤ z27.toInt ∧ z27.toInt ≤ 400), (i_23 : u_to.toInt ≤ z26.toInt ∧ z26.toInt ≤ z27.toInt ∧ z27.toInt ≤ u_td.toInt), (i_24 : TKs z28.toInt z26.toInt z27.toInt), (i_25 : TOKA v_tp u_td.toInt.toNat (skT v_tp u_td.toInt.toNat u_to.toInt.toNat) z26 z27 z28 z29), rfl⟩ := hw
        have hJ9 := va_join (wr := [(b_ws, (arJ G 8 v_ws)), (b_hw, (arJ G 4 v_hw)), (b_op, (arI G 400 z16)), (b_ar, (arI G 400 z17)), (b_pi, (arI G 400 (upd v_pi z15.toNatClampNeg 20))), (b_pa, (arI G 400 (upd v_pa z15.toNatClampNeg 0)))]) hP hD [5, 0] [1, 2, 3, 4, 6, 7] rfl rfl (by decide +kernel) (by decide +kernel) hk1 hFc hP1 hD1
        clear hP hD hPc hDc hFc ht hvm hz1 hk1 hP1 hD1
        obtain ⟨hP, hD⟩ := hJ9
        refine g5_rs [(b_ws, (arJ G 8 v_ws)), (b_hw, (arJ G 4 v_hw)), (b_op, (arI G 400 z16)), (b_ar, (arI G 400 z17)), (b_pi, (arI G 400 (upd v_pi z15.toNatClampNeg 20))), (b_pa, (arI G 400 (upd v_pa z15.toNatClampNeg 0))), (b_o, (oc12 u_th u_sa b_rf b_ro b_im b_ke u_fd b_tp u_td z26 z27 z28 z29 u_fa u_bd u_nc b_nl z14 b_op b_ar u_le b_pi b_pa z20 u_od b_ws b_hw u_la b_se b_re u_bk u_va u_su u_ce u_ho u_wy u_bt u_ps b_pt u_tg u_sn b_ip u_ic b_ah b_be b_me u_wd b_tr b_ld u_st b_wn u_id)), (b_tp, (arI G 400 v_tp))] hP hD ?_
        clear hP hD
        intro hP hD
        refine lv_iconst (v := 1) hx hb dX12_behindSum_81 (by decide +kernel) ?_
        exact W.iret (v := 1) hx hb hr (fun t ht hW => ⟨⟨1, [(b_o, (oc12 u_th u_sa b_rf b_ro b_im b_ke u_fd b_tp u_td z26 z27 z28 z29 u_fa u_bd u_nc b_nl z14 b_op b_ar u_le b_pi b_pa z20 u_od b_ws b_hw u_la b_se b_re u_bk u_va u_su u_ce u_ho u_wy u_bt u_ps b_pt u_tg u_sn b_ip u_ic b_ah b_be b_me u_wd b_tr b_ld u_st b_wn u_id)), (b_tp, (arI G 400 v_tp)), (b_op, (arI G 400 z16)), (b_ar, (arI G 400 z17)), (b_pi, (arI G 400 (upd v_pi z15.toNatClampNeg 20))), (b_pa, (arI G 400 (upd v_pa z15.toNatClampNeg 0))), (b_ws, (arJ G 8 v_ws)), (b_hw, (arJ G 4 v_hw))], rfl, Or.inr (⟨1, z26, z27, z28, z29, z14, z20, u_od, z16, z17, (upd v_pi z15.toNatClampNeg 20), (upd v_pa z15.toNatClampNeg 0), i_21, i_22, i_6, i_18, ⟨by have zc_o_r : (1 : Int32).toInt = 1 := (by decide +kernel); omega, by have zc_o_r : (1 : Int32).toInt = 1 := (by decide +kernel); omega⟩, by omega, i_24, xj_push i_8 (by omega) (by omega) ⟨by decide, by decide⟩ (Or.inl (by decide +kernel)), tj_1 (hj_push2 i_9 (by omega) (by omega) ⟨by decide, by decide⟩ (Or.inl (by decide +kernel))) (by decide +kernel), by have w9 := (twt_0 (by decide +kernel) : twt (1 : Int32).toInt = 0); omega, rq_t (rq_op (o := 20) hRC hFD (by rw [((tk_sign e_tp hTK (by decide +kernel) (by decide +kernel) (c := 43)).mpr i_1)]; decide) (by decide +kernel) (stl_c i_10 (by decide +kernel)) (toka_nx hTK i_25) (by omega) (by omega) (by omega)) (by decide +kernel), rfl, rfl⟩), by rw [ht]; exact hP.sub [6, 7, 2, 3, 4, 5, 0, 1] rfl, hD.sub [6, 7, 2, 3, 4, 5, 0, 1] (by decide +kernel) rfl⟩, hS.F ht⟩) hS.2.2 dX12_behindSum_82
  ·
    have hJ9 := va_join (wr := [(b_tp, (arI G 400 v_tp)), (b_op, (arI G 400 v_op)), (b_ar, (arI G 400 v_ar)), (b_pi, (arI G 400 v_pi)), (b_pa, (arI G 400 v_pa)), (b_ws, (arJ G 8 v_ws)), (b_hw, (arJ G 4 v_hw))]) hP hD [0] [1, 2, 3, 4, 5, 6, 7] rfl rfl (by decide +kernel) (by decide +kernel) hk1 hFc hP1 hD1
    clear hP hD hPc hDc hFc ht hvm hz1 hk1 hP1 hD1
    obtain ⟨hP, hD⟩ := hJ9
    refine g5_rs [(b_tp, (arI G 400 v_tp)), (b_op, (arI G 400 v_op)), (b_ar, (arI G 400 v_ar)), (b_pi, (arI G 400 v_pi)), (b_pa, (arI G 400 v_pa)), (b_ws, (arJ G 8 v_ws)), (b_hw, (arJ G 4 v_hw)), (b_o, (oc12 u_th u_sa b_rf b_ro b_im b_ke u_fd b_tp u_td u_fr u_to u_so u_wo u_fa u_bd u_nc b_nl u_co b_op b_ar u_le b_pi b_pa u_pd u_od b_ws b_hw u_la b_se b_re u_bk u_va u_su u_ce u_ho u_wy u_bt u_ps b_pt u_tg u_sn b_ip u_ic b_ah b_be b_me u_wd b_tr b_ld u_st b_wn u_id))] hP hD ?_
    clear hP hD
    intro hP hD
    refine lv_if_eq (tgt := 14) hx hb dX12_behindSum_6 (by decide +kernel) (fun c_30 => ?_) (fun c_30 => ?_)
    ·
      refine lv_aload_n hx hb dX12_behindSum_14 rfl (lv_at hl 0 rfl) ?_
      refine lv_bipush (v := 45) hx hb dX12_behindSum_15 (by decide +kernel) ?_
      obtain ⟨hPc, hDc, hFc⟩ := g5_sub3 (wc := [(b_o, (oc12 u_th u_sa b_rf b_ro b_im b_ke u_fd b_tp u_td u_fr u_to u_so u_wo u_fa u_bd u_nc b_nl u_co b_op b_ar u_le b_pi b_pa u_pd u_od b_ws b_hw u_la b_se b_re u_bk u_va u_su u_ce u_ho u_wy u_bt u_ps b_pt u_tg u_sn b_ip u_ic b_ah b_be b_me u_wd b_tr b_ld u_st b_wn u_id))]) hP hD hS hA [7] (by decide +kernel) rfl
      refine va_calli (va_runV (As := [.int 45]) (rest := []) ⟨hx, hb, hml, hown, hts⟩ (n_isSignX45 l G b_o b_rf b_ro b_im b_ke b_tp b_nl b_op b_ar b_pi b_pa b_ws b_hw b_se b_re b_pt b_ip b_ah b_be b_me b_tr b_ld b_wn H.size u_th u_sa u_fd u_td u_fr u_to u_so u_fa u_bd u_nc u_co u_le u_pd u_od u_la u_bk u_ce u_ho u_wy u_bt u_ps u_tg u_sn u_ic u_wd u_id u_wo u_va u_su u_st h_u_td h_u_fr h_u_to ⟨by omega, by omega⟩ h_u_nc h_u_co h_u_pd h_u_la h_u_bk h_u_ce h_u_ho h_u_wy h_u_bt h_u_ps h_u_ic h_u_id) (cwV 1 hts gV_X12_267 rfl rfl rfl hv_X12_isSign ⟨Nat.le_of_ble_eq_true rfl, Nat.le_of_ble_eq_true rfl⟩) (g5_preV hPc hK hDc hN hT hS hFc (ci := 12) (q0 := 0) rfl rfl) rfl rfl hl.1 rfl (lv_room (Nat.le_of_ble_eq_true rfl)) dX12_behindSum_17 ⟨Nat.le_of_ble_eq_true rfl, Nat.le_of_ble_eq_true rfl⟩) hS (fun q _ h => hFc q h) hFc (fun r u t H locs ht hvm hw hB hz1 hk1 hS => ?_)
      obtain ⟨hP1, hD1⟩ := hB
      have hP1 := g5_ht ht hP1
      rcases hw with ⟨(i_31 : u_so.toInt = 3 ∧ u_wo.toInt = 45), rfl, rfl⟩ | ⟨(i_32 : ¬ (u_so.toInt = 3 ∧ u_wo.toInt = 45)), rfl, rfl⟩
      ·
        have hJ9 := va_join (wr := [(b_tp, (arI G 400 v_tp)), (b_op, (arI G 400 v_op)), (b_ar, (arI G 400 v_ar)), (b_pi, (arI G 400 v_pi)), (b_pa, (arI G 400 v_pa)), (b_ws, (arJ G 8 v_ws)), (b_hw, (arJ G 4 v_hw))]) hP hD [7] [0, 1, 2, 3, 4, 5, 6] rfl rfl (by decide +kernel) (by decide +kernel) hk1 hFc hP1 hD1
        clear hP hD hPc hDc hFc ht hvm hz1 hk1 hP1 hD1
        obtain ⟨hP, hD⟩ := hJ9
        refine g5_rs [(b_tp, (arI G 400 v_tp)), (b_op, (arI G 400 v_op)), (b_ar, (arI G 400 v_ar)), (b_pi, (arI G 400 v_pi)), (b_pa, (arI G 400 v_pa)), (b_ws, (arJ G 8 v_ws)), (b_hw, (arJ G 4 v_hw)), (b_o, (oc12 u_th u_sa b_rf b_ro b_im b_ke u_fd b_tp u_td u_fr u_to u_so u_wo u_fa u_bd u_nc b_nl u_co b_op b_ar u_le b_pi b_pa u_pd u_od b_ws b_hw u_la b_se b_re u_bk u_va u_su u_ce u_ho u_wy u_bt u_ps b_pt u_tg u_sn b_ip u_ic b_ah b_be b_me u_wd b_tr b_ld u_st b_wn u_id))] hP hD ?_
        clear hP hD
        intro hP hD
        refine lv_if_eq (tgt := 28) hx hb dX12_behindSum_20 (by decide +kernel) (fun c_33 => ?_) (fun c_33 => ?_)
        ·
          exact absurd c_33 (by decide +kernel)
        ·
          refine lv_bipush (v := 21) hx hb dX12_behindSum_23 (by decide +kernel) ?_
          refine lv_goto (tgt := 57) hx hb dX12_behindSum_25 (by decide +kernel) ?_
          refine lv_istore_n (lv' := [(2, .int 21), (0, .ref b_o), (1, .int p_1)]) hx hb dX12_behindSum_57 rfl hl (by decide +kernel) rfl ?_
          clear hl
          intro ls hl
          refine lv_iload_n hx hb dX12_behindSum_58 rfl (lv_at hl 0 rfl) ?_
          refine W.eq (g2 := F0 m 59 ls [.int 21]) rfl ?_
          refine lv_iconst (v := (-1)) hx hb dX12_behindSum_59 (by decide +kernel) ?_
          refine lv_icmp_eq (tgt := 83) hx hb dX12_behindSum_60 (by decide +kernel) (fun c_34 => ?_) (fun c_34 => ?_)
          ·
            exact absurd c_34 (by decide +kernel)
          ·
            have hlt9 : u_fr.toInt < u_to.toInt := tks_lt e_s (by omega)
            have hE_35 : HJ v_op v_ar v_pi v_pa g_a.toInt u_co.toInt u_pd.toInt 1 := tj_d1 e_j (by decide +kernel)
            refine lv_aload_n hx hb dX12_behindSum_63 rfl (lv_at hl 1 rfl) ?_
            refine lv_iload_n hx hb dX12_behindSum_64 rfl (lv_at hl 0 rfl) ?_
            obtain ⟨hPc, hDc, hFc⟩ := g5_sub3 (wc := []) hP hD hS hA [] (by decide +kernel) rfl
            refine va_calli (va_runS (As := [.int 21]) (rest := [.ref b_o]) ⟨hx, hb, hml, hown, hts⟩ (n_binds21 l G H.size) (va_cwS 1 hts gS_X12_243 rfl rfl rfl hs_X12_binds ⟨Nat.le_of_ble_eq_true rfl, Nat.le_of_ble_eq_true rfl⟩) (g5_preS hPc hK hDc hN hT hS hFc) rfl rfl hl.1 rfl (lv_room (Nat.le_of_ble_eq_true rfl)) dX12_behindSum_65 ⟨Nat.le_of_ble_eq_true rfl, Nat.le_of_ble_eq_true rfl⟩) hS (fun q _ h => hFc q h) hFc (fun r u t H locs ht hvm hw hB hz1 hk1 hS => ?_)
            obtain ⟨hP1, hD1⟩ := hB
            have hP1 := g5_ht ht hP1
            obtain ⟨rfl, rfl⟩ := hw
            have hJ9 := g5_same hP hk1
            clear hP hPc hDc hFc ht hvm hz1 hk1 hP1 hD1
            have hP := hJ9
            clear hJ9
            obtain ⟨hPc, hDc, hFc⟩ := g5_sub3 (wc := [(b_o, (oc12 u_th u_sa b_rf b_ro b_im b_ke u_fd b_tp u_td u_fr u_to u_so u_wo u_fa u_bd u_nc b_nl u_co b_op b_ar u_le b_pi b_pa u_pd u_od b_ws b_hw u_la b_se b_re u_bk u_va u_su u_ce u_ho u_wy u_bt u_ps b_pt u_tg u_sn b_ip u_ic b_ah b_be b_me u_wd b_tr b_ld u_st b_wn u_id)), (b_op, (arI G 400 v_op)), (b_ar, (arI G 400 v_ar)), (b_pi, (arI G 400 v_pi)), (b_pa, (arI G 400 v_pa))]) hP hD hS hA [7, 1, 2, 3, 4] (by decide +kernel) rfl
            refine va_callv (va_runV (As := [.int 5]) (rest := []) ⟨hx, hb, hml, hown, hts⟩ (n_settleX l G b_o b_op b_ar b_pi b_pa b_rf b_ro b_im b_ke b_tp b_nl b_ws b_hw b_se b_re b_pt b_ip b_ah b_be b_me b_tr b_ld b_wn H.size u_th u_sa u_fd u_td u_fr u_to u_so u_fa u_bd u_nc u_co u_le u_pd u_od u_la u_bk u_ce u_ho u_wy u_bt u_ps u_tg u_sn u_ic u_wd u_id 5 g_a u_fr u_wo u_va u_su u_st v_op v_ar v_pi v_pa g_op g_ar h_u_td h_u_fr h_u_to ⟨by omega, by omega⟩ h_u_nc h_u_co h_u_pd h_u_la h_u_bk h_u_ce h_u_ho h_u_wy h_u_bt h_u_ps h_u_ic h_u_id ⟨by decide, by decide⟩ (by omega) (e_x) (hE_35)) (cwV 1 hts gV_X12_288 rfl rfl rfl hv_X12_settle ⟨Nat.le_of_ble_eq_true rfl, Nat.le_of_ble_eq_true rfl⟩) (g5_preV hPc hK hDc hN hT hS hFc (ci := 12) (q0 := 0) rfl rfl) rfl rfl hl.1 rfl (lv_room (Nat.le_of_ble_eq_true rfl)) dX12_behindSum_68 ⟨Nat.le_of_ble_eq_true rfl, Nat.le_of_ble_eq_true rfl⟩) hS (fun q _ h => hFc q h) hFc (fun u t H locs ht hvm hw hB hz1 hk1 hS => ?_)
            obtain ⟨hP1, hD1⟩ := hB
            have hP1 := g5_ht ht hP1
            obtain ⟨z44, z45, z46, z47, (i_36 : 0 ≤ z44.toInt ∧ z44.toInt ≤ 400), (i_37 : 0 ≤ z45.toInt ∧ z45.toInt ≤ 400), (i_38 : XJ g_op g_ar z46 z47 v_pi v_pa g_a.toInt z44.toInt z45.toInt u_fr.toInt), (i_39 : HJ z46 z47 v_pi v_pa g_a.toInt z44.toInt z45.toInt 1), (i_40 : stl (5 : Int32).toInt (plL v_pi v_pa u_pd.toInt.toNat) (v_op, v_ar, u_co.toInt.toNat) = (plL v_pi v_pa z45.toInt.toNat, (z46, z47, z44.toInt.toNat))), (i_41 : S1 v_pi u_pd.toInt z45.toInt), (i_42 : S2 v_pi z45.toInt (5 : Int32).toInt), (i_43 : z45.toInt ≤ u_pd.toInt), rfl⟩ := hw
            have hJ9 := va_join (wr := [(b_tp, (arI G 400 v_tp)), (b_ws, (arJ G 8 v_ws)), (b_hw, (arJ G 4 v_hw))]) hP hD [7, 1, 2, 3, 4] [0, 5, 6] rfl rfl (by decide +kernel) (by decide +kernel) hk1 hFc hP1 hD1
            clear hP hD hPc hDc hFc ht hvm hz1 hk1 hP1 hD1
            obtain ⟨hP, hD⟩ := hJ9
            refine g5_rs [(b_tp, (arI G 400 v_tp)), (b_ws, (arJ G 8 v_ws)), (b_hw, (arJ G 4 v_hw)), (b_o, (oc12 u_th u_sa b_rf b_ro b_im b_ke u_fd b_tp u_td u_fr u_to u_so u_wo u_fa u_bd u_nc b_nl z44 b_op b_ar u_le b_pi b_pa z45 u_od b_ws b_hw u_la b_se b_re u_bk u_va u_su u_ce u_ho u_wy u_bt u_ps b_pt u_tg u_sn b_ip u_ic b_ah b_be b_me u_wd b_tr b_ld u_st b_wn u_id)), (b_op, (arI G 400 z46)), (b_ar, (arI G 400 z47)), (b_pi, (arI G 400 v_pi)), (b_pa, (arI G 400 v_pa))] hP hD ?_
            clear hP hD
            intro hP hD
            have hmf8 := xj_mf i_38
            refine W.eq (g2 := F0 m 71 ls []) rfl ?_
            refine lv_aload_n hx hb dX12_behindSum_71 rfl (lv_at hl 1 rfl) ?_
            refine lv_iload_n hx hb dX12_behindSum_72 rfl (lv_at hl 0 rfl) ?_
            refine lv_iconst (v := 0) hx hb dX12_behindSum_73 (by decide +kernel) ?_
            obtain ⟨hPc, hDc, hFc⟩ := g5_sub3 (wc := [(b_o, (oc12 u_th u_sa b_rf b_ro b_im b_ke u_fd b_tp u_td u_fr u_to u_so u_wo u_fa u_bd u_nc b_nl z44 b_op b_ar u_le b_pi b_pa z45 u_od b_ws b_hw u_la b_se b_re u_bk u_va u_su u_ce u_ho u_wy u_bt u_ps b_pt u_tg u_sn b_ip u_ic b_ah b_be b_me u_wd b_tr b_ld u_st b_wn u_id)), (b_pi, (arI G 400 v_pi)), (b_pa, (arI G 400 v_pa))]) hP hD hS hA [3, 6, 7] (by decide +kernel) rfl
            refine va_callv (va_runV (As := [.int 21, .int 0]) (rest := []) ⟨hx, hb, hml, hown, hts⟩ (n_push l G b_o b_pi b_pa b_rf b_ro b_im b_ke b_tp b_nl b_op b_ar b_ws b_hw b_se b_re b_pt b_ip b_ah b_be b_me b_tr b_ld b_wn H.size u_th u_sa u_fd u_td u_fr u_to u_so u_fa u_bd u_nc z44 u_le z45 u_od u_la u_bk u_ce u_ho u_wy u_bt u_ps u_tg u_sn u_ic u_wd u_id 21 0 u_wo u_va u_su u_st v_pi v_pa h_u_td h_u_fr h_u_to ⟨by omega, by omega⟩ h_u_nc i_36 i_37 h_u_la h_u_bk h_u_ce h_u_ho h_u_wy h_u_bt h_u_ps h_u_ic h_u_id (by omega)) (cwV 2 hts gV_X12_261 rfl rfl rfl hv_X12_push ⟨Nat.le_of_ble_eq_true rfl, Nat.le_of_ble_eq_true rfl⟩) (g5_preV hPc hK hDc hN hT hS hFc (ci := 12) (q0 := 0) rfl rfl) rfl rfl hl.1 rfl (lv_room (Nat.le_of_ble_eq_true rfl)) dX12_behindSum_74 ⟨Nat.le_of_ble_eq_true rfl, Nat.le_of_ble_eq_true rfl⟩) hS (fun q _ h => hFc q h) hFc (fun u t H locs ht hvm hw hB hz1 hk1 hS => ?_)
            obtain ⟨hP1, hD1⟩ := hB
            have hP1 := g5_ht ht hP1
            obtain ⟨z50, (i_48 : 0 ≤ z50.toInt ∧ z50.toInt ≤ 400), (i_49 : z50.toInt = z45.toInt + 1), rfl⟩ := hw
            have hJ9 := va_join (wr := [(b_tp, (arI G 400 v_tp)), (b_ws, (arJ G 8 v_ws)), (b_hw, (arJ G 4 v_hw)), (b_op, (arI G 400 z46)), (b_ar, (arI G 400 z47))]) hP hD [3, 6, 7] [0, 1, 2, 4, 5] rfl rfl (by decide +kernel) (by decide +kernel) hk1 hFc hP1 hD1
            clear hP hD hPc hDc hFc ht hvm hz1 hk1 hP1 hD1
            obtain ⟨hP, hD⟩ := hJ9
            refine g5_rs [(b_tp, (arI G 400 v_tp)), (b_ws, (arJ G 8 v_ws)), (b_hw, (arJ G 4 v_hw)), (b_op, (arI G 400 z46)), (b_ar, (arI G 400 z47)), (b_o, (oc12 u_th u_sa b_rf b_ro b_im b_ke u_fd b_tp u_td u_fr u_to u_so u_wo u_fa u_bd u_nc b_nl z44 b_op b_ar u_le b_pi b_pa z50 u_od b_ws b_hw u_la b_se b_re u_bk u_va u_su u_ce u_ho u_wy u_bt u_ps b_pt u_tg u_sn b_ip u_ic b_ah b_be b_me u_wd b_tr b_ld u_st b_wn u_id)), (b_pi, (arI G 400 (upd v_pi z45.toNatClampNeg 21))), (b_pa, (arI G 400 (upd v_pa z45.toNatClampNeg 0)))] hP hD ?_
            clear hP hD
            intro hP hD
            refine lv_aload_n hx hb dX12_behindSum_77 rfl (lv_at hl 1 rfl) ?_
            refine W.eq (g2 := F0 m 78 ls [.ref b_o]) rfl ?_
            obtain ⟨hPc, hDc, hFc⟩ := g5_sub3 (wc := [(b_o, (oc12 u_th u_sa b_rf b_ro b_im b_ke u_fd b_tp u_td u_fr u_to u_so u_wo u_fa u_bd u_nc b_nl z44 b_op b_ar u_le b_pi b_pa z50 u_od b_ws b_hw u_la b_se b_re u_bk u_va u_su u_ce u_ho u_wy u_bt u_ps b_pt u_tg u_sn b_ip u_ic b_ah b_be b_me u_wd b_tr b_ld u_st b_wn u_id)), (b_tp, (arI G 400 v_tp))]) hP hD hS hA [5, 0] (by decide +kernel) rfl
            refine va_callv (va_runV (As := []) (rest := []) ⟨hx, hb, hml, hown, hts⟩ (n_nextX l G b_o b_tp b_rf b_ro b_im b_ke b_nl b_op b_ar b_pi b_pa b_ws b_hw b_se b_re b_pt b_ip b_ah b_be b_me b_tr b_ld b_wn H.size u_th u_sa u_fd u_td u_fr u_to u_so u_fa u_bd u_nc z44 u_le z50 u_od u_la u_bk u_ce u_ho u_wy u_bt u_ps u_tg u_sn u_ic u_wd u_id u_wo u_va u_su u_st v_tp h_u_td h_u_fr h_u_to ⟨by omega, by omega⟩ h_u_nc i_36 i_48 h_u_la h_u_bk h_u_ce h_u_ho h_u_wy h_u_bt h_u_ps h_u_ic h_u_id (by omega)) (cwV 0 hts gV_X12_208 rfl rfl rfl hv_X12_next ⟨Nat.le_of_ble_eq_true rfl, Nat.le_of_ble_eq_true rfl⟩) (g5_preV hPc hK hDc hN hT hS hFc (ci := 12) (q0 := 0) rfl rfl) rfl rfl hl.1 rfl (lv_room (Nat.le_of_ble_eq_true rfl)) dX12_behindSum_78 ⟨Nat.le_of_ble_eq_true rfl, Nat.le_of_ble_eq_true rfl⟩) hS (fun q _ h => hFc q h) hFc (fun u t H locs ht hvm hw hB hz1 hk1 hS => ?_)
            obtain ⟨hP1, hD1⟩ := hB
            have hP1 := g5_ht ht hP1
            obtain ⟨z56, z57, z58, z59, (i_51 : 0 ≤ z56.toInt ∧ z56.toInt ≤ 400), (i_52 : 0 ≤ z57.toInt ∧ z57.toInt ≤ 400), (i_53 : u_to.toInt ≤ z56.toInt ∧ z56.toInt ≤ z57.toInt ∧ z57.toInt ≤ u_td.toInt), (i_54 : TKs z58.toInt z56.toInt z57.toInt), (i_55 : TOKA v_tp u_td.toInt.toNat (skT v_tp u_td.toInt.toNat u_to.toInt.toNat) z56 z57 z58 z59), rfl⟩ := hw
            have hJ9 := va_join (wr := [(b_ws, (arJ G 8 v_ws)), (b_hw, (arJ G 4 v_hw)), (b_op, (arI G 400 z46)), (b_ar, (arI G 400 z47)), (b_pi, (arI G 400 (upd v_pi z45.toNatClampNeg 21))), (b_pa, (arI G 400 (upd v_pa z45.toNatClampNeg 0)))]) hP hD [5, 0] [1, 2, 3, 4, 6, 7] rfl rfl (by decide +kernel) (by decide +kernel) hk1 hFc hP1 hD1
            clear hP hD hPc hDc hFc ht hvm hz1 hk1 hP1 hD1
            obtain ⟨hP, hD⟩ := hJ9
            refine g5_rs [(b_ws, (arJ G 8 v_ws)), (b_hw, (arJ G 4 v_hw)), (b_op, (arI G 400 z46)), (b_ar, (arI G 400 z47)), (b_pi, (arI G 400 (upd v_pi z45.toNatClampNeg 21))), (b_pa, (arI G 400 (upd v_pa z45.toNatClampNeg 0))), (b_o, (oc12 u_th u_sa b_rf b_ro b_im b_ke u_fd b_tp u_td z56 z57 z58 z59 u_fa u_bd u_nc b_nl z44 b_op b_ar u_le b_pi b_pa z50 u_od b_ws b_hw u_la b_se b_re u_bk u_va u_su u_ce u_ho u_wy u_bt u_ps b_pt u_tg u_sn b_ip u_ic b_ah b_be b_me u_wd b_tr b_ld u_st b_wn u_id)), (b_tp, (arI G 400 v_tp))] hP hD ?_
            clear hP hD
            intro hP hD
            refine lv_iconst (v := 1) hx hb dX12_behindSum_81 (by decide +kernel) ?_
            exact W.iret (v := 1) hx hb hr (fun t ht hW => ⟨⟨1, [(b_o, (oc12 u_th u_sa b_rf b_ro b_im b_ke u_fd b_tp u_td z56 z57 z58 z59 u_fa u_bd u_nc b_nl z44 b_op b_ar u_le b_pi b_pa z50 u_od b_ws b_hw u_la b_se b_re u_bk u_va u_su u_ce u_ho u_wy u_bt u_ps b_pt u_tg u_sn b_ip u_ic b_ah b_be b_me u_wd b_tr b_ld u_st b_wn u_id)), (b_tp, (arI G 400 v_tp)), (b_op, (arI G 400 z46)), (b_ar, (arI G 400 z47)), (b_pi, (arI G 400 (upd v_pi z45.toNatClampNeg 21))), (b_pa, (arI G 400 (upd v_pa z45.toNatClampNeg 0))), (b_ws, (arJ G 8 v_ws)), (b_hw, (arJ G 4 v_hw))], rfl, Or.inr (⟨1, z56, z57, z58, z59, z44, z50, u_od, z46, z47, (upd v_pi z45.toNatClampNeg 21), (upd v_pa z45.toNatClampNeg 0), i_51, i_52, i_36, i_48, ⟨by have zc_o_r : (1 : Int32).toInt = 1 := (by decide +kernel); omega, by have zc_o_r : (1 : Int32).toInt = 1 := (by decide +kernel); omega⟩, by omega, i_54, xj_push i_38 (by omega) (by omega) ⟨by decide, by decide⟩ (Or.inl (by decide +kernel)), tj_1 (hj_push2 i_39 (by omega) (by omega) ⟨by decide, by decide⟩ (Or.inl (by decide +kernel))) (by decide +kernel), by have w9 := (twt_0 (by decide +kernel) : twt (1 : Int32).toInt = 0); omega, rq_t (rq_op (o := 21) hRC hFD (by rw [((tk_sign e_tp hTK (by decide +kernel) (by decide +kernel) (c := 45)).mpr i_31)]; decide) (by decide +kernel) (stl_c i_40 (by decide +kernel)) (toka_nx hTK i_55) (by omega) (by omega) (by omega)) (by decide +kernel), rfl, rfl⟩), by rw [ht]; exact hP.sub [6, 7, 2, 3, 4, 5, 0, 1] rfl, hD.sub [6, 7, 2, 3, 4, 5, 0, 1] (by decide +kernel) rfl⟩, hS.F ht⟩) hS.2.2 dX12_behindSum_82
      ·
        have hJ9 := va_join (wr := [(b_tp, (arI G 400 v_tp)), (b_op, (arI G 400 v_op)), (b_ar, (arI G 400 v_ar)), (b_pi, (arI G 400 v_pi)), (b_pa, (arI G 400 v_pa)), (b_ws, (arJ G 8 v_ws)), (b_hw, (arJ G 4 v_hw))]) hP hD [7] [0, 1, 2, 3, 4, 5, 6] rfl rfl (by decide +kernel) (by decide +kernel) hk1 hFc hP1 hD1
        clear hP hD hPc hDc hFc ht hvm hz1 hk1 hP1 hD1
        obtain ⟨hP, hD⟩ := hJ9
        refine g5_rs [(b_tp, (arI G 400 v_tp)), (b_op, (arI G 400 v_op)), (b_ar, (arI G 400 v_ar)), (b_pi, (arI G 400 v_pi)), (b_pa, (arI G 400 v_pa)), (b_ws, (arJ G 8 v_ws)), (b_hw, (arJ G 4 v_hw)), (b_o, (oc12 u_th u_sa b_rf b_ro b_im b_ke u_fd b_tp u_td u_fr u_to u_so u_wo u_fa u_bd u_nc b_nl u_co b_op b_ar u_le b_pi b_pa u_pd u_od b_ws b_hw u_la b_se b_re u_bk u_va u_su u_ce u_ho u_wy u_bt u_ps b_pt u_tg u_sn b_ip u_ic b_ah b_be b_me u_wd b_tr b_ld u_st b_wn u_id))] hP hD ?_
        clear hP hD
        intro hP hD
        refine lv_if_eq (tgt := 28) hx hb dX12_behindSum_20 (by decide +kernel) (fun c_60 => ?_) (fun c_60 => ?_)
        ·
          refine lv_aload_n hx hb dX12_behindSum_28 rfl (lv_at hl 0 rfl) ?_
          refine lv_bipush (v := 42) hx hb dX12_behindSum_29 (by decide +kernel) ?_
          obtain ⟨hPc, hDc, hFc⟩ := g5_sub3 (wc := [(b_o, (oc12 u_th u_sa b_rf b_ro b_im b_ke u_fd b_tp u_td u_fr u_to u_so u_wo u_fa u_bd u_nc b_nl u_co b_op b_ar u_le b_pi b_pa u_pd u_od b_ws b_hw u_la b_se b_re u_bk u_va u_su u_ce u_ho u_wy u_bt u_ps b_pt u_tg u_sn b_ip u_ic b_ah b_be b_me u_wd b_tr b_ld u_st b_wn u_id))]) hP hD hS hA [7] (by decide +kernel) rfl
          refine va_calli (va_runV (As := [.int 42]) (rest := []) ⟨hx, hb, hml, hown, hts⟩ (n_isSignX42 l G b_o b_rf b_ro b_im b_ke b_tp b_nl b_op b_ar b_pi b_pa b_ws b_hw b_se b_re b_pt b_ip b_ah b_be b_me b_tr b_ld b_wn H.size u_th u_sa u_fd u_td u_fr u_to u_so u_fa u_bd u_nc u_co u_le u_pd u_od u_la u_bk u_ce u_ho u_wy u_bt u_ps u_tg u_sn u_ic u_wd u_id u_wo u_va u_su u_st h_u_td h_u_fr h_u_to ⟨by omega, by omega⟩ h_u_nc h_u_co h_u_pd h_u_la h_u_bk h_u_ce h_u_ho h_u_wy h_u_bt h_u_ps h_u_ic h_u_id) (cwV 1 hts gV_X12_267 rfl rfl rfl hv_X12_isSign ⟨Nat.le_of_ble_eq_true rfl, Nat.le_of_ble_eq_true rfl⟩) (g5_preV hPc hK hDc hN hT hS hFc (ci := 12) (q0 := 0) rfl rfl) rfl rfl hl.1 rfl (lv_room (Nat.le_of_ble_eq_true rfl)) dX12_behindSum_31 ⟨Nat.le_of_ble_eq_true rfl, Nat.le_of_ble_eq_true rfl⟩) hS (fun q _ h => hFc q h) hFc (fun r u t H locs ht hvm hw hB hz1 hk1 hS => ?_)
          obtain ⟨hP1, hD1⟩ := hB
          have hP1 := g5_ht ht hP1
          rcases hw with ⟨(i_61 : u_so.toInt = 3 ∧ u_wo.toInt = 42), rfl, rfl⟩ | ⟨(i_62 : ¬ (u_so.toInt = 3 ∧ u_wo.toInt = 42)), rfl, rfl⟩
          ·
            have hJ9 := va_join (wr := [(b_tp, (arI G 400 v_tp)), (b_op, (arI G 400 v_op)), (b_ar, (arI G 400 v_ar)), (b_pi, (arI G 400 v_pi)), (b_pa, (arI G 400 v_pa)), (b_ws, (arJ G 8 v_ws)), (b_hw, (arJ G 4 v_hw))]) hP hD [7] [0, 1, 2, 3, 4, 5, 6] rfl rfl (by decide +kernel) (by decide +kernel) hk1 hFc hP1 hD1
            clear hP hD hPc hDc hFc ht hvm hz1 hk1 hP1 hD1
            obtain ⟨hP, hD⟩ := hJ9
            refine g5_rs [(b_tp, (arI G 400 v_tp)), (b_op, (arI G 400 v_op)), (b_ar, (arI G 400 v_ar)), (b_pi, (arI G 400 v_pi)), (b_pa, (arI G 400 v_pa)), (b_ws, (arJ G 8 v_ws)), (b_hw, (arJ G 4 v_hw)), (b_o, (oc12 u_th u_sa b_rf b_ro b_im b_ke u_fd b_tp u_td u_fr u_to u_so u_wo u_fa u_bd u_nc b_nl u_co b_op b_ar u_le b_pi b_pa u_pd u_od b_ws b_hw u_la b_se b_re u_bk u_va u_su u_ce u_ho u_wy u_bt u_ps b_pt u_tg u_sn b_ip u_ic b_ah b_be b_me u_wd b_tr b_ld u_st b_wn u_id))] hP hD ?_
            clear hP hD
            intro hP hD
            refine lv_if_eq (tgt := 42) hx hb dX12_behindSum_34 (by decide +kernel) (fun c_63 => ?_) (fun c_63 => ?_)
            ·
              exact absurd c_63 (by decide +kernel)
            ·
              refine lv_bipush (v := 22) hx hb dX12_behindSum_37 (by decide +kernel) ?_
              refine lv_goto (tgt := 57) hx hb dX12_behindSum_39 (by decide +kernel) ?_
              refine lv_istore_n (lv' := [(2, .int 22), (0, .ref b_o), (1, .int p_1)]) hx hb dX12_behindSum_57 rfl hl (by decide +kernel) rfl ?_
              clear hl
              intro ls hl
              refine lv_iload_n hx hb dX12_behindSum_58 rfl (lv_at hl 0 rfl) ?_
              refine W.eq (g2 := F0 m 59 ls [.int 22]) rfl ?_
              refine lv_iconst (v := (-1)) hx hb dX12_behindSum_59 (by decide +kernel) ?_
              refine lv_icmp_eq (tgt := 83) hx hb dX12_behindSum_60 (by decide +kernel) (fun c_64 => ?_) (fun c_64 => ?_)
              ·
                exact absurd c_64 (by decide +kernel)
              ·
                have hlt9 : u_fr.toInt < u_to.toInt := tks_lt e_s (by omega)
                have hE_65 : HJ v_op v_ar v_pi v_pa g_a.toInt u_co.toInt u_pd.toInt 1 := tj_d1 e_j (by decide +kernel)
                refine lv_aload_n hx hb dX12_behindSum_63 rfl (lv_at hl 1 rfl) ?_
                refine lv_iload_n hx hb dX12_behindSum_64 rfl (lv_at hl 0 rfl) ?_
                obtain ⟨hPc, hDc, hFc⟩ := g5_sub3 (wc := []) hP hD hS hA [] (by decide +kernel) rfl
                refine va_calli (va_runS (As := [.int 22]) (rest := [.ref b_o]) ⟨hx, hb, hml, hown, hts⟩ (n_binds22 l G H.size) (va_cwS 1 hts gS_X12_243 rfl rfl rfl hs_X12_binds ⟨Nat.le_of_ble_eq_true rfl, Nat.le_of_ble_eq_true rfl⟩) (g5_preS hPc hK hDc hN hT hS hFc) rfl rfl hl.1 rfl (lv_room (Nat.le_of_ble_eq_true rfl)) dX12_behindSum_65 ⟨Nat.le_of_ble_eq_true rfl, Nat.le_of_ble_eq_true rfl⟩) hS (fun q _ h => hFc q h) hFc (fun r u t H locs ht hvm hw hB hz1 hk1 hS => ?_)
                obtain ⟨hP1, hD1⟩ := hB
                have hP1 := g5_ht ht hP1
                obtain ⟨rfl, rfl⟩ := hw
                have hJ9 := g5_same hP hk1
                clear hP hPc hDc hFc ht hvm hz1 hk1 hP1 hD1
                have hP := hJ9
                clear hJ9
                obtain ⟨hPc, hDc, hFc⟩ := g5_sub3 (wc := [(b_o, (oc12 u_th u_sa b_rf b_ro b_im b_ke u_fd b_tp u_td u_fr u_to u_so u_wo u_fa u_bd u_nc b_nl u_co b_op b_ar u_le b_pi b_pa u_pd u_od b_ws b_hw u_la b_se b_re u_bk u_va u_su u_ce u_ho u_wy u_bt u_ps b_pt u_tg u_sn b_ip u_ic b_ah b_be b_me u_wd b_tr b_ld u_st b_wn u_id)), (b_op, (arI G 400 v_op)), (b_ar, (arI G 400 v_ar)), (b_pi, (arI G 400 v_pi)), (b_pa, (arI G 400 v_pa))]) hP hD hS hA [7, 1, 2, 3, 4] (by decide +kernel) rfl
                refine va_callv (va_runV (As := [.int 6]) (rest := []) ⟨hx, hb, hml, hown, hts⟩ (n_settleX l G b_o b_op b_ar b_pi b_pa b_rf b_ro b_im b_ke b_tp b_nl b_ws b_hw b_se b_re b_pt b_ip b_ah b_be b_me b_tr b_ld b_wn H.size u_th u_sa u_fd u_td u_fr u_to u_so u_fa u_bd u_nc u_co u_le u_pd u_od u_la u_bk u_ce u_ho u_wy u_bt u_ps u_tg u_sn u_ic u_wd u_id 6 g_a u_fr u_wo u_va u_su u_st v_op v_ar v_pi v_pa g_op g_ar h_u_td h_u_fr h_u_to ⟨by omega, by omega⟩ h_u_nc h_u_co h_u_pd h_u_la h_u_bk h_u_ce h_u_ho h_u_wy h_u_bt h_u_ps h_u_ic h_u_id ⟨by decide, by decide⟩ (by omega) (e_x) (hE_65)) (cwV 1 hts gV_X12_288 rfl rfl rfl hv_X12_settle ⟨Nat.le_of_ble_eq_true rfl, Nat.le_of_ble_eq_true rfl⟩) (g5_preV hPc hK hDc hN hT hS hFc (ci := 12) (q0 := 0) rfl rfl) rfl rfl hl.1 rfl (lv_room (Nat.le_of_ble_eq_true rfl)) dX12_behindSum_68 ⟨Nat.le_of_ble_eq_true rfl, Nat.le_of_ble_eq_true rfl⟩) hS (fun q _ h => hFc q h) hFc (fun u t H locs ht hvm hw hB hz1 hk1 hS => ?_)
                obtain ⟨hP1, hD1⟩ := hB
                have hP1 := g5_ht ht hP1
                obtain ⟨z74, z75, z76, z77, (i_66 : 0 ≤ z74.toInt ∧ z74.toInt ≤ 400), (i_67 : 0 ≤ z75.toInt ∧ z75.toInt ≤ 400), (i_68 : XJ g_op g_ar z76 z77 v_pi v_pa g_a.toInt z74.toInt z75.toInt u_fr.toInt), (i_69 : HJ z76 z77 v_pi v_pa g_a.toInt z74.toInt z75.toInt 1), (i_70 : stl (6 : Int32).toInt (plL v_pi v_pa u_pd.toInt.toNat) (v_op, v_ar, u_co.toInt.toNat) = (plL v_pi v_pa z75.toInt.toNat, (z76, z77, z74.toInt.toNat))), (i_71 : S1 v_pi u_pd.toInt z75.toInt), (i_72 : S2 v_pi z75.toInt (6 : Int32).toInt), (i_73 : z75.toInt ≤ u_pd.toInt), rfl⟩ := hw
                have hJ9 := va_join (wr := [(b_tp, (arI G 400 v_tp)), (b_ws, (arJ G 8 v_ws)), (b_hw, (arJ G 4 v_hw))]) hP hD [7, 1, 2, 3, 4] [0, 5, 6] rfl rfl (by decide +kernel) (by decide +kernel) hk1 hFc hP1 hD1
                clear hP hD hPc hDc hFc ht hvm hz1 hk1 hP1 hD1
                obtain ⟨hP, hD⟩ := hJ9
                refine g5_rs [(b_tp, (arI G 400 v_tp)), (b_ws, (arJ G 8 v_ws)), (b_hw, (arJ G 4 v_hw)), (b_o, (oc12 u_th u_sa b_rf b_ro b_im b_ke u_fd b_tp u_td u_fr u_to u_so u_wo u_fa u_bd u_nc b_nl z74 b_op b_ar u_le b_pi b_pa z75 u_od b_ws b_hw u_la b_se b_re u_bk u_va u_su u_ce u_ho u_wy u_bt u_ps b_pt u_tg u_sn b_ip u_ic b_ah b_be b_me u_wd b_tr b_ld u_st b_wn u_id)), (b_op, (arI G 400 z76)), (b_ar, (arI G 400 z77)), (b_pi, (arI G 400 v_pi)), (b_pa, (arI G 400 v_pa))] hP hD ?_
                clear hP hD
                intro hP hD
                have hmf8 := xj_mf i_68
                refine W.eq (g2 := F0 m 71 ls []) rfl ?_
                refine lv_aload_n hx hb dX12_behindSum_71 rfl (lv_at hl 1 rfl) ?_
                refine lv_iload_n hx hb dX12_behindSum_72 rfl (lv_at hl 0 rfl) ?_
                refine lv_iconst (v := 0) hx hb dX12_behindSum_73 (by decide +kernel) ?_
                obtain ⟨hPc, hDc, hFc⟩ := g5_sub3 (wc := [(b_o, (oc12 u_th u_sa b_rf b_ro b_im b_ke u_fd b_tp u_td u_fr u_to u_so u_wo u_fa u_bd u_nc b_nl z74 b_op b_ar u_le b_pi b_pa z75 u_od b_ws b_hw u_la b_se b_re u_bk u_va u_su u_ce u_ho u_wy u_bt u_ps b_pt u_tg u_sn b_ip u_ic b_ah b_be b_me u_wd b_tr b_ld u_st b_wn u_id)), (b_pi, (arI G 400 v_pi)), (b_pa, (arI G 400 v_pa))]) hP hD hS hA [3, 6, 7] (by decide +kernel) rfl
                refine va_callv (va_runV (As := [.int 22, .int 0]) (rest := []) ⟨hx, hb, hml, hown, hts⟩ (n_push l G b_o b_pi b_pa b_rf b_ro b_im b_ke b_tp b_nl b_op b_ar b_ws b_hw b_se b_re b_pt b_ip b_ah b_be b_me b_tr b_ld b_wn H.size u_th u_sa u_fd u_td u_fr u_to u_so u_fa u_bd u_nc z74 u_le z75 u_od u_la u_bk u_ce u_ho u_wy u_bt u_ps u_tg u_sn u_ic u_wd u_id 22 0 u_wo u_va u_su u_st v_pi v_pa h_u_td h_u_fr h_u_to ⟨by omega, by omega⟩ h_u_nc i_66 i_67 h_u_la h_u_bk h_u_ce h_u_ho h_u_wy h_u_bt h_u_ps h_u_ic h_u_id (by omega)) (cwV 2 hts gV_X12_261 rfl rfl rfl hv_X12_push ⟨Nat.le_of_ble_eq_true rfl, Nat.le_of_ble_eq_true rfl⟩) (g5_preV hPc hK hDc hN hT hS hFc (ci := 12) (q0 := 0) rfl rfl) rfl rfl hl.1 rfl (lv_room (Nat.le_of_ble_eq_true rfl)) dX12_behindSum_74 ⟨Nat.le_of_ble_eq_true rfl, Nat.le_of_ble_eq_true rfl⟩) hS (fun q _ h => hFc q h) hFc (fun u t H locs ht hvm hw hB hz1 hk1 hS => ?_)
                obtain ⟨hP1, hD1⟩ := hB
                have hP1 := g5_ht ht hP1
                obtain ⟨z80, (i_78 : 0 ≤ z80.toInt ∧ z80.toInt ≤ 400), (i_79 : z80.toInt = z75.toInt + 1), rfl⟩ := hw
                have hJ9 := va_join (wr := [(b_tp, (arI G 400 v_tp)), (b_ws, (arJ G 8 v_ws)), (b_hw, (arJ G 4 v_hw)), (b_op, (arI G 400 z76)), (b_ar, (arI G 400 z77))]) hP hD [3, 6, 7] [0, 1, 2, 4, 5] rfl rfl (by decide +kernel) (by decide +kernel) hk1 hFc hP1 hD1
                clear hP hD hPc hDc hFc ht hvm hz1 hk1 hP1 hD1
                obtain ⟨hP, hD⟩ := hJ9
                refine g5_rs [(b_tp, (arI G 400 v_tp)), (b_ws, (arJ G 8 v_ws)), (b_hw, (arJ G 4 v_hw)), (b_op, (arI G 400 z76)), (b_ar, (arI G 400 z77)), (b_o, (oc12 u_th u_sa b_rf b_ro b_im b_ke u_fd b_tp u_td u_fr u_to u_so u_wo u_fa u_bd u_nc b_nl z74 b_op b_ar u_le b_pi b_pa z80 u_od b_ws b_hw u_la b_se b_re u_bk u_va u_su u_ce u_ho u_wy u_bt u_ps b_pt u_tg u_sn b_ip u_ic b_ah b_be b_me u_wd b_tr b_ld u_st b_wn u_id)), (b_pi, (arI G 400 (upd v_pi z75.toNatClampNeg 22))), (b_pa, (arI G 400 (upd v_pa z75.toNatClampNeg 0)))] hP hD ?_
                clear hP hD
                intro hP hD
                refine lv_aload_n hx hb dX12_behindSum_77 rfl (lv_at hl 1 rfl) ?_
                refine W.eq (g2 := F0 m 78 ls [.ref b_o]) rfl ?_
                obtain ⟨hPc, hDc, hFc⟩ := g5_sub3 (wc := [(b_o, (oc12 u_th u_sa b_rf b_ro b_im b_ke u_fd b_tp u_td u_fr u_to u_so u_wo u_fa u_bd u_nc b_nl z74 b_op b_ar u_le b_pi b_pa z80 u_od b_ws b_hw u_la b_se b_re u_bk u_va u_su u_ce u_ho u_wy u_bt u_ps b_pt u_tg u_sn b_ip u_ic b_ah b_be b_me u_wd b_tr b_ld u_st b_wn u_id)), (b_tp, (arI G 400 v_tp))]) hP hD hS hA [5, 0] (by decide +kernel) rfl
                refine va_callv (va_runV (As := []) (rest := []) ⟨hx, hb, hml, hown, hts⟩ (n_nextX l G b_o b_tp b_rf b_ro b_im b_ke b_nl b_op b_ar b_pi b_pa b_ws b_hw b_se b_re b_pt b_ip b_ah b_be b_me b_tr b_ld b_wn H.size u_th u_sa u_fd u_td u_fr u_to u_so u_fa u_bd u_nc z74 u_le z80 u_od u_la u_bk u_ce u_ho u_wy u_bt u_ps u_tg u_sn u_ic u_wd u_id u_wo u_va u_su u_st v_tp h_u_td h_u_fr h_u_to ⟨by omega, by omega⟩ h_u_nc i_66 i_78 h_u_la h_u_bk h_u_ce h_u_ho h_u_wy h_u_bt h_u_ps h_u_ic h_u_id (by omega)) (cwV 0 hts gV_X12_208 rfl rfl rfl hv_X12_next ⟨Nat.le_of_ble_eq_true rfl, Nat.le_of_ble_eq_true rfl⟩) (g5_preV hPc hK hDc hN hT hS hFc (ci := 12) (q0 := 0) rfl rfl) rfl rfl hl.1 rfl (lv_room (Nat.le_of_ble_eq_true rfl)) dX12_behindSum_78 ⟨Nat.le_of_ble_eq_true rfl, Nat.le_of_ble_eq_true rfl⟩) hS (fun q _ h => hFc q h) hFc (fun u t H locs ht hvm hw hB hz1 hk1 hS => ?_)
                obtain ⟨hP1, hD1⟩ := hB
                have hP1 := g5_ht ht hP1
                obtain ⟨z86, z87, z88, z89, (i_81 : 0 ≤ z86.toInt ∧ z86.toInt ≤ 400), (i_82 : 0 ≤ z87.toInt ∧ z87.toInt ≤ 400), (i_83 : u_to.toInt ≤ z86.toInt ∧ z86.toInt ≤ z87.toInt ∧ z87.toInt ≤ u_td.toInt), (i_84 : TKs z88.toInt z86.toInt z87.toInt), (i_85 : TOKA v_tp u_td.toInt.toNat (skT v_tp u_td.toInt.toNat u_to.toInt.toNat) z86 z87 z88 z89), rfl⟩ := hw
                have hJ9 := va_join (wr := [(b_ws, (arJ G 8 v_ws)), (b_hw, (arJ G 4 v_hw)), (b_op, (arI G 400 z76)), (b_ar, (arI G 400 z77)), (b_pi, (arI G 400 (upd v_pi z75.toNatClampNeg 22))), (b_pa, (arI G 400 (upd v_pa z75.toNatClampNeg 0)))]) hP hD [5, 0] [1, 2, 3, 4, 6, 7] rfl rfl (by decide +kernel) (by decide +kernel) hk1 hFc hP1 hD1
                clear hP hD hPc hDc hFc ht hvm hz1 hk1 hP1 hD1
                obtain ⟨hP, hD⟩ := hJ9
                refine g5_rs [(b_ws, (arJ G 8 v_ws)), (b_hw, (arJ G 4 v_hw)), (b_op, (arI G 400 z76)), (b_ar, (arI G 400 z77)), (b_pi, (arI G 400 (upd v_pi z75.toNatClampNeg 22))), (b_pa, (arI G 400 (upd v_pa z75.toNatClampNeg 0))), (b_o, (oc12 u_th u_sa b_rf b_ro b_im b_ke u_fd b_tp u_td z86 z87 z88 z89 u_fa u_bd u_nc b_nl z74 b_op b_ar u_le b_pi b_pa z80 u_od b_ws b_hw u_la b_se b_re u_bk u_va u_su u_ce u_ho u_wy u_bt u_ps b_pt u_tg u_sn b_ip u_ic b_ah b_be b_me u_wd b_tr b_ld u_st b_wn u_id)), (b_tp, (arI G 400 v_tp))] hP hD ?_
                clear hP hD
                intro hP hD
                refine lv_iconst (v := 1) hx hb dX12_behindSum_81 (by decide +kernel) ?_
                exact W.iret (v := 1) hx hb hr (fun t ht hW => ⟨⟨1, [(b_o, (oc12 u_th u_sa b_rf b_ro b_im b_ke u_fd b_tp u_td z86 z87 z88 z89 u_fa u_bd u_nc b_nl z74 b_op b_ar u_le b_pi b_pa z80 u_od b_ws b_hw u_la b_se b_re u_bk u_va u_su u_ce u_ho u_wy u_bt u_ps b_pt u_tg u_sn b_ip u_ic b_ah b_be b_me u_wd b_tr b_ld u_st b_wn u_id)), (b_tp, (arI G 400 v_tp)), (b_op, (arI G 400 z76)), (b_ar, (arI G 400 z77)), (b_pi, (arI G 400 (upd v_pi z75.toNatClampNeg 22))), (b_pa, (arI G 400 (upd v_pa z75.toNatClampNeg 0))), (b_ws, (arJ G 8 v_ws)), (b_hw, (arJ G 4 v_hw))], rfl, Or.inr (⟨1, z86, z87, z88, z89, z74, z80, u_od, z76, z77, (upd v_pi z75.toNatClampNeg 22), (upd v_pa z75.toNatClampNeg 0), i_81, i_82, i_66, i_78, ⟨by have zc_o_r : (1 : Int32).toInt = 1 := (by decide +kernel); omega, by have zc_o_r : (1 : Int32).toInt = 1 := (by decide +kernel); omega⟩, by omega, i_84, xj_push i_68 (by omega) (by omega) ⟨by decide, by decide⟩ (Or.inl (by decide +kernel)), tj_1 (hj_push2 i_69 (by omega) (by omega) ⟨by decide, by decide⟩ (Or.inl (by decide +kernel))) (by decide +kernel), by have w9 := (twt_0 (by decide +kernel) : twt (1 : Int32).toInt = 0); omega, rq_t (rq_op (o := 22) hRC hFD (by rw [((tk_sign e_tp hTK (by decide +kernel) (by decide +kernel) (c := 42)).mpr i_61)]; decide) (by decide +kernel) (stl_c i_70 (by decide +kernel)) (toka_nx hTK i_85) (by omega) (by omega) (by omega)) (by decide +kernel), rfl, rfl⟩), by rw [ht]; exact hP.sub [6, 7, 2, 3, 4, 5, 0, 1] rfl, hD.sub [6, 7, 2, 3, 4, 5, 0, 1] (by decide +kernel) rfl⟩, hS.F ht⟩) hS.2.2 dX12_behindSum_82
          ·
            have hJ9 := va_join (wr := [(b_tp, (arI G 400 v_tp)), (b_op, (arI G 400 v_op)), (b_ar, (arI G 400 v_ar)), (b_pi, (arI G 400 v_pi)), (b_pa, (arI G 400 v_pa)), (b_ws, (arJ G 8 v_ws)), (b_hw, (arJ G 4 v_hw))]) hP hD [7] [0, 1, 2, 3, 4, 5, 6] rfl rfl (by decide +kernel) (by decide +kernel) hk1 hFc hP1 hD1
            clear hP hD hPc hDc hFc ht hvm hz1 hk1 hP1 hD1
            obtain ⟨hP, hD⟩ := hJ9
            refine g5_rs [(b_tp, (arI G 400 v_tp)), (b_op, (arI G 400 v_op)), (b_ar, (arI G 400 v_ar)), (b_pi, (arI G 400 v_pi)), (b_pa, (arI G 400 v_pa)), (b_ws, (arJ G 8 v_ws)), (b_hw, (arJ G 4 v_hw)), (b_o, (oc12 u_th u_sa b_rf b_ro b_im b_ke u_fd b_tp u_td u_fr u_to u_so u_wo u_fa u_bd u_nc b_nl u_co b_op b_ar u_le b_pi b_pa u_pd u_od b_ws b_hw u_la b_se b_re u_bk u_va u_su u_ce u_ho u_wy u_bt u_ps b_pt u_tg u_sn b_ip u_ic b_ah b_be b_me u_wd b_tr b_ld u_st b_wn u_id))] hP hD ?_
            clear hP hD
            intro hP hD
            refine lv_if_eq (tgt := 42) hx hb dX12_behindSum_34 (by decide +kernel) (fun c_90 => ?_) (fun c_90 => ?_)
            ·
              refine lv_aload_n hx hb dX12_behindSum_42 rfl (lv_at hl 0 rfl) ?_
              refine lv_bipush (v := 47) hx hb dX12_behindSum_43 (by decide +kernel) ?_
              obtain ⟨hPc, hDc, hFc⟩ := g5_sub3 (wc := [(b_o, (oc12 u_th u_sa b_rf b_ro b_im b_ke u_fd b_tp u_td u_fr u_to u_so u_wo u_fa u_bd u_nc b_nl u_co b_op b_ar u_le b_pi b_pa u_pd u_od b_ws b_hw u_la b_se b_re u_bk u_va u_su u_ce u_ho u_wy u_bt u_ps b_pt u_tg u_sn b_ip u_ic b_ah b_be b_me u_wd b_tr b_ld u_st b_wn u_id))]) hP hD hS hA [7] (by decide +kernel) rfl
              refine va_calli (va_runV (As := [.int 47]) (rest := []) ⟨hx, hb, hml, hown, hts⟩ (n_isSignX47 l G b_o b_rf b_ro b_im b_ke b_tp b_nl b_op b_ar b_pi b_pa b_ws b_hw b_se b_re b_pt b_ip b_ah b_be b_me b_tr b_ld b_wn H.size u_th u_sa u_fd u_td u_fr u_to u_so u_fa u_bd u_nc u_co u_le u_pd u_od u_la u_bk u_ce u_ho u_wy u_bt u_ps u_tg u_sn u_ic u_wd u_id u_wo u_va u_su u_st h_u_td h_u_fr h_u_to ⟨by omega, by omega⟩ h_u_nc h_u_co h_u_pd h_u_la h_u_bk h_u_ce h_u_ho h_u_wy h_u_bt h_u_ps h_u_ic h_u_id) (cwV 1 hts gV_X12_267 rfl rfl rfl hv_X12_isSign ⟨Nat.le_of_ble_eq_true rfl, Nat.le_of_ble_eq_true rfl⟩) (g5_preV hPc hK hDc hN hT hS hFc (ci := 12) (q0 := 0) rfl rfl) rfl rfl hl.1 rfl (lv_room (Nat.le_of_ble_eq_true rfl)) dX12_behindSum_45 ⟨Nat.le_of_ble_eq_true rfl, Nat.le_of_ble_eq_true rfl⟩) hS (fun q _ h => hFc q h) hFc (fun r u t H locs ht hvm hw hB hz1 hk1 hS => ?_)
              obtain ⟨hP1, hD1⟩ := hB
              have hP1 := g5_ht ht hP1
              rcases hw with ⟨(i_91 : u_so.toInt = 3 ∧ u_wo.toInt = 47), rfl, rfl⟩ | ⟨(i_92 : ¬ (u_so.toInt = 3 ∧ u_wo.toInt = 47)), rfl, rfl⟩
              ·
                have hJ9 := va_join (wr := [(b_tp, (arI G 400 v_tp)), (b_op, (arI G 400 v_op)), (b_ar, (arI G 400 v_ar)), (b_pi, (arI G 400 v_pi)), (b_pa, (arI G 400 v_pa)), (b_ws, (arJ G 8 v_ws)), (b_hw, (arJ G 4 v_hw))]) hP hD [7] [0, 1, 2, 3, 4, 5, 6] rfl rfl (by decide +kernel) (by decide +kernel) hk1 hFc hP1 hD1
                clear hP hD hPc hDc hFc ht hvm hz1 hk1 hP1 hD1
                obtain ⟨hP, hD⟩ := hJ9
                refine g5_rs [(b_tp, (arI G 400 v_tp)), (b_op, (arI G 400 v_op)), (b_ar, (arI G 400 v_ar)), (b_pi, (arI G 400 v_pi)), (b_pa, (arI G 400 v_pa)), (b_ws, (arJ G 8 v_ws)), (b_hw, (arJ G 4 v_hw)), (b_o, (oc12 u_th u_sa b_rf b_ro b_im b_ke u_fd b_tp u_td u_fr u_to u_so u_wo u_fa u_bd u_nc b_nl u_co b_op b_ar u_le b_pi b_pa u_pd u_od b_ws b_hw u_la b_se b_re u_bk u_va u_su u_ce u_ho u_wy u_bt u_ps b_pt u_tg u_sn b_ip u_ic b_ah b_be b_me u_wd b_tr b_ld u_st b_wn u_id))] hP hD ?_
                clear hP hD
                intro hP hD
                refine lv_if_eq (tgt := 56) hx hb dX12_behindSum_48 (by decide +kernel) (fun c_93 => ?_) (fun c_93 => ?_)
                ·
                  exact absurd c_93 (by decide +kernel)
                ·
                  refine lv_bipush (v := 23) hx hb dX12_behindSum_51 (by decide +kernel) ?_
                  refine lv_goto (tgt := 57) hx hb dX12_behindSum_53 (by decide +kernel) ?_
                  refine lv_istore_n (lv' := [(2, .int 23), (0, .ref b_o), (1, .int p_1)]) hx hb dX12_behindSum_57 rfl hl (by decide +kernel) rfl ?_
                  clear hl
                  intro ls hl
                  refine lv_iload_n hx hb dX12_behindSum_58 rfl (lv_at hl 0 rfl) ?_
                  refine W.eq (g2 := F0 m 59 ls [.int 23]) rfl ?_
                  refine lv_iconst (v := (-1)) hx hb dX12_behindSum_59 (by decide +kernel) ?_
                  refine lv_icmp_eq (tgt := 83) hx hb dX12_behindSum_60 (by decide +kernel) (fun c_94 => ?_) (fun c_94 => ?_)
                  ·
                    exact absurd c_94 (by decide +kernel)
                  ·
                    have hlt9 : u_fr.toInt < u_to.toInt := tks_lt e_s (by omega)
                    have hE_95 : HJ v_op v_ar v_pi v_pa g_a.toInt u_co.toInt u_pd.toInt 1 := tj_d1 e_j (by decide +kernel)
                    refine lv_aload_n hx hb dX12_behindSum_63 rfl (lv_at hl 1 rfl) ?_
                    refine lv_iload_n hx hb dX12_behindSum_64 rfl (lv_at hl 0 rfl) ?_
                    obtain ⟨hPc, hDc, hFc⟩ := g5_sub3 (wc := []) hP hD hS hA [] (by decide +kernel) rfl
                    refine va_calli (va_runS (As := [.int 23]) (rest := [.ref b_o]) ⟨hx, hb, hml, hown, hts⟩ (n_binds23 l G H.size) (va_cwS 1 hts gS_X12_243 rfl rfl rfl hs_X12_binds ⟨Nat.le_of_ble_eq_true rfl, Nat.le_of_ble_eq_true rfl⟩) (g5_preS hPc hK hDc hN hT hS hFc) rfl rfl hl.1 rfl (lv_room (Nat.le_of_ble_eq_true rfl)) dX12_behindSum_65 ⟨Nat.le_of_ble_eq_true rfl, Nat.le_of_ble_eq_true rfl⟩) hS (fun q _ h => hFc q h) hFc (fun r u t H locs ht hvm hw hB hz1 hk1 hS => ?_)
                    obtain ⟨hP1, hD1⟩ := hB
                    have hP1 := g5_ht ht hP1
                    obtain ⟨rfl, rfl⟩ := hw
                    have hJ9 := g5_same hP hk1
                    clear hP hPc hDc hFc ht hvm hz1 hk1 hP1 hD1
                    have hP := hJ9
                    clear hJ9
                    obtain ⟨hPc, hDc, hFc⟩ := g5_sub3 (wc := [(b_o, (oc12 u_th u_sa b_rf b_ro b_im b_ke u_fd b_tp u_td u_fr u_to u_so u_wo u_fa u_bd u_nc b_nl u_co b_op b_ar u_le b_pi b_pa u_pd u_od b_ws b_hw u_la b_se b_re u_bk u_va u_su u_ce u_ho u_wy u_bt u_ps b_pt u_tg u_sn b_ip u_ic b_ah b_be b_me u_wd b_tr b_ld u_st b_wn u_id)), (b_op, (arI G 400 v_op)), (b_ar, (arI G 400 v_ar)), (b_pi, (arI G 400 v_pi)), (b_pa, (arI G 400 v_pa))]) hP hD hS hA [7, 1, 2, 3, 4] (by decide +kernel) rfl
                    refine va_callv (va_runV (As := [.int 6]) (rest := []) ⟨hx, hb, hml, hown, hts⟩ (n_settleX l G b_o b_op b_ar b_pi b_pa b_rf b_ro b_im b_ke b_tp b_nl b_ws b_hw b_se b_re b_pt b_ip b_ah b_be b_me b_tr b_ld b_wn H.size u_th u_sa u_fd u_td u_fr u_to u_so u_fa u_bd u_nc u_co u_le u_pd u_od u_la u_bk u_ce u_ho u_wy u_bt u_ps u_tg u_sn u_ic u_wd u_id 6 g_a u_fr u_wo u_va u_su u_st v_op v_ar v_pi v_pa g_op g_ar h_u_td h_u_fr h_u_to ⟨by omega, by omega⟩ h_u_nc h_u_co h_u_pd h_u_la h_u_bk h_u_ce h_u_ho h_u_wy h_u_bt h_u_ps h_u_ic h_u_id ⟨by decide, by decide⟩ (by omega) (e_x) (hE_95)) (cwV 1 hts gV_X12_288 rfl rfl rfl hv_X12_settle ⟨Nat.le_of_ble_eq_true rfl, Nat.le_of_ble_eq_true rfl⟩) (g5_preV hPc hK hDc hN hT hS hFc (ci := 12) (q0 := 0) rfl rfl) rfl rfl hl.1 rfl (lv_room (Nat.le_of_ble_eq_true rfl)) dX12_behindSum_68 ⟨Nat.le_of_ble_eq_true rfl, Nat.le_of_ble_eq_true rfl⟩) hS (fun q _ h => hFc q h) hFc (fun u t H locs ht hvm hw hB hz1 hk1 hS => ?_)
                    obtain ⟨hP1, hD1⟩ := hB
                    have hP1 := g5_ht ht hP1
                    obtain ⟨z104, z105, z106, z107, (i_96 : 0 ≤ z104.toInt ∧ z104.toInt ≤ 400), (i_97 : 0 ≤ z105.toInt ∧ z105.toInt ≤ 400), (i_98 : XJ g_op g_ar z106 z107 v_pi v_pa g_a.toInt z104.toInt z105.toInt u_fr.toInt), (i_99 : HJ z106 z107 v_pi v_pa g_a.toInt z104.toInt z105.toInt 1), (i_100 : stl (6 : Int32).toInt (plL v_pi v_pa u_pd.toInt.toNat) (v_op, v_ar, u_co.toInt.toNat) = (plL v_pi v_pa z105.toInt.toNat, (z106, z107, z104.toInt.toNat))), (i_101 : S1 v_pi u_pd.toInt z105.toInt), (i_102 : S2 v_pi z105.toInt (6 : Int32).toInt), (i_103 : z105.toInt ≤ u_pd.toInt), rfl⟩ := hw
                    have hJ9 := va_join (wr := [(b_tp, (arI G 400 v_tp)), (b_ws, (arJ G 8 v_ws)), (b_hw, (arJ G 4 v_hw))]) hP hD [7, 1, 2, 3, 4] [0, 5, 6] rfl rfl (by decide +kernel) (by decide +kernel) hk1 hFc hP1 hD1
                    clear hP hD hPc hDc hFc ht hvm hz1 hk1 hP1 hD1
                    obtain ⟨hP, hD⟩ := hJ9
                    refine g5_rs [(b_tp, (arI G 400 v_tp)), (b_ws, (arJ G 8 v_ws)), (b_hw, (arJ G 4 v_hw)), (b_o, (oc12 u_th u_sa b_rf b_ro b_im b_ke u_fd b_tp u_td u_fr u_to u_so u_wo u_fa u_bd u_nc b_nl z104 b_op b_ar u_le b_pi b_pa z105 u_od b_ws b_hw u_la b_se b_re u_bk u_va u_su u_ce u_ho u_wy u_bt u_ps b_pt u_tg u_sn b_ip u_ic b_ah b_be b_me u_wd b_tr b_ld u_st b_wn u_id)), (b_op, (arI G 400 z106)), (b_ar, (arI G 400 z107)), (b_pi, (arI G 400 v_pi)), (b_pa, (arI G 400 v_pa))] hP hD ?_
                    clear hP hD
                    intro hP hD
                    have hmf8 := xj_mf i_98
                    refine W.eq (g2 := F0 m 71 ls []) rfl ?_
                    refine lv_aload_n hx hb dX12_behindSum_71 rfl (lv_at hl 1 rfl) ?_
                    refine lv_iload_n hx hb dX12_behindSum_72 rfl (lv_at hl 0 rfl) ?_
                    refine lv_iconst (v := 0) hx hb dX12_behindSum_73 (by decide +kernel) ?_
                    obtain ⟨hPc, hDc, hFc⟩ := g5_sub3 (wc := [(b_o, (oc12 u_th u_sa b_rf b_ro b_im b_ke u_fd b_tp u_td u_fr u_to u_so u_wo u_fa u_bd u_nc b_nl z104 b_op b_ar u_le b_pi b_pa z105 u_od b_ws b_hw u_la b_se b_re u_bk u_va u_su u_ce u_ho u_wy u_bt u_ps b_pt u_tg u_sn b_ip u_ic b_ah b_be b_me u_wd b_tr b_ld u_st b_wn u_id)), (b_pi, (arI G 400 v_pi)), (b_pa, (arI G 400 v_pa))]) hP hD hS hA [3, 6, 7] (by decide +kernel) rfl
                    refine va_callv (va_runV (As := [.int 23, .int 0]) (rest := []) ⟨hx, hb, hml, hown, hts⟩ (n_push l G b_o b_pi b_pa b_rf b_ro b_im b_ke b_tp b_nl b_op b_ar b_ws b_hw b_se b_re b_pt b_ip b_ah b_be b_me b_tr b_ld b_wn H.size u_th u_sa u_fd u_td u_fr u_to u_so u_fa u_bd u_nc z104 u_le z105 u_od u_la u_bk u_ce u_ho u_wy u_bt u_ps u_tg u_sn u_ic u_wd u_id 23 0 u_wo u_va u_su u_st v_pi v_pa h_u_td h_u_fr h_u_to ⟨by omega, by omega⟩ h_u_nc i_96 i_97 h_u_la h_u_bk h_u_ce h_u_ho h_u_wy h_u_bt h_u_ps h_u_ic h_u_id (by omega)) (cwV 2 hts gV_X12_261 rfl rfl rfl hv_X12_push ⟨Nat.le_of_ble_eq_true rfl, Nat.le_of_ble_eq_true rfl⟩) (g5_preV hPc hK hDc hN hT hS hFc (ci := 12) (q0 := 0) rfl rfl) rfl rfl hl.1 rfl (lv_room (Nat.le_of_ble_eq_true rfl)) dX12_behindSum_74 ⟨Nat.le_of_ble_eq_true rfl, Nat.le_of_ble_eq_true rfl⟩) hS (fun q _ h => hFc q h) hFc (fun u t H locs ht hvm hw hB hz1 hk1 hS => ?_)
                    obtain ⟨hP1, hD1⟩ := hB
                    have hP1 := g5_ht ht hP1
                    obtain ⟨z110, (i_108 : 0 ≤ z110.toInt ∧ z110.toInt ≤ 400), (i_109 : z110.toInt = z105.toInt + 1), rfl⟩ := hw
                    have hJ9 := va_join (wr := [(b_tp, (arI G 400 v_tp)), (b_ws, (arJ G 8 v_ws)), (b_hw, (arJ G 4 v_hw)), (b_op, (arI G 400 z106)), (b_ar, (arI G 400 z107))]) hP hD [3, 6, 7] [0, 1, 2, 4, 5] rfl rfl (by decide +kernel) (by decide +kernel) hk1 hFc hP1 hD1
                    clear hP hD hPc hDc hFc ht hvm hz1 hk1 hP1 hD1
                    obtain ⟨hP, hD⟩ := hJ9
                    refine g5_rs [(b_tp, (arI G 400 v_tp)), (b_ws, (arJ G 8 v_ws)), (b_hw, (arJ G 4 v_hw)), (b_op, (arI G 400 z106)), (b_ar, (arI G 400 z107)), (b_o, (oc12 u_th u_sa b_rf b_ro b_im b_ke u_fd b_tp u_td u_fr u_to u_so u_wo u_fa u_bd u_nc b_nl z104 b_op b_ar u_le b_pi b_pa z110 u_od b_ws b_hw u_la b_se b_re u_bk u_va u_su u_ce u_ho u_wy u_bt u_ps b_pt u_tg u_sn b_ip u_ic b_ah b_be b_me u_wd b_tr b_ld u_st b_wn u_id)), (b_pi, (arI G 400 (upd v_pi z105.toNatClampNeg 23))), (b_pa, (arI G 400 (upd v_pa z105.toNatClampNeg 0)))] hP hD ?_
                    clear hP hD
                    intro hP hD
                    refine lv_aload_n hx hb dX12_behindSum_77 rfl (lv_at hl 1 rfl) ?_
                    refine W.eq (g2 := F0 m 78 ls [.ref b_o]) rfl ?_
                    obtain ⟨hPc, hDc, hFc⟩ := g5_sub3 (wc := [(b_o, (oc12 u_th u_sa b_rf b_ro b_im b_ke u_fd b_tp u_td u_fr u_to u_so u_wo u_fa u_bd u_nc b_nl z104 b_op b_ar u_le b_pi b_pa z110 u_od b_ws b_hw u_la b_se b_re u_bk u_va u_su u_ce u_ho u_wy u_bt u_ps b_pt u_tg u_sn b_ip u_ic b_ah b_be b_me u_wd b_tr b_ld u_st b_wn u_id)), (b_tp, (arI G 400 v_tp))]) hP hD hS hA [5, 0] (by decide +kernel) rfl
                    refine va_callv (va_runV (As := []) (rest := []) ⟨hx, hb, hml, hown, hts⟩ (n_nextX l G b_o b_tp b_rf b_ro b_im b_ke b_nl b_op b_ar b_pi b_pa b_ws b_hw b_se b_re b_pt b_ip b_ah b_be b_me b_tr b_ld b_wn H.size u_th u_sa u_fd u_td u_fr u_to u_so u_fa u_bd u_nc z104 u_le z110 u_od u_la u_bk u_ce u_ho u_wy u_bt u_ps u_tg u_sn u_ic u_wd u_id u_wo u_va u_su u_st v_tp h_u_td h_u_fr h_u_to ⟨by omega, by omega⟩ h_u_nc i_96 i_108 h_u_la h_u_bk h_u_ce h_u_ho h_u_wy h_u_bt h_u_ps h_u_ic h_u_id (by omega)) (cwV 0 hts gV_X12_208 rfl rfl rfl hv_X12_next ⟨Nat.le_of_ble_eq_true rfl, Nat.le_of_ble_eq_true rfl⟩) (g5_preV hPc hK hDc hN hT hS hFc (ci := 12) (q0 := 0) rfl rfl) rfl rfl hl.1 rfl (lv_room (Nat.le_of_ble_eq_true rfl)) dX12_behindSum_78 ⟨Nat.le_of_ble_eq_true rfl, Nat.le_of_ble_eq_true rfl⟩) hS (fun q _ h => hFc q h) hFc (fun u t H locs ht hvm hw hB hz1 hk1 hS => ?_)
                    obtain ⟨hP1, hD1⟩ := hB
                    have hP1 := g5_ht ht hP1
                    obtain ⟨z116, z117, z118, z119, (i_111 : 0 ≤ z116.toInt ∧ z116.toInt ≤ 400), (i_112 : 0 ≤ z117.toInt ∧ z117.toInt ≤ 400), (i_113 : u_to.toInt ≤ z116.toInt ∧ z116.toInt ≤ z117.toInt ∧ z117.toInt ≤ u_td.toInt), (i_114 : TKs z118.toInt z116.toInt z117.toInt), (i_115 : TOKA v_tp u_td.toInt.toNat (skT v_tp u_td.toInt.toNat u_to.toInt.toNat) z116 z117 z118 z119), rfl⟩ := hw
                    have hJ9 := va_join (wr := [(b_ws, (arJ G 8 v_ws)), (b_hw, (arJ G 4 v_hw)), (b_op, (arI G 400 z106)), (b_ar, (arI G 400 z107)), (b_pi, (arI G 400 (upd v_pi z105.toNatClampNeg 23))), (b_pa, (arI G 400 (upd v_pa z105.toNatClampNeg 0)))]) hP hD [5, 0] [1, 2, 3, 4, 6, 7] rfl rfl (by decide +kernel) (by decide +kernel) hk1 hFc hP1 hD1
                    clear hP hD hPc hDc hFc ht hvm hz1 hk1 hP1 hD1
                    obtain ⟨hP, hD⟩ := hJ9
                    refine g5_rs [(b_ws, (arJ G 8 v_ws)), (b_hw, (arJ G 4 v_hw)), (b_op, (arI G 400 z106)), (b_ar, (arI G 400 z107)), (b_pi, (arI G 400 (upd v_pi z105.toNatClampNeg 23))), (b_pa, (arI G 400 (upd v_pa z105.toNatClampNeg 0))), (b_o, (oc12 u_th u_sa b_rf b_ro b_im b_ke u_fd b_tp u_td z116 z117 z118 z119 u_fa u_bd u_nc b_nl z104 b_op b_ar u_le b_pi b_pa z110 u_od b_ws b_hw u_la b_se b_re u_bk u_va u_su u_ce u_ho u_wy u_bt u_ps b_pt u_tg u_sn b_ip u_ic b_ah b_be b_me u_wd b_tr b_ld u_st b_wn u_id)), (b_tp, (arI G 400 v_tp))] hP hD ?_
                    clear hP hD
                    intro hP hD
                    refine lv_iconst (v := 1) hx hb dX12_behindSum_81 (by decide +kernel) ?_
                    exact W.iret (v := 1) hx hb hr (fun t ht hW => ⟨⟨1, [(b_o, (oc12 u_th u_sa b_rf b_ro b_im b_ke u_fd b_tp u_td z116 z117 z118 z119 u_fa u_bd u_nc b_nl z104 b_op b_ar u_le b_pi b_pa z110 u_od b_ws b_hw u_la b_se b_re u_bk u_va u_su u_ce u_ho u_wy u_bt u_ps b_pt u_tg u_sn b_ip u_ic b_ah b_be b_me u_wd b_tr b_ld u_st b_wn u_id)), (b_tp, (arI G 400 v_tp)), (b_op, (arI G 400 z106)), (b_ar, (arI G 400 z107)), (b_pi, (arI G 400 (upd v_pi z105.toNatClampNeg 23))), (b_pa, (arI G 400 (upd v_pa z105.toNatClampNeg 0))), (b_ws, (arJ G 8 v_ws)), (b_hw, (arJ G 4 v_hw))], rfl, Or.inr (⟨1, z116, z117, z118, z119, z104, z110, u_od, z106, z107, (upd v_pi z105.toNatClampNeg 23), (upd v_pa z105.toNatClampNeg 0), i_111, i_112, i_96, i_108, ⟨by have zc_o_r : (1 : Int32).toInt = 1 := (by decide +kernel); omega, by have zc_o_r : (1 : Int32).toInt = 1 := (by decide +kernel); omega⟩, by omega, i_114, xj_push i_98 (by omega) (by omega) ⟨by decide, by decide⟩ (Or.inl (by decide +kernel)), tj_1 (hj_push2 i_99 (by omega) (by omega) ⟨by decide, by decide⟩ (Or.inl (by decide +kernel))) (by decide +kernel), by have w9 := (twt_0 (by decide +kernel) : twt (1 : Int32).toInt = 0); omega, rq_t (rq_op (o := 23) hRC hFD (by rw [((tk_sign e_tp hTK (by decide +kernel) (by decide +kernel) (c := 47)).mpr i_91)]; decide) (by decide +kernel) (stl_c i_100 (by decide +kernel)) (toka_nx hTK i_115) (by omega) (by omega) (by omega)) (by decide +kernel), rfl, rfl⟩), by rw [ht]; exact hP.sub [6, 7, 2, 3, 4, 5, 0, 1] rfl, hD.sub [6, 7, 2, 3, 4, 5, 0, 1] (by decide +kernel) rfl⟩, hS.F ht⟩) hS.2.2 dX12_behindSum_82
              ·
                have hJ9 := va_join (wr := [(b_tp, (arI G 400 v_tp)), (b_op, (arI G 400 v_op)), (b_ar, (arI G 400 v_ar)), (b_pi, (arI G 400 v_pi)), (b_pa, (arI G 400 v_pa)), (b_ws, (arJ G 8 v_ws)), (b_hw, (arJ G 4 v_hw))]) hP hD [7] [0, 1, 2, 3, 4, 5, 6] rfl rfl (by decide +kernel) (by decide +kernel) hk1 hFc hP1 hD1
                clear hP hD hPc hDc hFc ht hvm hz1 hk1 hP1 hD1
                obtain ⟨hP, hD⟩ := hJ9
                refine g5_rs [(b_tp, (arI G 400 v_tp)), (b_op, (arI G 400 v_op)), (b_ar, (arI G 400 v_ar)), (b_pi, (arI G 400 v_pi)), (b_pa, (arI G 400 v_pa)), (b_ws, (arJ G 8 v_ws)), (b_hw, (arJ G 4 v_hw)), (b_o, (oc12 u_th u_sa b_rf b_ro b_im b_ke u_fd b_tp u_td u_fr u_to u_so u_wo u_fa u_bd u_nc b_nl u_co b_op b_ar u_le b_pi b_pa u_pd u_od b_ws b_hw u_la b_se b_re u_bk u_va u_su u_ce u_ho u_wy u_bt u_ps b_pt u_tg u_sn b_ip u_ic b_ah b_be b_me u_wd b_tr b_ld u_st b_wn u_id))] hP hD ?_
                clear hP hD
                intro hP hD
                refine lv_if_eq (tgt := 56) hx hb dX12_behindSum_48 (by decide +kernel) (fun c_120 => ?_) (fun c_120 => ?_)
                ·
                  refine lv_iconst (v := (-1)) hx hb dX12_behindSum_56 (by decide +kernel) ?_
                  refine lv_istore_n (lv' := [(2, .int (-1)), (0, .ref b_o), (1, .int p_1)]) hx hb dX12_behindSum_57 rfl hl (by decide +kernel) rfl ?_
                  clear hl
                  intro ls hl
                  refine lv_iload_n hx hb dX12_behindSum_58 rfl (lv_at hl 0 rfl) ?_
                  refine lv_iconst (v := (-1)) hx hb dX12_behindSum_59 (by decide +kernel) ?_
                  refine W.eq (g2 := F0 m 60 ls [.int (-1), .int (-1)]) rfl ?_
                  refine lv_icmp_eq (tgt := 83) hx hb dX12_behindSum_60 (by decide +kernel) (fun c_121 => ?_) (fun c_121 => ?_)
                  ·
                    refine lv_aload_n hx hb dX12_behindSum_83 rfl (lv_at hl 1 rfl) ?_
                    obtain ⟨hPc, hDc, hFc⟩ := g5_sub3 (wc := [(b_o, (oc12 u_th u_sa b_rf b_ro b_im b_ke u_fd b_tp u_td u_fr u_to u_so u_wo u_fa u_bd u_nc b_nl u_co b_op b_ar u_le b_pi b_pa u_pd u_od b_ws b_hw u_la b_se b_re u_bk u_va u_su u_ce u_ho u_wy u_bt u_ps b_pt u_tg u_sn b_ip u_ic b_ah b_be b_me u_wd b_tr b_ld u_st b_wn u_id)), (b_pi, (arI G 400 v_pi)), (b_pa, (arI G 400 v_pa))]) hP hD hS hA [7, 3, 4] (by decide +kernel) rfl
                    refine va_calli (va_runV (As := []) (rest := []) ⟨hx, hb, hml, hown, hts⟩ (n_innerX l G b_o b_pi b_pa b_rf b_ro b_im b_ke b_tp b_nl b_op b_ar b_ws b_hw b_se b_re b_pt b_ip b_ah b_be b_me b_tr b_ld b_wn H.size u_th u_sa u_fd u_td u_fr u_to u_so u_fa u_bd u_nc u_co u_le u_pd u_od u_la u_bk u_ce u_ho u_wy u_bt u_ps u_tg u_sn u_ic u_wd u_id u_wo u_va u_su u_st v_pi v_pa h_u_td h_u_fr h_u_to ⟨by omega, by omega⟩ h_u_nc h_u_co h_u_pd h_u_la h_u_bk h_u_ce h_u_ho h_u_wy h_u_bt h_u_ps h_u_ic h_u_id) (cwV 0 hts gV_X12_291 rfl rfl rfl hv_X12_inner ⟨Nat.le_of_ble_eq_true rfl, Nat.le_of_ble_eq_true rfl⟩) (g5_preV hPc hK hDc hN hT hS hFc (ci := 12) (q0 := 0) rfl rfl) rfl rfl hl.1 rfl (lv_room (Nat.le_of_ble_eq_true rfl)) dX12_behindSum_84 ⟨Nat.le_of_ble_eq_true rfl, Nat.le_of_ble_eq_true rfl⟩) hS (fun q _ h => hFc q h) hFc (fun r u t H locs ht hvm hw hB hz1 hk1 hS => ?_)
                    obtain ⟨hP1, hD1⟩ := hB
                    have hP1 := g5_ht ht hP1
                    obtain ⟨z124, (i_122 : innP v_pi u_pd.toInt z124.toInt), (i_123 : z124.toInt = inr (plL v_pi v_pa u_pd.toInt.toNat)), y125, rfl⟩ := hw
                    have hJ9 := va_join (wr := [(b_tp, (arI G 400 v_tp)), (b_op, (arI G 400 v_op)), (b_ar, (arI G 400 v_ar)), (b_ws, (arJ G 8 v_ws)), (b_hw, (arJ G 4 v_hw))]) hP hD [7, 3, 4] [0, 1, 2, 5, 6] rfl rfl (by decide +kernel) (by decide +kernel) hk1 hFc hP1 hD1
                    clear hP hD hPc hDc hFc ht hvm hz1 hk1 hP1 hD1
                    obtain ⟨hP, hD⟩ := hJ9
                    refine g5_rs [(b_tp, (arI G 400 v_tp)), (b_op, (arI G 400 v_op)), (b_ar, (arI G 400 v_ar)), (b_ws, (arJ G 8 v_ws)), (b_hw, (arJ G 4 v_hw)), (b_o, (oc12 u_th u_sa b_rf b_ro b_im b_ke u_fd b_tp u_td u_fr u_to u_so u_wo u_fa u_bd u_nc b_nl u_co b_op b_ar u_le b_pi b_pa u_pd u_od b_ws b_hw u_la b_se b_re u_bk u_va u_su u_ce u_ho u_wy u_bt u_ps b_pt u_tg u_sn b_ip u_ic b_ah b_be b_me u_wd b_tr b_ld u_st b_wn u_id)), (b_pi, (arI G 400 v_pi)), (b_pa, (arI G 400 v_pa))] hP hD ?_
                    clear hP hD
                    intro hP hD
                    refine g5_ti (v := z124) y125 ?_
                    refine lv_istore_n (lv' := [(3, .int z124), (2, .int (-1)), (0, .ref b_o), (1, .int p_1)]) hx hb dX12_behindSum_87 rfl hl (by decide +kernel) rfl ?_
                    clear hl
                    intro ls hl
                    refine lv_iload_n hx hb dX12_behindSum_88 rfl (lv_at hl 0 rfl) ?_
                    refine W.eq (g2 := F0 m 89 ls [.int z124]) rfl ?_
                    refine lv_bipush (v := 31) hx hb dX12_behindSum_89 (by decide +kernel) ?_
                    refine lv_icmp_ne (tgt := 138) hx hb dX12_behindSum_91 (by decide +kernel) (fun c_126 => ?_) (fun c_126 => ?_)
                    ·
                      have n_126 : gNe (z124.toInt) (31) := g5_ne (a := z124.toInt) (b := 31) rfl (by decide +kernel) c_126
                      refine lv_iload_n hx hb dX12_behindSum_138 rfl (lv_at hl 0 rfl) ?_
                      refine lv_iconst (v := (-1)) hx hb dX12_behindSum_139 (by decide +kernel) ?_
                      refine lv_icmp_ne (tgt := 149) hx hb dX12_behindSum_140 (by decide +kernel) (fun c_127 => ?_) (fun c_127 => ?_)
                      ·
                        have n_127 : gNe (z124.toInt) ((-1)) := g5_ne (a := z124.toInt) (b := (-1)) rfl (by decide +kernel) c_127
                        refine lv_aload_n hx hb dX12_behindSum_149 rfl (lv_at hl 2 rfl) ?_
                        obtain ⟨hPc, hDc, hFc⟩ := g5_sub3 (wc := [(b_o, (oc12 u_th u_sa b_rf b_ro b_im b_ke u_fd b_tp u_td u_fr u_to u_so u_wo u_fa u_bd u_nc b_nl u_co b_op b_ar u_le b_pi b_pa u_pd u_od b_ws b_hw u_la b_se b_re u_bk u_va u_su u_ce u_ho u_wy u_bt u_ps b_pt u_tg u_sn b_ip u_ic b_ah b_be b_me u_wd b_tr b_ld u_st b_wn u_id)), (b_pi, (arI G 400 v_pi)), (b_pa, (arI G 400 v_pa))]) hP hD hS hA [5, 6, 7] (by decide +kernel) rfl
                        refine va_calli (va_runV (As := []) (rest := []) ⟨hx, hb, hml, hown, hts⟩ (n_isComparedX l G b_o b_pi b_pa b_rf b_ro b_im b_ke b_tp b_nl b_op b_ar b_ws b_hw b_se b_re b_pt b_ip b_ah b_be b_me b_tr b_ld b_wn H.size u_th u_sa u_fd u_td u_fr u_to u_so u_fa u_bd u_nc u_co u_le u_pd u_od u_la u_bk u_ce u_ho u_wy u_bt u_ps u_tg u_sn u_ic u_wd u_id u_wo u_va u_su u_st v_pi v_pa h_u_td h_u_fr h_u_to ⟨by omega, by omega⟩ h_u_nc h_u_co h_u_pd h_u_la h_u_bk h_u_ce h_u_ho h_u_wy h_u_bt h_u_ps h_u_ic h_u_id) (cwV 0 hts gV_X12_294 rfl rfl rfl hv_X12_isCompared ⟨Nat.le_of_ble_eq_true rfl, Nat.le_of_ble_eq_true rfl⟩) (g5_preV hPc hK hDc hN hT hS hFc (ci := 12) (q0 := 0) rfl rfl) rfl rfl hl.1 rfl (lv_room (Nat.le_of_ble_eq_true rfl)) dX12_behindSum_150 ⟨Nat.le_of_ble_eq_true rfl, Nat.le_of_ble_eq_true rfl⟩) hS (fun q _ h => hFc q h) hFc (fun r u t H locs ht hvm hw hB hz1 hk1 hS => ?_)
                        obtain ⟨hP1, hD1⟩ := hB
                        have hP1 := g5_ht ht hP1
                        rcases hw with ⟨(i_128 : cmpd (plL v_pi v_pa u_pd.toInt.toNat) = true), rfl, rfl⟩ | ⟨(i_129 : cmpd (plL v_pi v_pa u_pd.toInt.toNat) = false), rfl, rfl⟩
                        ·
                          have hJ9 := va_join (wr := [(b_tp, (arI G 400 v_tp)), (b_op, (arI G 400 v_op)), (b_ar, (arI G 400 v_ar)), (b_ws, (arJ G 8 v_ws)), (b_hw, (arJ G 4 v_hw))]) hP hD [5, 6, 7] [0, 1, 2, 3, 4] rfl rfl (by decide +kernel) (by decide +kernel) hk1 hFc hP1 hD1
                          clear hP hD hPc hDc hFc ht hvm hz1 hk1 hP1 hD1
                          obtain ⟨hP, hD⟩ := hJ9
                          refine g5_rs [(b_tp, (arI G 400 v_tp)), (b_op, (arI G 400 v_op)), (b_ar, (arI G 400 v_ar)), (b_ws, (arJ G 8 v_ws)), (b_hw, (arJ G 4 v_hw)), (b_o, (oc12 u_th u_sa b_rf b_ro b_im b_ke u_fd b_tp u_td u_fr u_to u_so u_wo u_fa u_bd u_nc b_nl u_co b_op b_ar u_le b_pi b_pa u_pd u_od b_ws b_hw u_la b_se b_re u_bk u_va u_su u_ce u_ho u_wy u_bt u_ps b_pt u_tg u_sn b_ip u_ic b_ah b_be b_me u_wd b_tr b_ld u_st b_wn u_id)), (b_pi, (arI G 400 v_pi)), (b_pa, (arI G 400 v_pa))] hP hD ?_
                          clear hP hD
                          intro hP hD
                          refine lv_if_eq (tgt := 158) hx hb dX12_behindSum_153 (by decide +kernel) (fun c_130 => ?_) (fun c_130 => ?_)
                          ·
                            exact absurd c_130 (by decide +kernel)
                          ·
                            refine lv_iconst (v := 2) hx hb dX12_behindSum_156 (by decide +kernel) ?_
                            exact W.iret (v := 2) hx hb hr (fun t ht hW => ⟨⟨2, [(b_o, (oc12 u_th u_sa b_rf b_ro b_im b_ke u_fd b_tp u_td u_fr u_to u_so u_wo u_fa u_bd u_nc b_nl u_co b_op b_ar u_le b_pi b_pa u_pd u_od b_ws b_hw u_la b_se b_re u_bk u_va u_su u_ce u_ho u_wy u_bt u_ps b_pt u_tg u_sn b_ip u_ic b_ah b_be b_me u_wd b_tr b_ld u_st b_wn u_id)), (b_tp, (arI G 400 v_tp)), (b_op, (arI G 400 v_op)), (b_ar, (arI G 400 v_ar)), (b_pi, (arI G 400 v_pi)), (b_pa, (arI G 400 v_pa)), (b_ws, (arJ G 8 v_ws)), (b_hw, (arJ G 4 v_hw))], rfl, Or.inr (⟨2, u_fr, u_to, u_so, u_wo, u_co, u_pd, u_od, v_op, v_ar, v_pi, v_pa, h_u_fr, h_u_to, h_u_co, h_u_pd, ⟨by have zc_o_r : (2 : Int32).toInt = 2 := (by decide +kernel); omega, by have zc_o_r : (2 : Int32).toInt = 2 := (by decide +kernel); omega⟩, by omega, e_s, e_x, tj_2 (tj_d1 e_j (by decide +kernel)) (by decide +kernel) (inn_no31 i_122 (tj_d1 e_j (by decide +kernel)) n_126), by have w9 := (twt_2 (by decide +kernel) : twt (2 : Int32).toInt = 1); omega, rq_t (rq_told hRC hFD (opM_0 (fun q8 => i_2 ((tk_sign e_tp hTK (by decide +kernel) (by decide +kernel) (c := 43)).mp q8)) (fun q8 => i_32 ((tk_sign e_tp hTK (by decide +kernel) (by decide +kernel) (c := 45)).mp q8)) (fun q8 => i_62 ((tk_sign e_tp hTK (by decide +kernel) (by decide +kernel) (c := 42)).mp q8)) (fun q8 => i_92 ((tk_sign e_tp hTK (by decide +kernel) (by decide +kernel) (c := 47)).mp q8))) (by rw [← i_123]; first | omega | (unfold gNe at *; omega)) (by rw [← i_123]; first | omega | (unfold gNe at *; omega)) i_128) (by decide +kernel), rfl, rfl⟩), by rw [ht]; exact hP.sub [5, 0, 1, 2, 6, 7, 3, 4] rfl, hD.sub [5, 0, 1, 2, 6, 7, 3, 4] (by decide +kernel) rfl⟩, hS.F ht⟩) hS.2.2 dX12_behindSum_157
                        ·
                          have hJ9 := va_join (wr := [(b_tp, (arI G 400 v_tp)), (b_op, (arI G 400 v_op)), (b_ar, (arI G 400 v_ar)), (b_ws, (arJ G 8 v_ws)), (b_hw, (arJ G 4 v_hw))]) hP hD [5, 6, 7] [0, 1, 2, 3, 4] rfl rfl (by decide +kernel) (by decide +kernel) hk1 hFc hP1 hD1
                          clear hP hD hPc hDc hFc ht hvm hz1 hk1 hP1 hD1
                          obtain ⟨hP, hD⟩ := hJ9
                          refine g5_rs [(b_tp, (arI G 400 v_tp)), (b_op, (arI G 400 v_op)), (b_ar, (arI G 400 v_ar)), (b_ws, (arJ G 8 v_ws)), (b_hw, (arJ G 4 v_hw)), (b_o, (oc12 u_th u_sa b_rf b_ro b_im b_ke u_fd b_tp u_td u_fr u_to u_so u_wo u_fa u_bd u_nc b_nl u_co b_op b_ar u_le b_pi b_pa u_pd u_od b_ws b_hw u_la b_se b_re u_bk u_va u_su u_ce u_ho u_wy u_bt u_ps b_pt u_tg u_sn b_ip u_ic b_ah b_be b_me u_wd b_tr b_ld u_st b_wn u_id)), (b_pi, (arI G 400 v_pi)), (b_pa, (arI G 400 v_pa))] hP hD ?_
                          clear hP hD
                          intro hP hD
                          refine lv_if_eq (tgt := 158) hx hb dX12_behindSum_153 (by decide +kernel) (fun c_131 => ?_) (fun c_131 => ?_)
                          ·
                            refine lv_aload_n hx hb dX12_behindSum_158 rfl (lv_at hl 2 rfl) ?_
                            refine lv_bipush (v := 60) hx hb dX12_behindSum_159 (by decide +kernel) ?_
                            obtain ⟨hPc, hDc, hFc⟩ := g5_sub3 (wc := [(b_o, (oc12 u_th u_sa b_rf b_ro b_im b_ke u_fd b_tp u_td u_fr u_to u_so u_wo u_fa u_bd u_nc b_nl u_co b_op b_ar u_le b_pi b_pa u_pd u_od b_ws b_hw u_la b_se b_re u_bk u_va u_su u_ce u_ho u_wy u_bt u_ps b_pt u_tg u_sn b_ip u_ic b_ah b_be b_me u_wd b_tr b_ld u_st b_wn u_id))]) hP hD hS hA [5] (by decide +kernel) rfl
                            refine va_calli (va_runV (As := [.int 60]) (rest := []) ⟨hx, hb, hml, hown, hts⟩ (n_isSignX60 l G b_o b_rf b_ro b_im b_ke b_tp b_nl b_op b_ar b_pi b_pa b_ws b_hw b_se b_re b_pt b_ip b_ah b_be b_me b_tr b_ld b_wn H.size u_th u_sa u_fd u_td u_fr u_to u_so u_fa u_bd u_nc u_co u_le u_pd u_od u_la u_bk u_ce u_ho u_wy u_bt u_ps u_tg u_sn u_ic u_wd u_id u_wo u_va u_su u_st h_u_td h_u_fr h_u_to ⟨by omega, by omega⟩ h_u_nc h_u_co h_u_pd h_u_la h_u_bk h_u_ce h_u_ho h_u_wy h_u_bt h_u_ps h_u_ic h_u_id) (cwV 1 hts gV_X12_267 rfl rfl rfl hv_X12_isSign ⟨Nat.le_of_ble_eq_true rfl, Nat.le_of_ble_eq_true rfl⟩) (g5_preV hPc hK hDc hN hT hS hFc (ci := 12) (q0 := 0) rfl rfl) rfl rfl hl.1 rfl (lv_room (Nat.le_of_ble_eq_true rfl)) dX12_behindSum_161 ⟨Nat.le_of_ble_eq_true rfl, Nat.le_of_ble_eq_true rfl⟩) hS (fun q _ h => hFc q h) hFc (fun r u t H locs ht hvm hw hB hz1 hk1 hS => ?_)
                            obtain ⟨hP1, hD1⟩ := hB
                            have hP1 := g5_ht ht hP1
                            rcases hw with ⟨(i_132 : u_so.toInt = 3 ∧ u_wo.toInt = 60), rfl, rfl⟩ | ⟨(i_133 : ¬ (u_so.toInt = 3 ∧ u_wo.toInt = 60)), rfl, rfl⟩
                            ·
                              have hJ9 := va_join (wr := [(b_tp, (arI G 400 v_tp)), (b_op, (arI G 400 v_op)), (b_ar, (arI G 400 v_ar)), (b_ws, (arJ G 8 v_ws)), (b_hw, (arJ G 4 v_hw)), (b_pi, (arI G 400 v_pi)), (b_pa, (arI G 400 v_pa))]) hP hD [5] [0, 1, 2, 3, 4, 6, 7] rfl rfl (by decide +kernel) (by decide +kernel) hk1 hFc hP1 hD1
                              clear hP hD hPc hDc hFc ht hvm hz1 hk1 hP1 hD1
                              obtain ⟨hP, hD⟩ := hJ9
                              refine g5_rs [(b_tp, (arI G 400 v_tp)), (b_op, (arI G 400 v_op)), (b_ar, (arI G 400 v_ar)), (b_ws, (arJ G 8 v_ws)), (b_hw, (arJ G 4 v_hw)), (b_pi, (arI G 400 v_pi)), (b_pa, (arI G 400 v_pa)), (b_o, (oc12 u_th u_sa b_rf b_ro b_im b_ke u_fd b_tp u_td u_fr u_to u_so u_wo u_fa u_bd u_nc b_nl u_co b_op b_ar u_le b_pi b_pa u_pd u_od b_ws b_hw u_la b_se b_re u_bk u_va u_su u_ce u_ho u_wy u_bt u_ps b_pt u_tg u_sn b_ip u_ic b_ah b_be b_me u_wd b_tr b_ld u_st b_wn u_id))] hP hD ?_
                              clear hP hD
                              intro hP hD
                              refine lv_if_eq (tgt := 172) hx hb dX12_behindSum_164 (by decide +kernel) (fun c_134 => ?_) (fun c_134 => ?_)
                              ·
                                exact absurd c_134 (by decide +kernel)
                              ·
                                refine lv_bipush (v := 24) hx hb dX12_behindSum_167 (by decide +kernel) ?_
                                refine lv_goto (tgt := 188) hx hb dX12_behindSum_169 (by decide +kernel) ?_
                                refine lv_istore_n (lv' := [(2, .int 24), (3, .int z124), (0, .ref b_o), (1, .int p_1)]) hx hb dX12_behindSum_188 rfl hl (by decide +kernel) rfl ?_
                                clear hl
                                intro ls hl
                                refine lv_aload_n hx hb dX12_behindSum_189 rfl (lv_at hl 2 rfl) ?_
                                refine W.eq (g2 := F0 m 190 ls [.ref b_o]) rfl ?_
                                refine lv_iload_n hx hb dX12_behindSum_190 rfl (lv_at hl 0 rfl) ?_
                                refine lv_bipush (v := 26) hx hb dX12_behindSum_191 (by decide +kernel) ?_
                                refine lv_icmp_ne (tgt := 205) hx hb dX12_behindSum_193 (by decide +kernel) (fun c_135 => ?_) (fun c_135 => ?_)
                                ·
                                  refine lv_iconst (v := 1) hx hb dX12_behindSum_205 (by decide +kernel) ?_
                                  refine lv_goto (tgt := 210) hx hb dX12_behindSum_206 (by decide +kernel) ?_
                                  have hlt9 : u_fr.toInt < u_to.toInt := tks_lt e_s (by omega)
                                  obtain ⟨hPc, hDc, hFc⟩ := g5_sub3 (wc := [(b_o, (oc12 u_th u_sa b_rf b_ro b_im b_ke u_fd b_tp u_td u_fr u_to u_so u_wo u_fa u_bd u_nc b_nl u_co b_op b_ar u_le b_pi b_pa u_pd u_od b_ws b_hw u_la b_se b_re u_bk u_va u_su u_ce u_ho u_wy u_bt u_ps b_pt u_tg u_sn b_ip u_ic b_ah b_be b_me u_wd b_tr b_ld u_st b_wn u_id)), (b_tp, (arI G 400 v_tp))]) hP hD hS hA [7, 0] (by decide +kernel) rfl
                                  refine va_callv (va_runV (As := [.int 1]) (rest := []) ⟨hx, hb, hml, hown, hts⟩ (n_must1X l G b_o b_tp b_rf b_ro b_im b_ke b_nl b_op b_ar b_pi b_pa b_ws b_hw b_se b_re b_pt b_ip b_ah b_be b_me b_tr b_ld b_wn H.size u_th u_sa u_fd u_td u_fr u_to u_so u_fa u_bd u_nc u_co u_le u_pd u_od u_la u_bk u_ce u_ho u_wy u_bt u_ps u_tg u_sn u_ic u_wd u_id u_wo u_va u_su u_st v_tp h_u_td h_u_fr h_u_to h_u_bd h_u_nc h_u_co h_u_pd h_u_la h_u_bk h_u_ce h_u_ho h_u_wy h_u_bt h_u_ps h_u_ic h_u_id (by omega)) (cwV 1 hts gV_X12_233 rfl rfl rfl hv_X12_must ⟨Nat.le_of_ble_eq_true rfl, Nat.le_of_ble_eq_true rfl⟩) (g5_preV hPc hK hDc hN hT hS hFc (ci := 12) (q0 := 0) rfl rfl) rfl rfl hl.1 rfl (lv_room (Nat.le_of_ble_eq_true rfl)) dX12_behindSum_210 ⟨Nat.le_of_ble_eq_true rfl, Nat.le_of_ble_eq_true rfl⟩) hS (fun q _ h => hFc q h) hFc (fun u t H locs ht hvm hw hB hz1 hk1 hS => ?_)
                                  obtain ⟨hP1, hD1⟩ := hB
                                  have hP1 := g5_ht ht hP1
                                  obtain ⟨z141, z142, z143, z144, (i_136 : 0 ≤ z141.toInt ∧ z141.toInt ≤ 400), (i_137 : 0 ≤ z142.toInt ∧ z142.toInt ≤ 400), (i_138 : u_to.toInt ≤ z141.toInt ∧ z141.toInt ≤ z142.toInt ∧ z142.toInt ≤ u_td.toInt), (i_139 : TKs z143.toInt z141.toInt z142.toInt), (i_140 : TOKA v_tp u_td.toInt.toNat (skT v_tp u_td.toInt.toNat u_to.toInt.toNat) z141 z142 z143 z144), rfl⟩ := hw
                                  have hJ9 := va_join (wr := [(b_op, (arI G 400 v_op)), (b_ar, (arI G 400 v_ar)), (b_ws, (arJ G 8 v_ws)), (b_hw, (arJ G 4 v_hw)), (b_pi, (arI G 400 v_pi)), (b_pa, (arI G 400 v_pa))]) hP hD [7, 0] [1, 2, 3, 4, 5, 6] rfl rfl (by decide +kernel) (by decide +kernel) hk1 hFc hP1 hD1
                                  clear hP hD hPc hDc hFc ht hvm hz1 hk1 hP1 hD1
                                  obtain ⟨hP, hD⟩ := hJ9
                                  refine g5_rs [(b_op, (arI G 400 v_op)), (b_ar, (arI G 400 v_ar)), (b_ws, (arJ G 8 v_ws)), (b_hw, (arJ G 4 v_hw)), (b_pi, (arI G 400 v_pi)), (b_pa, (arI G 400 v_pa)), (b_o, (oc12 u_th u_sa b_rf b_ro b_im b_ke u_fd b_tp u_td z141 z142 z143 z144 u_fa u_bd u_nc b_nl u_co b_op b_ar u_le b_pi b_pa u_pd u_od b_ws b_hw u_la b_se b_re u_bk u_va u_su u_ce u_ho u_wy u_bt u_ps b_pt u_tg u_sn b_ip u_ic b_ah b_be b_me u_wd b_tr b_ld u_st b_wn u_id)), (b_tp, (arI G 400 v_tp))] hP hD ?_
                                  clear hP hD
                                  intro hP hD
                                  refine lv_aload_n hx hb dX12_behindSum_213 rfl (lv_at hl 2 rfl) ?_
                                  refine W.eq (g2 := F0 m 214 ls [.ref b_o]) rfl ?_
                                  refine va_get (D := G.1) (ci := 12) (v := .int u_bd) (C := RX12) (T := TX12) (N := 52) hx hb hts inG_X12 hown hK hP 6 rfl rfl 14 (by decide +kernel) (hts _ fl_X12_205) (fun _ h9 => h9) rfl dX12_behindSum_214 ?_
                                  refine lv_if_ne (tgt := 231) hx hb dX12_behindSum_217 (by decide +kernel) (fun c_145 => ?_) (fun c_145 => ?_)
                                  ·
                                    have i_145 : u_bd.toInt ≠ 0 := g5_ne (a := u_bd.toInt) (b := 0) rfl (by decide +kernel) c_145
                                    omega
                                  ·
                                    have i_145 : u_bd.toInt = 0 := g5_neN (a := u_bd.toInt) (b := 0) rfl (by decide +kernel) c_145
                                    have hE_146 : HJ v_op v_ar v_pi v_pa g_a.toInt u_co.toInt u_pd.toInt 1 := tj_d1 e_j (by decide +kernel)
                                    refine lv_aload_n hx hb dX12_behindSum_220 rfl (lv_at hl 2 rfl) ?_
                                    refine lv_iconst (v := 5) hx hb dX12_behindSum_221 (by decide +kernel) ?_
                                    obtain ⟨hPc, hDc, hFc⟩ := g5_sub3 (wc := [(b_o, (oc12 u_th u_sa b_rf b_ro b_im b_ke u_fd b_tp u_td z141 z142 z143 z144 u_fa u_bd u_nc b_nl u_co b_op b_ar u_le b_pi b_pa u_pd u_od b_ws b_hw u_la b_se b_re u_bk u_va u_su u_ce u_ho u_wy u_bt u_ps b_pt u_tg u_sn b_ip u_ic b_ah b_be b_me u_wd b_tr b_ld u_st b_wn u_id)), (b_op, (arI G 400 v_op)), (b_ar, (arI G 400 v_ar)), (b_pi, (arI G 400 v_pi)), (b_pa, (arI G 400 v_pa))]) hP hD hS hA [6, 0, 1, 4, 5] (by decide +kernel) rfl
                                    refine va_callv (va_runV (As := [.int 5]) (rest := []) ⟨hx, hb, hml, hown, hts⟩ (n_settleX l G b_o b_op b_ar b_pi b_pa b_rf b_ro b_im b_ke b_tp b_nl b_ws b_hw b_se b_re b_pt b_ip b_ah b_be b_me b_tr b_ld b_wn H.size u_th u_sa u_fd u_td z141 z142 z143 u_fa u_bd u_nc u_co u_le u_pd u_od u_la u_bk u_ce u_ho u_wy u_bt u_ps u_tg u_sn u_ic u_wd u_id 5 g_a u_fr z144 u_va u_su u_st v_op v_ar v_pi v_pa g_op g_ar h_u_td i_136 i_137 ⟨by omega, by omega⟩ h_u_nc h_u_co h_u_pd h_u_la h_u_bk h_u_ce h_u_ho h_u_wy h_u_bt h_u_ps h_u_ic h_u_id ⟨by decide, by decide⟩ (by omega) (e_x) (hE_146)) (cwV 1 hts gV_X12_288 rfl rfl rfl hv_X12_settle ⟨Nat.le_of_ble_eq_true rfl, Nat.le_of_ble_eq_true rfl⟩) (g5_preV hPc hK hDc hN hT hS hFc (ci := 12) (q0 := 0) rfl rfl) rfl rfl hl.1 rfl (lv_room (Nat.le_of_ble_eq_true rfl)) dX12_behindSum_222 ⟨Nat.le_of_ble_eq_true rfl, Nat.le_of_ble_eq_true rfl⟩) hS (fun q _ h => hFc q h) hFc (fun u t H locs ht hvm hw hB hz1 hk1 hS => ?_)
                                    obtain ⟨hP1, hD1⟩ := hB
                                    have hP1 := g5_ht ht hP1
                                    obtain ⟨z155, z156, z157, z158, (i_147 : 0 ≤ z155.toInt ∧ z155.toInt ≤ 400), (i_148 : 0 ≤ z156.toInt ∧ z156.toInt ≤ 400), (i_149 : XJ g_op g_ar z157 z158 v_pi v_pa g_a.toInt z155.toInt z156.toInt u_fr.toInt), (i_150 : HJ z157 z158 v_pi v_pa g_a.toInt z155.toInt z156.toInt 1), (i_151 : stl (5 : Int32).toInt (plL v_pi v_pa u_pd.toInt.toNat) (v_op, v_ar, u_co.toInt.toNat) = (plL v_pi v_pa z156.toInt.toNat, (z157, z158, z155.toInt.toNat))), (i_152 : S1 v_pi u_pd.toInt z156.toInt), (i_153 : S2 v_pi z156.toInt (5 : Int32).toInt), (i_154 : z156.toInt ≤ u_pd.toInt), rfl⟩ := hw
                                    have hJ9 := va_join (wr := [(b_ws, (arJ G 8 v_ws)), (b_hw, (arJ G 4 v_hw)), (b_tp, (arI G 400 v_tp))]) hP hD [6, 0, 1, 4, 5] [2, 3, 7] rfl rfl (by decide +kernel) (by decide +kernel) hk1 hFc hP1 hD1
                                    clear hP hD hPc hDc hFc ht hvm hz1 hk1 hP1 hD1
                                    obtain ⟨hP, hD⟩ := hJ9
                                    refine g5_rs [(b_ws, (arJ G 8 v_ws)), (b_hw, (arJ G 4 v_hw)), (b_tp, (arI G 400 v_tp)), (b_o, (oc12 u_th u_sa b_rf b_ro b_im b_ke u_fd b_tp u_td z141 z142 z143 z144 u_fa u_bd u_nc b_nl z155 b_op b_ar u_le b_pi b_pa z156 u_od b_ws b_hw u_la b_se b_re u_bk u_va u_su u_ce u_ho u_wy u_bt u_ps b_pt u_tg u_sn b_ip u_ic b_ah b_be b_me u_wd b_tr b_ld u_st b_wn u_id)), (b_op, (arI G 400 z157)), (b_ar, (arI G 400 z158)), (b_pi, (arI G 400 v_pi)), (b_pa, (arI G 400 v_pa))] hP hD ?_
                                    clear hP hD
                                    intro hP hD
                                    have hmf8 := xj_mf i_149
                                    refine lv_aload_n hx hb dX12_behindSum_225 rfl (lv_at hl 2 rfl) ?_
                                    refine W.eq (g2 := F0 m 226 ls [.ref b_o]) rfl ?_
                                    refine lv_iload_n hx hb dX12_behindSum_226 rfl (lv_at hl 0 rfl) ?_
                                    refine lv_iconst (v := 0) hx hb dX12_behindSum_227 (by decide +kernel) ?_
                                    obtain ⟨hPc, hDc, hFc⟩ := g5_sub3 (wc := [(b_o, (oc12 u_th u_sa b_rf b_ro b_im b_ke u_fd b_tp u_td z141 z142 z143 z144 u_fa u_bd u_nc b_nl z155 b_op b_ar u_le b_pi b_pa z156 u_od b_ws b_hw u_la b_se b_re u_bk u_va u_su u_ce u_ho u_wy u_bt u_ps b_pt u_tg u_sn b_ip u_ic b_ah b_be b_me u_wd b_tr b_ld u_st b_wn u_id)), (b_pi, (arI G 400 v_pi)), (b_pa, (arI G 400 v_pa))]) hP hD hS hA [3, 6, 7] (by decide +kernel) rfl
                                    refine va_callv (va_runV (As := [.int 24, .int 0]) (rest := []) ⟨hx, hb, hml, hown, hts⟩ (n_push l G b_o b_pi b_pa b_rf b_ro b_im b_ke b_tp b_nl b_op b_ar b_ws b_hw b_se b_re b_pt b_ip b_ah b_be b_me b_tr b_ld b_wn H.size u_th u_sa u_fd u_td z141 z142 z143 u_fa u_bd u_nc z155 u_le z156 u_od u_la u_bk u_ce u_ho u_wy u_bt u_ps u_tg u_sn u_ic u_wd u_id 24 0 z144 u_va u_su u_st v_pi v_pa h_u_td i_136 i_137 ⟨by omega, by omega⟩ h_u_nc i_147 i_148 h_u_la h_u_bk h_u_ce h_u_ho h_u_wy h_u_bt h_u_ps h_u_ic h_u_id (by omega)) (cwV 2 hts gV_X12_261 rfl rfl rfl hv_X12_push ⟨Nat.le_of_ble_eq_true rfl, Nat.le_of_ble_eq_true rfl⟩) (g5_preV hPc hK hDc hN hT hS hFc (ci := 12) (q0 := 0) rfl rfl) rfl rfl hl.1 rfl (lv_room (Nat.le_of_ble_eq_true rfl)) dX12_behindSum_228 ⟨Nat.le_of_ble_eq_true rfl, Nat.le_of_ble_eq_true rfl⟩) hS (fun q _ h => hFc q h) hFc (fun u t H locs ht hvm hw hB hz1 hk1 hS => ?_)
                                    obtain ⟨hP1, hD1⟩ := hB
                                    have hP1 := g5_ht ht hP1
                                    obtain ⟨z161, (i_159 : 0 ≤ z161.toInt ∧ z161.toInt ≤ 400), (i_160 : z161.toInt = z156.toInt + 1), rfl⟩ := hw
                                    have hJ9 := va_join (wr := [(b_ws, (arJ G 8 v_ws)), (b_hw, (arJ G 4 v_hw)), (b_tp, (arI G 400 v_tp)), (b_op, (arI G 400 z157)), (b_ar, (arI G 400 z158))]) hP hD [3, 6, 7] [0, 1, 2, 4, 5] rfl rfl (by decide +kernel) (by decide +kernel) hk1 hFc hP1 hD1
                                    clear hP hD hPc hDc hFc ht hvm hz1 hk1 hP1 hD1
                                    obtain ⟨hP, hD⟩ := hJ9
                                    refine g5_rs [(b_ws, (arJ G 8 v_ws)), (b_hw, (arJ G 4 v_hw)), (b_tp, (arI G 400 v_tp)), (b_op, (arI G 400 z157)), (b_ar, (arI G 400 z158)), (b_o, (oc12 u_th u_sa b_rf b_ro b_im b_ke u_fd b_tp u_td z141 z142 z143 z144 u_fa u_bd u_nc b_nl z155 b_op b_ar u_le b_pi b_pa z161 u_od b_ws b_hw u_la b_se b_re u_bk u_va u_su u_ce u_ho u_wy u_bt u_ps b_pt u_tg u_sn b_ip u_ic b_ah b_be b_me u_wd b_tr b_ld u_st b_wn u_id)), (b_pi, (arI G 400 (upd v_pi z156.toNatClampNeg 24))), (b_pa, (arI G 400 (upd v_pa z156.toNatClampNeg 0)))] hP hD ?_
                                    clear hP hD
                                    intro hP hD
                                    refine lv_iconst (v := 1) hx hb dX12_behindSum_231 (by decide +kernel) ?_
                                    exact W.iret (v := 1) hx hb hr (fun t ht hW => ⟨⟨1, [(b_o, (oc12 u_th u_sa b_rf b_ro b_im b_ke u_fd b_tp u_td z141 z142 z143 z144 u_fa u_bd u_nc b_nl z155 b_op b_ar u_le b_pi b_pa z161 u_od b_ws b_hw u_la b_se b_re u_bk u_va u_su u_ce u_ho u_wy u_bt u_ps b_pt u_tg u_sn b_ip u_ic b_ah b_be b_me u_wd b_tr b_ld u_st b_wn u_id)), (b_tp, (arI G 400 v_tp)), (b_op, (arI G 400 z157)), (b_ar, (arI G 400 z158)), (b_pi, (arI G 400 (upd v_pi z156.toNatClampNeg 24))), (b_pa, (arI G 400 (upd v_pa z156.toNatClampNeg 0))), (b_ws, (arJ G 8 v_ws)), (b_hw, (arJ G 4 v_hw))], rfl, Or.inr (⟨1, z141, z142, z143, z144, z155, z161, u_od, z157, z158, (upd v_pi z156.toNatClampNeg 24), (upd v_pa z156.toNatClampNeg 0), i_136, i_137, i_147, i_159, ⟨by have zc_o_r : (1 : Int32).toInt = 1 := (by decide +kernel); omega, by have zc_o_r : (1 : Int32).toInt = 1 := (by decide +kernel); omega⟩, by omega, i_139, xj_push i_149 (by omega) (by omega) ⟨by decide, by decide⟩ (Or.inl (by decide +kernel)), tj_1 (hj_push2 i_150 (by omega) (by omega) ⟨by decide, by decide⟩ (Or.inr (no31_le (inn_no31 i_122 (tj_d1 e_j (by decide +kernel)) n_126) (by omega)))) (by decide +kernel), by have w9 := (twt_0 (by decide +kernel) : twt (1 : Int32).toInt = 0); omega, rq_t (rq_cmp (o := 24) hRC hFD (by rw [((tk_sign e_tp hTK (by decide +kernel) (by decide +kernel) (c := 60)).mpr i_132)]; decide) (by decide +kernel) (opM_0 (fun q8 => i_2 ((tk_sign e_tp hTK (by decide +kernel) (by decide +kernel) (c := 43)).mp q8)) (fun q8 => i_32 ((tk_sign e_tp hTK (by decide +kernel) (by decide +kernel) (c := 45)).mp q8)) (fun q8 => i_62 ((tk_sign e_tp hTK (by decide +kernel) (by decide +kernel) (c := 42)).mp q8)) (fun q8 => i_92 ((tk_sign e_tp hTK (by decide +kernel) (by decide +kernel) (c := 47)).mp q8))) (by rw [← i_123]; first | omega | (unfold gNe at *; omega)) (by rw [← i_123]; first | omega | (unfold gNe at *; omega)) i_129 (stl_c i_151 (by decide +kernel)) (toka_nx hTK i_140) (by omega) (by omega) (by omega)) (by decide +kernel), rfl, rfl⟩), by rw [ht]; exact hP.sub [5, 2, 3, 4, 6, 7, 0, 1] rfl, hD.sub [5, 2, 3, 4, 6, 7, 0, 1] (by decide +kernel) rfl⟩, hS.F ht⟩) hS.2.2 dX12_behindSum_232
                                ·
                                  exact absurd c_135 (by decide +kernel)
                            ·
                              have hJ9 := va_join (wr := [(b_tp, (arI G 400 v_tp)), (b_op, (arI G 400 v_op)), (b_ar, (arI G 400 v_ar)), (b_ws, (arJ G 8 v_ws)), (b_hw, (arJ G 4 v_hw)), (b_pi, (arI G 400 v_pi)), (b_pa, (arI G 400 v_pa))]) hP hD [5] [0, 1, 2, 3, 4, 6, 7] rfl rfl (by decide +kernel) (by decide +kernel) hk1 hFc hP1 hD1
                              clear hP hD hPc hDc hFc ht hvm hz1 hk1 hP1 hD1
                              obtain ⟨hP, hD⟩ := hJ9
                              refine g5_rs [(b_tp, (arI G 400 v_tp)), (b_op, (arI G 400 v_op)), (b_ar, (arI G 400 v_ar)), (b_ws, (arJ G 8 v_ws)), (b_hw, (arJ G 4 v_hw)), (b_pi, (arI G 400 v_pi)), (b_pa, (arI G 400 v_pa)), (b_o, (oc12 u_th u_sa b_rf b_ro b_im b_ke u_fd b_tp u_td u_fr u_to u_so u_wo u_fa u_bd u_nc b_nl u_co b_op b_ar u_le b_pi b_pa u_pd u_od b_ws b_hw u_la b_se b_re u_bk u_va u_su u_ce u_ho u_wy u_bt u_ps b_pt u_tg u_sn b_ip u_ic b_ah b_be b_me u_wd b_tr b_ld u_st b_wn u_id))] hP hD ?_
                              clear hP hD
                              intro hP hD
                              refine lv_if_eq (tgt := 172) hx hb dX12_behindSum_164 (by decide +kernel) (fun c_162 => ?_) (fun c_162 => ?_)
                              ·
                                refine lv_aload_n hx hb dX12_behindSum_172 rfl (lv_at hl 2 rfl) ?_
                                refine lv_bipush (v := 62) hx hb dX12_behindSum_173 (by decide +kernel) ?_
                                obtain ⟨hPc, hDc, hFc⟩ := g5_sub3 (wc := [(b_o, (oc12 u_th u_sa b_rf b_ro b_im b_ke u_fd b_tp u_td u_fr u_to u_so u_wo u_fa u_bd u_nc b_nl u_co b_op b_ar u_le b_pi b_pa u_pd u_od b_ws b_hw u_la b_se b_re u_bk u_va u_su u_ce u_ho u_wy u_bt u_ps b_pt u_tg u_sn b_ip u_ic b_ah b_be b_me u_wd b_tr b_ld u_st b_wn u_id))]) hP hD hS hA [7] (by decide +kernel) rfl
                                refine va_calli (va_runV (As := [.int 62]) (rest := []) ⟨hx, hb, hml, hown, hts⟩ (n_isSignX62 l G b_o b_rf b_ro b_im b_ke b_tp b_nl b_op b_ar b_pi b_pa b_ws b_hw b_se b_re b_pt b_ip b_ah b_be b_me b_tr b_ld b_wn H.size u_th u_sa u_fd u_td u_fr u_to u_so u_fa u_bd u_nc u_co u_le u_pd u_od u_la u_bk u_ce u_ho u_wy u_bt u_ps u_tg u_sn u_ic u_wd u_id u_wo u_va u_su u_st h_u_td h_u_fr h_u_to ⟨by omega, by omega⟩ h_u_nc h_u_co h_u_pd h_u_la h_u_bk h_u_ce h_u_ho h_u_wy h_u_bt h_u_ps h_u_ic h_u_id) (cwV 1 hts gV_X12_267 rfl rfl rfl hv_X12_isSign ⟨Nat.le_of_ble_eq_true rfl, Nat.le_of_ble_eq_true rfl⟩) (g5_preV hPc hK hDc hN hT hS hFc (ci := 12) (q0 := 0) rfl rfl) rfl rfl hl.1 rfl (lv_room (Nat.le_of_ble_eq_true rfl)) dX12_behindSum_175 ⟨Nat.le_of_ble_eq_true rfl, Nat.le_of_ble_eq_true rfl⟩) hS (fun q _ h => hFc q h) hFc (fun r u t H locs ht hvm hw hB hz1 hk1 hS => ?_)
                                obtain ⟨hP1, hD1⟩ := hB
                                have hP1 := g5_ht ht hP1
                                rcases hw with ⟨(i_163 : u_so.toInt = 3 ∧ u_wo.toInt = 62), rfl, rfl⟩ | ⟨(i_164 : ¬ (u_so.toInt = 3 ∧ u_wo.toInt = 62)), rfl, rfl⟩
                                ·
                                  have hJ9 := va_join (wr := [(b_tp, (arI G 400 v_tp)), (b_op, (arI G 400 v_op)), (b_ar, (arI G 400 v_ar)), (b_ws, (arJ G 8 v_ws)), (b_hw, (arJ G 4 v_hw)), (b_pi, (arI G 400 v_pi)), (b_pa, (arI G 400 v_pa))]) hP hD [7] [0, 1, 2, 3, 4, 5, 6] rfl rfl (by decide +kernel) (by decide +kernel) hk1 hFc hP1 hD1
                                  clear hP hD hPc hDc hFc ht hvm hz1 hk1 hP1 hD1
                                  obtain ⟨hP, hD⟩ := hJ9
                                  refine g5_rs [(b_tp, (arI G 400 v_tp)), (b_op, (arI G 400 v_op)), (b_ar, (arI G 400 v_ar)), (b_ws, (arJ G 8 v_ws)), (b_hw, (arJ G 4 v_hw)), (b_pi, (arI G 400 v_pi)), (b_pa, (arI G 400 v_pa)), (b_o, (oc12 u_th u_sa b_rf b_ro b_im b_ke u_fd b_tp u_td u_fr u_to u_so u_wo u_fa u_bd u_nc b_nl u_co b_op b_ar u_le b_pi b_pa u_pd u_od b_ws b_hw u_la b_se b_re u_bk u_va u_su u_ce u_ho u_wy u_bt u_ps b_pt u_tg u_sn b_ip u_ic b_ah b_be b_me u_wd b_tr b_ld u_st b_wn u_id))] hP hD ?_
                                  clear hP hD
                                  intro hP hD
                                  refine lv_if_eq (tgt := 186) hx hb dX12_behindSum_178 (by decide +kernel) (fun c_165 => ?_) (fun c_165 => ?_)
                                  ·
                                    exact absurd c_165 (by decide +kernel)
                                  ·
                                    refine lv_bipush (v := 25) hx hb dX12_behindSum_181 (by decide +kernel) ?_
                                    refine lv_goto (tgt := 188) hx hb dX12_behindSum_183 (by decide +kernel) ?_
                                    refine lv_istore_n (lv' := [(2, .int 25), (3, .int z124), (0, .ref b_o), (1, .int p_1)]) hx hb dX12_behindSum_188 rfl hl (by decide +kernel) rfl ?_
                                    clear hl
                                    intro ls hl
                                    refine lv_aload_n hx hb dX12_behindSum_189 rfl (lv_at hl 2 rfl) ?_
                                    refine W.eq (g2 := F0 m 190 ls [.ref b_o]) rfl ?_
                                    refine lv_iload_n hx hb dX12_behindSum_190 rfl (lv_at hl 0 rfl) ?_
                                    refine lv_bipush (v := 26) hx hb dX12_behindSum_191 (by decide +kernel) ?_
                                    refine lv_icmp_ne (tgt := 205) hx hb dX12_behindSum_193 (by decide +kernel) (fun c_166 => ?_) (fun c_166 => ?_)
                                    ·
                                      refine lv_iconst (v := 1) hx hb dX12_behindSum_205 (by decide +kernel) ?_
                                      refine lv_goto (tgt := 210) hx hb dX12_behindSum_206 (by decide +kernel) ?_
                                      have hlt9 : u_fr.toInt < u_to.toInt := tks_lt e_s (by omega)
                                      obtain ⟨hPc, hDc, hFc⟩ := g5_sub3 (wc := [(b_o, (oc12 u_th u_sa b_rf b_ro b_im b_ke u_fd b_tp u_td u_fr u_to u_so u_wo u_fa u_bd u_nc b_nl u_co b_op b_ar u_le b_pi b_pa u_pd u_od b_ws b_hw u_la b_se b_re u_bk u_va u_su u_ce u_ho u_wy u_bt u_ps b_pt u_tg u_sn b_ip u_ic b_ah b_be b_me u_wd b_tr b_ld u_st b_wn u_id)), (b_tp, (arI G 400 v_tp))]) hP hD hS hA [7, 0] (by decide +kernel) rfl
                                      refine va_callv (va_runV (As := [.int 1]) (rest := []) ⟨hx, hb, hml, hown, hts⟩ (n_must1X l G b_o b_tp b_rf b_ro b_im b_ke b_nl b_op b_ar b_pi b_pa b_ws b_hw b_se b_re b_pt b_ip b_ah b_be b_me b_tr b_ld b_wn H.size u_th u_sa u_fd u_td u_fr u_to u_so u_fa u_bd u_nc u_co u_le u_pd u_od u_la u_bk u_ce u_ho u_wy u_bt u_ps u_tg u_sn u_ic u_wd u_id u_wo u_va u_su u_st v_tp h_u_td h_u_fr h_u_to h_u_bd h_u_nc h_u_co h_u_pd h_u_la h_u_bk h_u_ce h_u_ho h_u_wy h_u_bt h_u_ps h_u_ic h_u_id (by omega)) (cwV 1 hts gV_X12_233 rfl rfl rfl hv_X12_must ⟨Nat.le_of_ble_eq_true rfl, Nat.le_of_ble_eq_true rfl⟩) (g5_preV hPc hK hDc hN hT hS hFc (ci := 12) (q0 := 0) rfl rfl) rfl rfl hl.1 rfl (lv_room (Nat.le_of_ble_eq_true rfl)) dX12_behindSum_210 ⟨Nat.le_of_ble_eq_true rfl, Nat.le_of_ble_eq_true rfl⟩) hS (fun q _ h => hFc q h) hFc (fun u t H locs ht hvm hw hB hz1 hk1 hS => ?_)
                                      obtain ⟨hP1, hD1⟩ := hB
                                      have hP1 := g5_ht ht hP1
                                      obtain ⟨z172, z173, z174, z175, (i_167 : 0 ≤ z172.toInt ∧ z172.toInt ≤ 400), (i_168 : 0 ≤ z173.toInt ∧ z173.toInt ≤ 400), (i_169 : u_to.toInt ≤ z172.toInt ∧ z172.toInt ≤ z173.toInt ∧ z173.toInt ≤ u_td.toInt), (i_170 : TKs z174.toInt z172.toInt z173.toInt), (i_171 : TOKA v_tp u_td.toInt.toNat (skT v_tp u_td.toInt.toNat u_to.toInt.toNat) z172 z173 z174 z175), rfl⟩ := hw
                                      have hJ9 := va_join (wr := [(b_op, (arI G 400 v_op)), (b_ar, (arI G 400 v_ar)), (b_ws, (arJ G 8 v_ws)), (b_hw, (arJ G 4 v_hw)), (b_pi, (arI G 400 v_pi)), (b_pa, (arI G 400 v_pa))]) hP hD [7, 0] [1, 2, 3, 4, 5, 6] rfl rfl (by decide +kernel) (by decide +kernel) hk1 hFc hP1 hD1
                                      clear hP hD hPc hDc hFc ht hvm hz1 hk1 hP1 hD1
                                      obtain ⟨hP, hD⟩ := hJ9
                                      refine g5_rs [(b_op, (arI G 400 v_op)), (b_ar, (arI G 400 v_ar)), (b_ws, (arJ G 8 v_ws)), (b_hw, (arJ G 4 v_hw)), (b_pi, (arI G 400 v_pi)), (b_pa, (arI G 400 v_pa)), (b_o, (oc12 u_th u_sa b_rf b_ro b_im b_ke u_fd b_tp u_td z172 z173 z174 z175 u_fa u_bd u_nc b_nl u_co b_op b_ar u_le b_pi b_pa u_pd u_od b_ws b_hw u_la b_se b_re u_bk u_va u_su u_ce u_ho u_wy u_bt u_ps b_pt u_tg u_sn b_ip u_ic b_ah b_be b_me u_wd b_tr b_ld u_st b_wn u_id)), (b_tp, (arI G 400 v_tp))] hP hD ?_
                                      clear hP hD
                                      intro hP hD
                                      refine lv_aload_n hx hb dX12_behindSum_213 rfl (lv_at hl 2 rfl) ?_
                                      refine W.eq (g2 := F0 m 214 ls [.ref b_o]) rfl ?_
                                      refine va_get (D := G.1) (ci := 12) (v := .int u_bd) (C := RX12) (T := TX12) (N := 52) hx hb hts inG_X12 hown hK hP 6 rfl rfl 14 (by decide +kernel) (hts _ fl_X12_205) (fun _ h9 => h9) rfl dX12_behindSum_214 ?_
                                      refine lv_if_ne (tgt := 231) hx hb dX12_behindSum_217 (by decide +kernel) (fun c_176 => ?_) (fun c_176 => ?_)
                                      ·
                                        have i_176 : u_bd.toInt ≠ 0 := g5_ne (a := u_bd.toInt) (b := 0) rfl (by decide +kernel) c_176
                                        omega
                                      ·
                                        have i_176 : u_bd.toInt = 0 := g5_neN (a := u_bd.toInt) (b := 0) rfl (by decide +kernel) c_176
                                        have hE_177 : HJ v_op v_ar v_pi v_pa g_a.toInt u_co.toInt u_pd.toInt 1 := tj_d1 e_j (by decide +kernel)
                                        refine lv_aload_n hx hb dX12_behindSum_220 rfl (lv_at hl 2 rfl) ?_
                                        refine lv_iconst (v := 5) hx hb dX12_behindSum_221 (by decide +kernel) ?_
                                        obtain ⟨hPc, hDc, hFc⟩ := g5_sub3 (wc := [(b_o, (oc12 u_th u_sa b_rf b_ro b_im b_ke u_fd b_tp u_td z172 z173 z174 z175 u_fa u_bd u_nc b_nl u_co b_op b_ar u_le b_pi b_pa u_pd u_od b_ws b_hw u_la b_se b_re u_bk u_va u_su u_ce u_ho u_wy u_bt u_ps b_pt u_tg u_sn b_ip u_ic b_ah b_be b_me u_wd b_tr b_ld u_st b_wn u_id)), (b_op, (arI G 400 v_op)), (b_ar, (arI G 400 v_ar)), (b_pi, (arI G 400 v_pi)), (b_pa, (arI G 400 v_pa))]) hP hD hS hA [6, 0, 1, 4, 5] (by decide +kernel) rfl
                                        refine va_callv (va_runV (As := [.int 5]) (rest := []) ⟨hx, hb, hml, hown, hts⟩ (n_settleX l G b_o b_op b_ar b_pi b_pa b_rf b_ro b_im b_ke b_tp b_nl b_ws b_hw b_se b_re b_pt b_ip b_ah b_be b_me b_tr b_ld b_wn H.size u_th u_sa u_fd u_td z172 z173 z174 u_fa u_bd u_nc u_co u_le u_pd u_od u_la u_bk u_ce u_ho u_wy u_bt u_ps u_tg u_sn u_ic u_wd u_id 5 g_a u_fr z175 u_va u_su u_st v_op v_ar v_pi v_pa g_op g_ar h_u_td i_167 i_168 ⟨by omega, by omega⟩ h_u_nc h_u_co h_u_pd h_u_la h_u_bk h_u_ce h_u_ho h_u_wy h_u_bt h_u_ps h_u_ic h_u_id ⟨by decide, by decide⟩ (by omega) (e_x) (hE_177)) (cwV 1 hts gV_X12_288 rfl rfl rfl hv_X12_settle ⟨Nat.le_of_ble_eq_true rfl, Nat.le_of_ble_eq_true rfl⟩) (g5_preV hPc hK hDc hN hT hS hFc (ci := 12) (q0 := 0) rfl rfl) rfl rfl hl.1 rfl (lv_room (Nat.le_of_ble_eq_true rfl)) dX12_behindSum_222 ⟨Nat.le_of_ble_eq_true rfl, Nat.le_of_ble_eq_true rfl⟩) hS (fun q _ h => hFc q h) hFc (fun u t H locs ht hvm hw hB hz1 hk1 hS => ?_)
                                        obtain ⟨hP1, hD1⟩ := hB
                                        have hP1 := g5_ht ht hP1
                                        obtain ⟨z186, z187, z188, z189, (i_178 : 0 ≤ z186.toInt ∧ z186.toInt ≤ 400), (i_179 : 0 ≤ z187.toInt ∧ z187.toInt ≤ 400), (i_180 : XJ g_op g_ar z188 z189 v_pi v_pa g_a.toInt z186.toInt z187.toInt u_fr.toInt), (i_181 : HJ z188 z189 v_pi v_pa g_a.toInt z186.toInt z187.toInt 1), (i_182 : stl (5 : Int32).toInt (plL v_pi v_pa u_pd.toInt.toNat) (v_op, v_ar, u_co.toInt.toNat) = (plL v_pi v_pa z187.toInt.toNat, (z188, z189, z186.toInt.toNat))), (i_183 : S1 v_pi u_pd.toInt z187.toInt), (i_184 : S2 v_pi z187.toInt (5 : Int32).toInt), (i_185 : z187.toInt ≤ u_pd.toInt), rfl⟩ := hw
                                        have hJ9 := va_join (wr := [(b_ws, (arJ G 8 v_ws)), (b_hw, (arJ G 4 v_hw)), (b_tp, (arI G 400 v_tp))]) hP hD [6, 0, 1, 4, 5] [2, 3, 7] rfl rfl (by decide +kernel) (by decide +kernel) hk1 hFc hP1 hD1
                                        clear hP hD hPc hDc hFc ht hvm hz1 hk1 hP1 hD1
                                        obtain ⟨hP, hD⟩ := hJ9
                                        refine g5_rs [(b_ws, (arJ G 8 v_ws)), (b_hw, (arJ G 4 v_hw)), (b_tp, (arI G 400 v_tp)), (b_o, (oc12 u_th u_sa b_rf b_ro b_im b_ke u_fd b_tp u_td z172 z173 z174 z175 u_fa u_bd u_nc b_nl z186 b_op b_ar u_le b_pi b_pa z187 u_od b_ws b_hw u_la b_se b_re u_bk u_va u_su u_ce u_ho u_wy u_bt u_ps b_pt u_tg u_sn b_ip u_ic b_ah b_be b_me u_wd b_tr b_ld u_st b_wn u_id)), (b_op, (arI G 400 z188)), (b_ar, (arI G 400 z189)), (b_pi, (arI G 400 v_pi)), (b_pa, (arI G 400 v_pa))] hP hD ?_
                                        clear hP hD
                                        intro hP hD
                                        have hmf8 := xj_mf i_180
                                        refine lv_aload_n hx hb dX12_behindSum_225 rfl (lv_at hl 2 rfl) ?_
                                        refine W.eq (g2 := F0 m 226 ls [.ref b_o]) rfl ?_
                                        refine lv_iload_n hx hb dX12_behindSum_226 rfl (lv_at hl 0 rfl) ?_
                                        refine lv_iconst (v := 0) hx hb dX12_behindSum_227 (by decide +kernel) ?_
                                        obtain ⟨hPc, hDc, hFc⟩ := g5_sub3 (wc := [(b_o, (oc12 u_th u_sa b_rf b_ro b_im b_ke u_fd b_tp u_td z172 z173 z174 z175 u_fa u_bd u_nc b_nl z186 b_op b_ar u_le b_pi b_pa z187 u_od b_ws b_hw u_la b_se b_re u_bk u_va u_su u_ce u_ho u_wy u_bt u_ps b_pt u_tg u_sn b_ip u_ic b_ah b_be b_me u_wd b_tr b_ld u_st b_wn u_id)), (b_pi, (arI G 400 v_pi)), (b_pa, (arI G 400 v_pa))]) hP hD hS hA [3, 6, 7] (by decide +kernel) rfl
                                        refine va_callv (va_runV (As := [.int 25, .int 0]) (rest := []) ⟨hx, hb, hml, hown, hts⟩ (n_push l G b_o b_pi b_pa b_rf b_ro b_im b_ke b_tp b_nl b_op b_ar b_ws b_hw b_se b_re b_pt b_ip b_ah b_be b_me b_tr b_ld b_wn H.size u_th u_sa u_fd u_td z172 z173 z174 u_fa u_bd u_nc z186 u_le z187 u_od u_la u_bk u_ce u_ho u_wy u_bt u_ps u_tg u_sn u_ic u_wd u_id 25 0 z175 u_va u_su u_st v_pi v_pa h_u_td i_167 i_168 ⟨by omega, by omega⟩ h_u_nc i_178 i_179 h_u_la h_u_bk h_u_ce h_u_ho h_u_wy h_u_bt h_u_ps h_u_ic h_u_id (by omega)) (cwV 2 hts gV_X12_261 rfl rfl rfl hv_X12_push ⟨Nat.le_of_ble_eq_true rfl, Nat.le_of_ble_eq_true rfl⟩) (g5_preV hPc hK hDc hN hT hS hFc (ci := 12) (q0 := 0) rfl rfl) rfl rfl hl.1 rfl (lv_room (Nat.le_of_ble_eq_true rfl)) dX12_behindSum_228 ⟨Nat.le_of_ble_eq_true rfl, Nat.le_of_ble_eq_true rfl⟩) hS (fun q _ h => hFc q h) hFc (fun u t H locs ht hvm hw hB hz1 hk1 hS => ?_)
                                        obtain ⟨hP1, hD1⟩ := hB
                                        have hP1 := g5_ht ht hP1
                                        obtain ⟨z192, (i_190 : 0 ≤ z192.toInt ∧ z192.toInt ≤ 400), (i_191 : z192.toInt = z187.toInt + 1), rfl⟩ := hw
                                        have hJ9 := va_join (wr := [(b_ws, (arJ G 8 v_ws)), (b_hw, (arJ G 4 v_hw)), (b_tp, (arI G 400 v_tp)), (b_op, (arI G 400 z188)), (b_ar, (arI G 400 z189))]) hP hD [3, 6, 7] [0, 1, 2, 4, 5] rfl rfl (by decide +kernel) (by decide +kernel) hk1 hFc hP1 hD1
                                        clear hP hD hPc hDc hFc ht hvm hz1 hk1 hP1 hD1
                                        obtain ⟨hP, hD⟩ := hJ9
                                        refine g5_rs [(b_ws, (arJ G 8 v_ws)), (b_hw, (arJ G 4 v_hw)), (b_tp, (arI G 400 v_tp)), (b_op, (arI G 400 z188)), (b_ar, (arI G 400 z189)), (b_o, (oc12 u_th u_sa b_rf b_ro b_im b_ke u_fd b_tp u_td z172 z173 z174 z175 u_fa u_bd u_nc b_nl z186 b_op b_ar u_le b_pi b_pa z192 u_od b_ws b_hw u_la b_se b_re u_bk u_va u_su u_ce u_ho u_wy u_bt u_ps b_pt u_tg u_sn b_ip u_ic b_ah b_be b_me u_wd b_tr b_ld u_st b_wn u_id)), (b_pi, (arI G 400 (upd v_pi z187.toNatClampNeg 25))), (b_pa, (arI G 400 (upd v_pa z187.toNatClampNeg 0)))] hP hD ?_
                                        clear hP hD
                                        intro hP hD
                                        refine lv_iconst (v := 1) hx hb dX12_behindSum_231 (by decide +kernel) ?_
                                        exact W.iret (v := 1) hx hb hr (fun t ht hW => ⟨⟨1, [(b_o, (oc12 u_th u_sa b_rf b_ro b_im b_ke u_fd b_tp u_td z172 z173 z174 z175 u_fa u_bd u_nc b_nl z186 b_op b_ar u_le b_pi b_pa z192 u_od b_ws b_hw u_la b_se b_re u_bk u_va u_su u_ce u_ho u_wy u_bt u_ps b_pt u_tg u_sn b_ip u_ic b_ah b_be b_me u_wd b_tr b_ld u_st b_wn u_id)), (b_tp, (arI G 400 v_tp)), (b_op, (arI G 400 z188)), (b_ar, (arI G 400 z189)), (b_pi, (arI G 400 (upd v_pi z187.toNatClampNeg 25))), (b_pa, (arI G 400 (upd v_pa z187.toNatClampNeg 0))), (b_ws, (arJ G 8 v_ws)), (b_hw, (arJ G 4 v_hw))], rfl, Or.inr (⟨1, z172, z173, z174, z175, z186, z192, u_od, z188, z189, (upd v_pi z187.toNatClampNeg 25), (upd v_pa z187.toNatClampNeg 0), i_167, i_168, i_178, i_190, ⟨by have zc_o_r : (1 : Int32).toInt = 1 := (by decide +kernel); omega, by have zc_o_r : (1 : Int32).toInt = 1 := (by decide +kernel); omega⟩, by omega, i_170, xj_push i_180 (by omega) (by omega) ⟨by decide, by decide⟩ (Or.inl (by decide +kernel)), tj_1 (hj_push2 i_181 (by omega) (by omega) ⟨by decide, by decide⟩ (Or.inr (no31_le (inn_no31 i_122 (tj_d1 e_j (by decide +kernel)) n_126) (by omega)))) (by decide +kernel), by have w9 := (twt_0 (by decide +kernel) : twt (1 : Int32).toInt = 0); omega, rq_t (rq_cmp (o := 25) hRC hFD (by rw [((tk_sign e_tp hTK (by decide +kernel) (by decide +kernel) (c := 62)).mpr i_163)]; decide) (by decide +kernel) (opM_0 (fun q8 => i_2 ((tk_sign e_tp hTK (by decide +kernel) (by decide +kernel) (c := 43)).mp q8)) (fun q8 => i_32 ((tk_sign e_tp hTK (by decide +kernel) (by decide +kernel) (c := 45)).mp q8)) (fun q8 => i_62 ((tk_sign e_tp hTK (by decide +kernel) (by decide +kernel) (c := 42)).mp q8)) (fun q8 => i_92 ((tk_sign e_tp hTK (by decide +kernel) (by decide +kernel) (c := 47)).mp q8))) (by rw [← i_123]; first | omega | (unfold gNe at *; omega)) (by rw [← i_123]; first | omega | (unfold gNe at *; omega)) i_129 (stl_c i_182 (by decide +kernel)) (toka_nx hTK i_171) (by omega) (by omega) (by omega)) (by decide +kernel), rfl, rfl⟩), by rw [ht]; exact hP.sub [5, 2, 3, 4, 6, 7, 0, 1] rfl, hD.sub [5, 2, 3, 4, 6, 7, 0, 1] (by decide +kernel) rfl⟩, hS.F ht⟩) hS.2.2 dX12_behindSum_232
                                    ·
                                      exact absurd c_166 (by decide +kernel)
                                ·
                                  have hJ9 := va_join (wr := [(b_tp, (arI G 400 v_tp)), (b_op, (arI G 400 v_op)), (b_ar, (arI G 400 v_ar)), (b_ws, (arJ G 8 v_ws)), (b_hw, (arJ G 4 v_hw)), (b_pi, (arI G 400 v_pi)), (b_pa, (arI G 400 v_pa))]) hP hD [7] [0, 1, 2, 3, 4, 5, 6] rfl rfl (by decide +kernel) (by decide +kernel) hk1 hFc hP1 hD1
                                  clear hP hD hPc hDc hFc ht hvm hz1 hk1 hP1 hD1
                                  obtain ⟨hP, hD⟩ := hJ9
                                  refine g5_rs [(b_tp, (arI G 400 v_tp)), (b_op, (arI G 400 v_op)), (b_ar, (arI G 400 v_ar)), (b_ws, (arJ G 8 v_ws)), (b_hw, (arJ G 4 v_hw)), (b_pi, (arI G 400 v_pi)), (b_pa, (arI G 400 v_pa)), (b_o, (oc12 u_th u_sa b_rf b_ro b_im b_ke u_fd b_tp u_td u_fr u_to u_so u_wo u_fa u_bd u_nc b_nl u_co b_op b_ar u_le b_pi b_pa u_pd u_od b_ws b_hw u_la b_se b_re u_bk u_va u_su u_ce u_ho u_wy u_bt u_ps b_pt u_tg u_sn b_ip u_ic b_ah b_be b_me u_wd b_tr b_ld u_st b_wn u_id))] hP hD ?_
                                  clear hP hD
                                  intro hP hD
                                  refine lv_if_eq (tgt := 186) hx hb dX12_behindSum_178 (by decide +kernel) (fun c_193 => ?_) (fun c_193 => ?_)
                                  ·
                                    refine lv_bipush (v := 26) hx hb dX12_behindSum_186 (by decide +kernel) ?_
                                    refine lv_istore_n (lv' := [(2, .int 26), (3, .int z124), (0, .ref b_o), (1, .int p_1)]) hx hb dX12_behindSum_188 rfl hl (by decide +kernel) rfl ?_
                                    clear hl
                                    intro ls hl
                                    refine lv_aload_n hx hb dX12_behindSum_189 rfl (lv_at hl 2 rfl) ?_
                                    refine lv_iload_n hx hb dX12_behindSum_190 rfl (lv_at hl 0 rfl) ?_
                                    refine W.eq (g2 := F0 m 191 ls [.int 26, .ref b_o]) rfl ?_
                                    refine lv_bipush (v := 26) hx hb dX12_behindSum_191 (by decide +kernel) ?_
                                    refine lv_icmp_ne (tgt := 205) hx hb dX12_behindSum_193 (by decide +kernel) (fun c_194 => ?_) (fun c_194 => ?_)
                                    ·
                                      exact absurd c_194 (by decide +kernel)
                                    ·
                                      refine lv_aload_n hx hb dX12_behindSum_196 rfl (lv_at hl 2 rfl) ?_
                                      refine lv_bipush (v := 61) hx hb dX12_behindSum_197 (by decide +kernel) ?_
                                      obtain ⟨hPc, hDc, hFc⟩ := g5_sub3 (wc := [(b_o, (oc12 u_th u_sa b_rf b_ro b_im b_ke u_fd b_tp u_td u_fr u_to u_so u_wo u_fa u_bd u_nc b_nl u_co b_op b_ar u_le b_pi b_pa u_pd u_od b_ws b_hw u_la b_se b_re u_bk u_va u_su u_ce u_ho u_wy u_bt u_ps b_pt u_tg u_sn b_ip u_ic b_ah b_be b_me u_wd b_tr b_ld u_st b_wn u_id))]) hP hD hS hA [7] (by decide +kernel) rfl
                                      refine va_calli (va_runV (As := [.int 61]) (rest := [.ref b_o]) ⟨hx, hb, hml, hown, hts⟩ (n_isSignX61 l G b_o b_rf b_ro b_im b_ke b_tp b_nl b_op b_ar b_pi b_pa b_ws b_hw b_se b_re b_pt b_ip b_ah b_be b_me b_tr b_ld b_wn H.size u_th u_sa u_fd u_td u_fr u_to u_so u_fa u_bd u_nc u_co u_le u_pd u_od u_la u_bk u_ce u_ho u_wy u_bt u_ps u_tg u_sn u_ic u_wd u_id u_wo u_va u_su u_st h_u_td h_u_fr h_u_to ⟨by omega, by omega⟩ h_u_nc h_u_co h_u_pd h_u_la h_u_bk h_u_ce h_u_ho h_u_wy h_u_bt h_u_ps h_u_ic h_u_id) (cwV 1 hts gV_X12_267 rfl rfl rfl hv_X12_isSign ⟨Nat.le_of_ble_eq_true rfl, Nat.le_of_ble_eq_true rfl⟩) (g5_preV hPc hK hDc hN hT hS hFc (ci := 12) (q0 := 0) rfl rfl) rfl rfl hl.1 rfl (lv_room (Nat.le_of_ble_eq_true rfl)) dX12_behindSum_199 ⟨Nat.le_of_ble_eq_true rfl, Nat.le_of_ble_eq_true rfl⟩) hS (fun q _ h => hFc q h) hFc (fun r u t H locs ht hvm hw hB hz1 hk1 hS => ?_)
                                      obtain ⟨hP1, hD1⟩ := hB
                                      have hP1 := g5_ht ht hP1
                                      rcases hw with ⟨(i_195 : u_so.toInt = 3 ∧ u_wo.toInt = 61), rfl, rfl⟩ | ⟨(i_196 : ¬ (u_so.toInt = 3 ∧ u_wo.toInt = 61)), rfl, rfl⟩
                                      ·
                                        have hJ9 := va_join (wr := [(b_tp, (arI G 400 v_tp)), (b_op, (arI G 400 v_op)), (b_ar, (arI G 400 v_ar)), (b_ws, (arJ G 8 v_ws)), (b_hw, (arJ G 4 v_hw)), (b_pi, (arI G 400 v_pi)), (b_pa, (arI G 400 v_pa))]) hP hD [7] [0, 1, 2, 3, 4, 5, 6] rfl rfl (by decide +kernel) (by decide +kernel) hk1 hFc hP1 hD1
                                        clear hP hD hPc hDc hFc ht hvm hz1 hk1 hP1 hD1
                                        obtain ⟨hP, hD⟩ := hJ9
                                        refine g5_rs [(b_tp, (arI G 400 v_tp)), (b_op, (arI G 400 v_op)), (b_ar, (arI G 400 v_ar)), (b_ws, (arJ G 8 v_ws)), (b_hw, (arJ G 4 v_hw)), (b_pi, (arI G 400 v_pi)), (b_pa, (arI G 400 v_pa)), (b_o, (oc12 u_th u_sa b_rf b_ro b_im b_ke u_fd b_tp u_td u_fr u_to u_so u_wo u_fa u_bd u_nc b_nl u_co b_op b_ar u_le b_pi b_pa u_pd u_od b_ws b_hw u_la b_se b_re u_bk u_va u_su u_ce u_ho u_wy u_bt u_ps b_pt u_tg u_sn b_ip u_ic b_ah b_be b_me u_wd b_tr b_ld u_st b_wn u_id))] hP hD ?_
                                        clear hP hD
                                        intro hP hD
                                        refine lv_if_eq (tgt := 209) hx hb dX12_behindSum_202 (by decide +kernel) (fun c_197 => ?_) (fun c_197 => ?_)
                                        ·
                                          exact absurd c_197 (by decide +kernel)
                                        ·
                                          refine lv_iconst (v := 1) hx hb dX12_behindSum_205 (by decide +kernel) ?_
                                          refine lv_goto (tgt := 210) hx hb dX12_behindSum_206 (by decide +kernel) ?_
                                          have hlt9 : u_fr.toInt < u_to.toInt := tks_lt e_s (by omega)
                                          obtain ⟨hPc, hDc, hFc⟩ := g5_sub3 (wc := [(b_o, (oc12 u_th u_sa b_rf b_ro b_im b_ke u_fd b_tp u_td u_fr u_to u_so u_wo u_fa u_bd u_nc b_nl u_co b_op b_ar u_le b_pi b_pa u_pd u_od b_ws b_hw u_la b_se b_re u_bk u_va u_su u_ce u_ho u_wy u_bt u_ps b_pt u_tg u_sn b_ip u_ic b_ah b_be b_me u_wd b_tr b_ld u_st b_wn u_id)), (b_tp, (arI G 400 v_tp))]) hP hD hS hA [7, 0] (by decide +kernel) rfl
                                          refine va_callv (va_runV (As := [.int 1]) (rest := []) ⟨hx, hb, hml, hown, hts⟩ (n_must1X l G b_o b_tp b_rf b_ro b_im b_ke b_nl b_op b_ar b_pi b_pa b_ws b_hw b_se b_re b_pt b_ip b_ah b_be b_me b_tr b_ld b_wn H.size u_th u_sa u_fd u_td u_fr u_to u_so u_fa u_bd u_nc u_co u_le u_pd u_od u_la u_bk u_ce u_ho u_wy u_bt u_ps u_tg u_sn u_ic u_wd u_id u_wo u_va u_su u_st v_tp h_u_td h_u_fr h_u_to h_u_bd h_u_nc h_u_co h_u_pd h_u_la h_u_bk h_u_ce h_u_ho h_u_wy h_u_bt h_u_ps h_u_ic h_u_id (by omega)) (cwV 1 hts gV_X12_233 rfl rfl rfl hv_X12_must ⟨Nat.le_of_ble_eq_true rfl, Nat.le_of_ble_eq_true rfl⟩) (g5_preV hPc hK hDc hN hT hS hFc (ci := 12) (q0 := 0) rfl rfl) rfl rfl hl.1 rfl (lv_room (Nat.le_of_ble_eq_true rfl)) dX12_behindSum_210 ⟨Nat.le_of_ble_eq_true rfl, Nat.le_of_ble_eq_true rfl⟩) hS (fun q _ h => hFc q h) hFc (fun u t H locs ht hvm hw hB hz1 hk1 hS => ?_)
                                          obtain ⟨hP1, hD1⟩ := hB
                                          have hP1 := g5_ht ht hP1
                                          obtain ⟨z203, z204, z205, z206, (i_198 : 0 ≤ z203.toInt ∧ z203.toInt ≤ 400), (i_199 : 0 ≤ z204.toInt ∧ z204.toInt ≤ 400), (i_200 : u_to.toInt ≤ z203.toInt ∧ z203.toInt ≤ z204.toInt ∧ z204.toInt ≤ u_td.toInt), (i_201 : TKs z205.toInt z203.toInt z204.toInt), (i_202 : TOKA v_tp u_td.toInt.toNat (skT v_tp u_td.toInt.toNat u_to.toInt.toNat) z203 z204 z205 z206), rfl⟩ := hw
                                          have hJ9 := va_join (wr := [(b_op, (arI G 400 v_op)), (b_ar, (arI G 400 v_ar)), (b_ws, (arJ G 8 v_ws)), (b_hw, (arJ G 4 v_hw)), (b_pi, (arI G 400 v_pi)), (b_pa, (arI G 400 v_pa))]) hP hD [7, 0] [1, 2, 3, 4, 5, 6] rfl rfl (by decide +kernel) (by decide +kernel) hk1 hFc hP1 hD1
                                          clear hP hD hPc hDc hFc ht hvm hz1 hk1 hP1 hD1
                                          obtain ⟨hP, hD⟩ := hJ9
                                          refine g5_rs [(b_op, (arI G 400 v_op)), (b_ar, (arI G 400 v_ar)), (b_ws, (arJ G 8 v_ws)), (b_hw, (arJ G 4 v_hw)), (b_pi, (arI G 400 v_pi)), (b_pa, (arI G 400 v_pa)), (b_o, (oc12 u_th u_sa b_rf b_ro b_im b_ke u_fd b_tp u_td z203 z204 z205 z206 u_fa u_bd u_nc b_nl u_co b_op b_ar u_le b_pi b_pa u_pd u_od b_ws b_hw u_la b_se b_re u_bk u_va u_su u_ce u_ho u_wy u_bt u_ps b_pt u_tg u_sn b_ip u_ic b_ah b_be b_me u_wd b_tr b_ld u_st b_wn u_id)), (b_tp, (arI G 400 v_tp))] hP hD ?_
                                          clear hP hD
                                          intro hP hD
                                          refine lv_aload_n hx hb dX12_behindSum_213 rfl (lv_at hl 2 rfl) ?_
                                          refine W.eq (g2 := F0 m 214 ls [.ref b_o]) rfl ?_
                                          refine va_get (D := G.1) (ci := 12) (v := .int u_bd) (C := RX12) (T := TX12) (N := 52) hx hb hts inG_X12 hown hK hP 6 rfl rfl 14 (by decide +kernel) (hts _ fl_X12_205) (fun _ h9 => h9) rfl dX12_behindSum_214 ?_
                                          refine lv_if_ne (tgt := 231) hx hb dX12_behindSum_217 (by decide +kernel) (fun c_207 => ?_) (fun c_207 => ?_)
                                          ·
                                            have i_207 : u_bd.toInt ≠ 0 := g5_ne (a := u_bd.toInt) (b := 0) rfl (by decide +kernel) c_207
                                            omega
                                          ·
                                            have i_207 : u_bd.toInt = 0 := g5_neN (a := u_bd.toInt) (b := 0) rfl (by decide +kernel) c_207
                                            have hE_208 : HJ v_op v_ar v_pi v_pa g_a.toInt u_co.toInt u_pd.toInt 1 := tj_d1 e_j (by decide +kernel)
                                            refine lv_aload_n hx hb dX12_behindSum_220 rfl (lv_at hl 2 rfl) ?_
                                            refine lv_iconst (v := 5) hx hb dX12_behindSum_221 (by decide +kernel) ?_
                                            obtain ⟨hPc, hDc, hFc⟩ := g5_sub3 (wc := [(b_o, (oc12 u_th u_sa b_rf b_ro b_im b_ke u_fd b_tp u_td z203 z204 z205 z206 u_fa u_bd u_nc b_nl u_co b_op b_ar u_le b_pi b_pa u_pd u_od b_ws b_hw u_la b_se b_re u_bk u_va u_su u_ce u_ho u_wy u_bt u_ps b_pt u_tg u_sn b_ip u_ic b_ah b_be b_me u_wd b_tr b_ld u_st b_wn u_id)), (b_op, (arI G 400 v_op)), (b_ar, (arI G 400 v_ar)), (b_pi, (arI G 400 v_pi)), (b_pa, (arI G 400 v_pa))]) hP hD hS hA [6, 0, 1, 4, 5] (by decide +kernel) rfl
                                            refine va_callv (va_runV (As := [.int 5]) (rest := []) ⟨hx, hb, hml, hown, hts⟩ (n_settleX l G b_o b_op b_ar b_pi b_pa b_rf b_ro b_im b_ke b_tp b_nl b_ws b_hw b_se b_re b_pt b_ip b_ah b_be b_me b_tr b_ld b_wn H.size u_th u_sa u_fd u_td z203 z204 z205 u_fa u_bd u_nc u_co u_le u_pd u_od u_la u_bk u_ce u_ho u_wy u_bt u_ps u_tg u_sn u_ic u_wd u_id 5 g_a u_fr z206 u_va u_su u_st v_op v_ar v_pi v_pa g_op g_ar h_u_td i_198 i_199 ⟨by omega, by omega⟩ h_u_nc h_u_co h_u_pd h_u_la h_u_bk h_u_ce h_u_ho h_u_wy h_u_bt h_u_ps h_u_ic h_u_id ⟨by decide, by decide⟩ (by omega) (e_x) (hE_208)) (cwV 1 hts gV_X12_288 rfl rfl rfl hv_X12_settle ⟨Nat.le_of_ble_eq_true rfl, Nat.le_of_ble_eq_true rfl⟩) (g5_preV hPc hK hDc hN hT hS hFc (ci := 12) (q0 := 0) rfl rfl) rfl rfl hl.1 rfl (lv_room (Nat.le_of_ble_eq_true rfl)) dX12_behindSum_222 ⟨Nat.le_of_ble_eq_true rfl, Nat.le_of_ble_eq_true rfl⟩) hS (fun q _ h => hFc q h) hFc (fun u t H locs ht hvm hw hB hz1 hk1 hS => ?_)
                                            obtain ⟨hP1, hD1⟩ := hB
                                            have hP1 := g5_ht ht hP1
                                            obtain ⟨z217, z218, z219, z220, (i_209 : 0 ≤ z217.toInt ∧ z217.toInt ≤ 400), (i_210 : 0 ≤ z218.toInt ∧ z218.toInt ≤ 400), (i_211 : XJ g_op g_ar z219 z220 v_pi v_pa g_a.toInt z217.toInt z218.toInt u_fr.toInt), (i_212 : HJ z219 z220 v_pi v_pa g_a.toInt z217.toInt z218.toInt 1), (i_213 : stl (5 : Int32).toInt (plL v_pi v_pa u_pd.toInt.toNat) (v_op, v_ar, u_co.toInt.toNat) = (plL v_pi v_pa z218.toInt.toNat, (z219, z220, z217.toInt.toNat))), (i_214 : S1 v_pi u_pd.toInt z218.toInt), (i_215 : S2 v_pi z218.toInt (5 : Int32).toInt), (i_216 : z218.toInt ≤ u_pd.toInt), rfl⟩ := hw
                                            have hJ9 := va_join (wr := [(b_ws, (arJ G 8 v_ws)), (b_hw, (arJ G 4 v_hw)), (b_tp, (arI G 400 v_tp))]) hP hD [6, 0, 1, 4, 5] [2, 3, 7] rfl rfl (by decide +kernel) (by decide +kernel) hk1 hFc hP1 hD1
                                            clear hP hD hPc hDc hFc ht hvm hz1 hk1 hP1 hD1
                                            obtain ⟨hP, hD⟩ := hJ9
                                            refine g5_rs [(b_ws, (arJ G 8 v_ws)), (b_hw, (arJ G 4 v_hw)), (b_tp, (arI G 400 v_tp)), (b_o, (oc12 u_th u_sa b_rf b_ro b_im b_ke u_fd b_tp u_td z203 z204 z205 z206 u_fa u_bd u_nc b_nl z217 b_op b_ar u_le b_pi b_pa z218 u_od b_ws b_hw u_la b_se b_re u_bk u_va u_su u_ce u_ho u_wy u_bt u_ps b_pt u_tg u_sn b_ip u_ic b_ah b_be b_me u_wd b_tr b_ld u_st b_wn u_id)), (b_op, (arI G 400 z219)), (b_ar, (arI G 400 z220)), (b_pi, (arI G 400 v_pi)), (b_pa, (arI G 400 v_pa))] hP hD ?_
                                            clear hP hD
                                            intro hP hD
                                            have hmf8 := xj_mf i_211
                                            refine lv_aload_n hx hb dX12_behindSum_225 rfl (lv_at hl 2 rfl) ?_
                                            refine W.eq (g2 := F0 m 226 ls [.ref b_o]) rfl ?_
                                            refine lv_iload_n hx hb dX12_behindSum_226 rfl (lv_at hl 0 rfl) ?_
                                            refine lv_iconst (v := 0) hx hb dX12_behindSum_227 (by decide +kernel) ?_
                                            obtain ⟨hPc, hDc, hFc⟩ := g5_sub3 (wc := [(b_o, (oc12 u_th u_sa b_rf b_ro b_im b_ke u_fd b_tp u_td z203 z204 z205 z206 u_fa u_bd u_nc b_nl z217 b_op b_ar u_le b_pi b_pa z218 u_od b_ws b_hw u_la b_se b_re u_bk u_va u_su u_ce u_ho u_wy u_bt u_ps b_pt u_tg u_sn b_ip u_ic b_ah b_be b_me u_wd b_tr b_ld u_st b_wn u_id)), (b_pi, (arI G 400 v_pi)), (b_pa, (arI G 400 v_pa))]) hP hD hS hA [3, 6, 7] (by decide +kernel) rfl
                                            refine va_callv (va_runV (As := [.int 26, .int 0]) (rest := []) ⟨hx, hb, hml, hown, hts⟩ (n_push l G b_o b_pi b_pa b_rf b_ro b_im b_ke b_tp b_nl b_op b_ar b_ws b_hw b_se b_re b_pt b_ip b_ah b_be b_me b_tr b_ld b_wn H.size u_th u_sa u_fd u_td z203 z204 z205 u_fa u_bd u_nc z217 u_le z218 u_od u_la u_bk u_ce u_ho u_wy u_bt u_ps u_tg u_sn u_ic u_wd u_id 26 0 z206 u_va u_su u_st v_pi v_pa h_u_td i_198 i_199 ⟨by omega, by omega⟩ h_u_nc i_209 i_210 h_u_la h_u_bk h_u_ce h_u_ho h_u_wy h_u_bt h_u_ps h_u_ic h_u_id (by omega)) (cwV 2 hts gV_X12_261 rfl rfl rfl hv_X12_push ⟨Nat.le_of_ble_eq_true rfl, Nat.le_of_ble_eq_true rfl⟩) (g5_preV hPc hK hDc hN hT hS hFc (ci := 12) (q0 := 0) rfl rfl) rfl rfl hl.1 rfl (lv_room (Nat.le_of_ble_eq_true rfl)) dX12_behindSum_228 ⟨Nat.le_of_ble_eq_true rfl, Nat.le_of_ble_eq_true rfl⟩) hS (fun q _ h => hFc q h) hFc (fun u t H locs ht hvm hw hB hz1 hk1 hS => ?_)
                                            obtain ⟨hP1, hD1⟩ := hB
                                            have hP1 := g5_ht ht hP1
                                            obtain ⟨z223, (i_221 : 0 ≤ z223.toInt ∧ z223.toInt ≤ 400), (i_222 : z223.toInt = z218.toInt + 1), rfl⟩ := hw
                                            have hJ9 := va_join (wr := [(b_ws, (arJ G 8 v_ws)), (b_hw, (arJ G 4 v_hw)), (b_tp, (arI G 400 v_tp)), (b_op, (arI G 400 z219)), (b_ar, (arI G 400 z220))]) hP hD [3, 6, 7] [0, 1, 2, 4, 5] rfl rfl (by decide +kernel) (by decide +kernel) hk1 hFc hP1 hD1
                                            clear hP hD hPc hDc hFc ht hvm hz1 hk1 hP1 hD1
                                            obtain ⟨hP, hD⟩ := hJ9
                                            refine g5_rs [(b_ws, (arJ G 8 v_ws)), (b_hw, (arJ G 4 v_hw)), (b_tp, (arI G 400 v_tp)), (b_op, (arI G 400 z219)), (b_ar, (arI G 400 z220)), (b_o, (oc12 u_th u_sa b_rf b_ro b_im b_ke u_fd b_tp u_td z203 z204 z205 z206 u_fa u_bd u_nc b_nl z217 b_op b_ar u_le b_pi b_pa z223 u_od b_ws b_hw u_la b_se b_re u_bk u_va u_su u_ce u_ho u_wy u_bt u_ps b_pt u_tg u_sn b_ip u_ic b_ah b_be b_me u_wd b_tr b_ld u_st b_wn u_id)), (b_pi, (arI G 400 (upd v_pi z218.toNatClampNeg 26))), (b_pa, (arI G 400 (upd v_pa z218.toNatClampNeg 0)))] hP hD ?_
                                            clear hP hD
                                            intro hP hD
                                            refine lv_iconst (v := 1) hx hb dX12_behindSum_231 (by decide +kernel) ?_
                                            exact W.iret (v := 1) hx hb hr (fun t ht hW => ⟨⟨1, [(b_o, (oc12 u_th u_sa b_rf b_ro b_im b_ke u_fd b_tp u_td z203 z204 z205 z206 u_fa u_bd u_nc b_nl z217 b_op b_ar u_le b_pi b_pa z223 u_od b_ws b_hw u_la b_se b_re u_bk u_va u_su u_ce u_ho u_wy u_bt u_ps b_pt u_tg u_sn b_ip u_ic b_ah b_be b_me u_wd b_tr b_ld u_st b_wn u_id)), (b_tp, (arI G 400 v_tp)), (b_op, (arI G 400 z219)), (b_ar, (arI G 400 z220)), (b_pi, (arI G 400 (upd v_pi z218.toNatClampNeg 26))), (b_pa, (arI G 400 (upd v_pa z218.toNatClampNeg 0))), (b_ws, (arJ G 8 v_ws)), (b_hw, (arJ G 4 v_hw))], rfl, Or.inr (⟨1, z203, z204, z205, z206, z217, z223, u_od, z219, z220, (upd v_pi z218.toNatClampNeg 26), (upd v_pa z218.toNatClampNeg 0), i_198, i_199, i_209, i_221, ⟨by have zc_o_r : (1 : Int32).toInt = 1 := (by decide +kernel); omega, by have zc_o_r : (1 : Int32).toInt = 1 := (by decide +kernel); omega⟩, by omega, i_201, xj_push i_211 (by omega) (by omega) ⟨by decide, by decide⟩ (Or.inl (by decide +kernel)), tj_1 (hj_push2 i_212 (by omega) (by omega) ⟨by decide, by decide⟩ (Or.inr (no31_le (inn_no31 i_122 (tj_d1 e_j (by decide +kernel)) n_126) (by omega)))) (by decide +kernel), by have w9 := (twt_0 (by decide +kernel) : twt (1 : Int32).toInt = 0); omega, rq_t (rq_cmp (o := 26) hRC hFD (by rw [((tk_sign e_tp hTK (by decide +kernel) (by decide +kernel) (c := 61)).mpr i_195)]; decide) (by decide +kernel) (opM_0 (fun q8 => i_2 ((tk_sign e_tp hTK (by decide +kernel) (by decide +kernel) (c := 43)).mp q8)) (fun q8 => i_32 ((tk_sign e_tp hTK (by decide +kernel) (by decide +kernel) (c := 45)).mp q8)) (fun q8 => i_62 ((tk_sign e_tp hTK (by decide +kernel) (by decide +kernel) (c := 42)).mp q8)) (fun q8 => i_92 ((tk_sign e_tp hTK (by decide +kernel) (by decide +kernel) (c := 47)).mp q8))) (by rw [← i_123]; first | omega | (unfold gNe at *; omega)) (by rw [← i_123]; first | omega | (unfold gNe at *; omega)) i_129 (stl_c i_213 (by decide +kernel)) (toka_nx hTK i_202) (by omega) (by omega) (by omega)) (by decide +kernel), rfl, rfl⟩), by rw [ht]; exact hP.sub [5, 2, 3, 4, 6, 7, 0, 1] rfl, hD.sub [5, 2, 3, 4, 6, 7, 0, 1] (by decide +kernel) rfl⟩, hS.F ht⟩) hS.2.2 dX12_behindSum_232
                                      ·
                                        have hJ9 := va_join (wr := [(b_tp, (arI G 400 v_tp)), (b_op, (arI G 400 v_op)), (b_ar, (arI G 400 v_ar)), (b_ws, (arJ G 8 v_ws)), (b_hw, (arJ G 4 v_hw)), (b_pi, (arI G 400 v_pi)), (b_pa, (arI G 400 v_pa))]) hP hD [7] [0, 1, 2, 3, 4, 5, 6] rfl rfl (by decide +kernel) (by decide +kernel) hk1 hFc hP1 hD1
                                        clear hP hD hPc hDc hFc ht hvm hz1 hk1 hP1 hD1
                                        obtain ⟨hP, hD⟩ := hJ9
                                        refine g5_rs [(b_tp, (arI G 400 v_tp)), (b_op, (arI G 400 v_op)), (b_ar, (arI G 400 v_ar)), (b_ws, (arJ G 8 v_ws)), (b_hw, (arJ G 4 v_hw)), (b_pi, (arI G 400 v_pi)), (b_pa, (arI G 400 v_pa)), (b_o, (oc12 u_th u_sa b_rf b_ro b_im b_ke u_fd b_tp u_td u_fr u_to u_so u_wo u_fa u_bd u_nc b_nl u_co b_op b_ar u_le b_pi b_pa u_pd u_od b_ws b_hw u_la b_se b_re u_bk u_va u_su u_ce u_ho u_wy u_bt u_ps b_pt u_tg u_sn b_ip u_ic b_ah b_be b_me u_wd b_tr b_ld u_st b_wn u_id))] hP hD ?_
                                        clear hP hD
                                        intro hP hD
                                        refine lv_if_eq (tgt := 209) hx hb dX12_behindSum_202 (by decide +kernel) (fun c_224 => ?_) (fun c_224 => ?_)
                                        ·
                                          refine lv_iconst (v := 0) hx hb dX12_behindSum_209 (by decide +kernel) ?_
                                          obtain ⟨hPc, hDc, hFc⟩ := g5_sub3 (wc := [(b_o, (oc12 u_th u_sa b_rf b_ro b_im b_ke u_fd b_tp u_td u_fr u_to u_so u_wo u_fa u_bd u_nc b_nl u_co b_op b_ar u_le b_pi b_pa u_pd u_od b_ws b_hw u_la b_se b_re u_bk u_va u_su u_ce u_ho u_wy u_bt u_ps b_pt u_tg u_sn b_ip u_ic b_ah b_be b_me u_wd b_tr b_ld u_st b_wn u_id)), (b_tp, (arI G 400 v_tp))]) hP hD hS hA [7, 0] (by decide +kernel) rfl
                                          refine va_callv (va_runV (As := [.int 0]) (rest := []) ⟨hx, hb, hml, hown, hts⟩ (n_must0 l G b_o b_tp b_rf b_ro b_im b_ke b_nl b_op b_ar b_pi b_pa b_ws b_hw b_se b_re b_pt b_ip b_ah b_be b_me b_tr b_ld b_wn H.size u_th u_sa u_fd u_td u_fr u_to u_so u_fa u_bd u_nc u_co u_le u_pd u_od u_la u_bk u_ce u_ho u_wy u_bt u_ps u_tg u_sn u_ic u_wd u_id u_wo u_va u_su u_st v_tp h_u_td h_u_fr h_u_to h_u_bd h_u_nc h_u_co h_u_pd h_u_la h_u_bk h_u_ce h_u_ho h_u_wy h_u_bt h_u_ps h_u_ic h_u_id) (cwV 1 hts gV_X12_233 rfl rfl rfl hv_X12_must ⟨Nat.le_of_ble_eq_true rfl, Nat.le_of_ble_eq_true rfl⟩) (g5_preV hPc hK hDc hN hT hS hFc (ci := 12) (q0 := 0) rfl rfl) rfl rfl hl.1 rfl (lv_room (Nat.le_of_ble_eq_true rfl)) dX12_behindSum_210 ⟨Nat.le_of_ble_eq_true rfl, Nat.le_of_ble_eq_true rfl⟩) hS (fun q _ h => hFc q h) hFc (fun u t H locs ht hvm hw hB hz1 hk1 hS => ?_)
                                          obtain ⟨hP1, hD1⟩ := hB
                                          have hP1 := g5_ht ht hP1
                                          obtain rfl := hw
                                          have hJ9 := va_join (wr := [(b_op, (arI G 400 v_op)), (b_ar, (arI G 400 v_ar)), (b_ws, (arJ G 8 v_ws)), (b_hw, (arJ G 4 v_hw)), (b_pi, (arI G 400 v_pi)), (b_pa, (arI G 400 v_pa))]) hP hD [7, 0] [1, 2, 3, 4, 5, 6] rfl rfl (by decide +kernel) (by decide +kernel) hk1 hFc hP1 hD1
                                          clear hP hD hPc hDc hFc ht hvm hz1 hk1 hP1 hD1
                                          obtain ⟨hP, hD⟩ := hJ9
                                          refine g5_rs [(b_op, (arI G 400 v_op)), (b_ar, (arI G 400 v_ar)), (b_ws, (arJ G 8 v_ws)), (b_hw, (arJ G 4 v_hw)), (b_pi, (arI G 400 v_pi)), (b_pa, (arI G 400 v_pa)), (b_o, (oc12 u_th u_sa b_rf b_ro b_im b_ke u_fd b_tp u_td u_fr u_to u_so u_wo u_fr 1 u_nc b_nl u_co b_op b_ar u_le b_pi b_pa u_pd u_od b_ws b_hw u_la b_se b_re u_bk u_va u_su u_ce u_ho u_wy u_bt u_ps b_pt u_tg u_sn b_ip u_ic b_ah b_be b_me u_wd b_tr b_ld u_st b_wn u_id)), (b_tp, (arI G 400 v_tp))] hP hD ?_
                                          clear hP hD
                                          intro hP hD
                                          refine lv_aload_n hx hb dX12_behindSum_213 rfl (lv_at hl 2 rfl) ?_
                                          refine va_get (D := G.1) (ci := 12) (v := .int 1) (C := RX12) (T := TX12) (N := 52) hx hb hts inG_X12 hown hK hP 6 rfl rfl 14 (by decide +kernel) (hts _ fl_X12_205) (fun _ h9 => h9) rfl dX12_behindSum_214 ?_
                                          refine W.eq (g2 := F0 m 217 ls [.int 1]) rfl ?_
                                          refine lv_if_ne (tgt := 231) hx hb dX12_behindSum_217 (by decide +kernel) (fun c_225 => ?_) (fun c_225 => ?_)
                                          ·
                                            refine lv_iconst (v := 1) hx hb dX12_behindSum_231 (by decide +kernel) ?_
                                            exact W.iret (v := 1) hx hb hr (fun t ht hW => ⟨⟨1, [(b_o, (oc12 u_th u_sa b_rf b_ro b_im b_ke u_fd b_tp u_td u_fr u_to u_so u_wo u_fr 1 u_nc b_nl u_co b_op b_ar u_le b_pi b_pa u_pd u_od b_ws b_hw u_la b_se b_re u_bk u_va u_su u_ce u_ho u_wy u_bt u_ps b_pt u_tg u_sn b_ip u_ic b_ah b_be b_me u_wd b_tr b_ld u_st b_wn u_id)), (b_tp, (arI G 400 v_tp)), (b_op, (arI G 400 v_op)), (b_ar, (arI G 400 v_ar)), (b_pi, (arI G 400 v_pi)), (b_pa, (arI G 400 v_pa)), (b_ws, (arJ G 8 v_ws)), (b_hw, (arJ G 4 v_hw))], rfl, Or.inl (⟨1, ⟨by have zc_o_r : (1 : Int32).toInt = 1 := (by decide +kernel); omega, by have zc_o_r : (1 : Int32).toInt = 1 := (by decide +kernel); omega⟩, rq_t (rq_cmpB hRC hFD (cpM_0 (fun q8 => i_133 ((tk_sign e_tp hTK (by decide +kernel) (by decide +kernel) (c := 60)).mp q8)) (fun q8 => i_164 ((tk_sign e_tp hTK (by decide +kernel) (by decide +kernel) (c := 62)).mp q8)) (fun q8 => i_196 ((tk_sign e_tp hTK (by decide +kernel) (by decide +kernel) (c := 61)).mp q8))) (opM_0 (fun q8 => i_2 ((tk_sign e_tp hTK (by decide +kernel) (by decide +kernel) (c := 43)).mp q8)) (fun q8 => i_32 ((tk_sign e_tp hTK (by decide +kernel) (by decide +kernel) (c := 45)).mp q8)) (fun q8 => i_62 ((tk_sign e_tp hTK (by decide +kernel) (by decide +kernel) (c := 42)).mp q8)) (fun q8 => i_92 ((tk_sign e_tp hTK (by decide +kernel) (by decide +kernel) (c := 47)).mp q8))) (by rw [← i_123]; first | omega | (unfold gNe at *; omega)) (by rw [← i_123]; first | omega | (unfold gNe at *; omega)) i_129) (by decide +kernel), rfl, rfl⟩), by rw [ht]; exact hP.sub [6, 7, 0, 1, 4, 5, 2, 3] rfl, hD.sub [6, 7, 0, 1, 4, 5, 2, 3] (by decide +kernel) rfl⟩, hS.F ht⟩) hS.2.2 dX12_behindSum_232
                                          ·
                                            exact absurd c_225 (by decide +kernel)
                                        ·
                                          exact absurd c_224 (by decide +kernel)
                                  ·
                                    exact absurd c_193 (by decide +kernel)
                              ·
                                exact absurd c_162 (by decide +kernel)
                          ·
                            exact absurd c_131 (by decide +kernel)
                      ·
                        have i_127 : z124.toInt = (-1) := g5_neN (a := z124.toInt) (b := (-1)) rfl (by decide +kernel) c_127
                        refine lv_iload_n hx hb dX12_behindSum_143 rfl (lv_at hl 3 rfl) ?_
                        refine lv_if_ne (tgt := 149) hx hb dX12_behindSum_144 (by decide +kernel) (fun c_226 => ?_) (fun c_226 => ?_)
                        ·
                          have n_226 : gNe (p_1.toInt) (0) := g5_ne (a := p_1.toInt) (b := 0) rfl (by decide +kernel) c_226
                          have i_226 : p_1.toInt ≥ 1 := by have z := g5_ne (a := p_1.toInt) (b := 0) (by rfl) (by decide +kernel) c_226; omega
                          refine lv_aload_n hx hb dX12_behindSum_149 rfl (lv_at hl 2 rfl) ?_
                          obtain ⟨hPc, hDc, hFc⟩ := g5_sub3 (wc := [(b_o, (oc12 u_th u_sa b_rf b_ro b_im b_ke u_fd b_tp u_td u_fr u_to u_so u_wo u_fa u_bd u_nc b_nl u_co b_op b_ar u_le b_pi b_pa u_pd u_od b_ws b_hw u_la b_se b_re u_bk u_va u_su u_ce u_ho u_wy u_bt u_ps b_pt u_tg u_sn b_ip u_ic b_ah b_be b_me u_wd b_tr b_ld u_st b_wn u_id)), (b_pi, (arI G 400 v_pi)), (b_pa, (arI G 400 v_pa))]) hP hD hS hA [5, 6, 7] (by decide +kernel) rfl
                          refine va_calli (va_runV (As := []) (rest := []) ⟨hx, hb, hml, hown, hts⟩ (n_isComparedX l G b_o b_pi b_pa b_rf b_ro b_im b_ke b_tp b_nl b_op b_ar b_ws b_hw b_se b_re b_pt b_ip b_ah b_be b_me b_tr b_ld b_wn H.size u_th u_sa u_fd u_td u_fr u_to u_so u_fa u_bd u_nc u_co u_le u_pd u_od u_la u_bk u_ce u_ho u_wy u_bt u_ps u_tg u_sn u_ic u_wd u_id u_wo u_va u_su u_st v_pi v_pa h_u_td h_u_fr h_u_to ⟨by omega, by omega⟩ h_u_nc h_u_co h_u_pd h_u_la h_u_bk h_u_ce h_u_ho h_u_wy h_u_bt h_u_ps h_u_ic h_u_id) (cwV 0 hts gV_X12_294 rfl rfl rfl hv_X12_isCompared ⟨Nat.le_of_ble_eq_true rfl, Nat.le_of_ble_eq_true rfl⟩) (g5_preV hPc hK hDc hN hT hS hFc (ci := 12) (q0 := 0) rfl rfl) rfl rfl hl.1 rfl (lv_room (Nat.le_of_ble_eq_true rfl)) dX12_behindSum_150 ⟨Nat.le_of_ble_eq_true rfl, Nat.le_of_ble_eq_true rfl⟩) hS (fun q _ h => hFc q h) hFc (fun r u t H locs ht hvm hw hB hz1 hk1 hS => ?_)
                          obtain ⟨hP1, hD1⟩ := hB
                          have hP1 := g5_ht ht hP1
                          rcases hw with ⟨(i_227 : cmpd (plL v_pi v_pa u_pd.toInt.toNat) = true), rfl, rfl⟩ | ⟨(i_228 : cmpd (plL v_pi v_pa u_pd.toInt.toNat) = false), rfl, rfl⟩
                          ·
                            have hJ9 := va_join (wr := [(b_tp, (arI G 400 v_tp)), (b_op, (arI G 400 v_op)), (b_ar, (arI G 400 v_ar)), (b_ws, (arJ G 8 v_ws)), (b_hw, (arJ G 4 v_hw))]) hP hD [5, 6, 7] [0, 1, 2, 3, 4] rfl rfl (by decide +kernel) (by decide +kernel) hk1 hFc hP1 hD1
                            clear hP hD hPc hDc hFc ht hvm hz1 hk1 hP1 hD1
                            obtain ⟨hP, hD⟩ := hJ9
                            refine g5_rs [(b_tp, (arI G 400 v_tp)), (b_op, (arI G 400 v_op)), (b_ar, (arI G 400 v_ar)), (b_ws, (arJ G 8 v_ws)), (b_hw, (arJ G 4 v_hw)), (b_o, (oc12 u_th u_sa b_rf b_ro b_im b_ke u_fd b_tp u_td u_fr u_to u_so u_wo u_fa u_bd u_nc b_nl u_co b_op b_ar u_le b_pi b_pa u_pd u_od b_ws b_hw u_la b_se b_re u_bk u_va u_su u_ce u_ho u_wy u_bt u_ps b_pt u_tg u_sn b_ip u_ic b_ah b_be b_me u_wd b_tr b_ld u_st b_wn u_id)), (b_pi, (arI G 400 v_pi)), (b_pa, (arI G 400 v_pa))] hP hD ?_
                            clear hP hD
                            intro hP hD
                            refine lv_if_eq (tgt := 158) hx hb dX12_behindSum_153 (by decide +kernel) (fun c_229 => ?_) (fun c_229 => ?_)
                            ·
                              exact absurd c_229 (by decide +kernel)
                            ·
                              refine lv_iconst (v := 2) hx hb dX12_behindSum_156 (by decide +kernel) ?_
                              exact W.iret (v := 2) hx hb hr (fun t ht hW => ⟨⟨2, [(b_o, (oc12 u_th u_sa b_rf b_ro b_im b_ke u_fd b_tp u_td u_fr u_to u_so u_wo u_fa u_bd u_nc b_nl u_co b_op b_ar u_le b_pi b_pa u_pd u_od b_ws b_hw u_la b_se b_re u_bk u_va u_su u_ce u_ho u_wy u_bt u_ps b_pt u_tg u_sn b_ip u_ic b_ah b_be b_me u_wd b_tr b_ld u_st b_wn u_id)), (b_tp, (arI G 400 v_tp)), (b_op, (arI G 400 v_op)), (b_ar, (arI G 400 v_ar)), (b_pi, (arI G 400 v_pi)), (b_pa, (arI G 400 v_pa)), (b_ws, (arJ G 8 v_ws)), (b_hw, (arJ G 4 v_hw))], rfl, Or.inr (⟨2, u_fr, u_to, u_so, u_wo, u_co, u_pd, u_od, v_op, v_ar, v_pi, v_pa, h_u_fr, h_u_to, h_u_co, h_u_pd, ⟨by have zc_o_r : (2 : Int32).toInt = 2 := (by decide +kernel); omega, by have zc_o_r : (2 : Int32).toInt = 2 := (by decide +kernel); omega⟩, by omega, e_s, e_x, tj_2 (tj_d1 e_j (by decide +kernel)) (by decide +kernel) (inn_no31 i_122 (tj_d1 e_j (by decide +kernel)) n_126), by have w9 := (twt_2 (by decide +kernel) : twt (2 : Int32).toInt = 1); omega, rq_t (rq_told hRC hFD (opM_0 (fun q8 => i_2 ((tk_sign e_tp hTK (by decide +kernel) (by decide +kernel) (c := 43)).mp q8)) (fun q8 => i_32 ((tk_sign e_tp hTK (by decide +kernel) (by decide +kernel) (c := 45)).mp q8)) (fun q8 => i_62 ((tk_sign e_tp hTK (by decide +kernel) (by decide +kernel) (c := 42)).mp q8)) (fun q8 => i_92 ((tk_sign e_tp hTK (by decide +kernel) (by decide +kernel) (c := 47)).mp q8))) (by rw [← i_123]; first | omega | (unfold gNe at *; omega)) (by rw [← i_123]; first | omega | (unfold gNe at *; omega)) i_227) (by decide +kernel), rfl, rfl⟩), by rw [ht]; exact hP.sub [5, 0, 1, 2, 6, 7, 3, 4] rfl, hD.sub [5, 0, 1, 2, 6, 7, 3, 4] (by decide +kernel) rfl⟩, hS.F ht⟩) hS.2.2 dX12_behindSum_157
                          ·
                            have hJ9 := va_join (wr := [(b_tp, (arI G 400 v_tp)), (b_op, (arI G 400 v_op)), (b_ar, (arI G 400 v_ar)), (b_ws, (arJ G 8 v_ws)), (b_hw, (arJ G 4 v_hw))]) hP hD [5, 6, 7] [0, 1, 2, 3, 4] rfl rfl (by decide +kernel) (by decide +kernel) hk1 hFc hP1 hD1
                            clear hP hD hPc hDc hFc ht hvm hz1 hk1 hP1 hD1
                            obtain ⟨hP, hD⟩ := hJ9
                            refine g5_rs [(b_tp, (arI G 400 v_tp)), (b_op, (arI G 400 v_op)), (b_ar, (arI G 400 v_ar)), (b_ws, (arJ G 8 v_ws)), (b_hw, (arJ G 4 v_hw)), (b_o, (oc12 u_th u_sa b_rf b_ro b_im b_ke u_fd b_tp u_td u_fr u_to u_so u_wo u_fa u_bd u_nc b_nl u_co b_op b_ar u_le b_pi b_pa u_pd u_od b_ws b_hw u_la b_se b_re u_bk u_va u_su u_ce u_ho u_wy u_bt u_ps b_pt u_tg u_sn b_ip u_ic b_ah b_be b_me u_wd b_tr b_ld u_st b_wn u_id)), (b_pi, (arI G 400 v_pi)), (b_pa, (arI G 400 v_pa))] hP hD ?_
                            clear hP hD
                            intro hP hD
                            refine lv_if_eq (tgt := 158) hx hb dX12_behindSum_153 (by decide +kernel) (fun c_230 => ?_) (fun c_230 => ?_)
                            ·
                              refine lv_aload_n hx hb dX12_behindSum_158 rfl (lv_at hl 2 rfl) ?_
                              refine lv_bipush (v := 60) hx hb dX12_behindSum_159 (by decide +kernel) ?_
                              obtain ⟨hPc, hDc, hFc⟩ := g5_sub3 (wc := [(b_o, (oc12 u_th u_sa b_rf b_ro b_im b_ke u_fd b_tp u_td u_fr u_to u_so u_wo u_fa u_bd u_nc b_nl u_co b_op b_ar u_le b_pi b_pa u_pd u_od b_ws b_hw u_la b_se b_re u_bk u_va u_su u_ce u_ho u_wy u_bt u_ps b_pt u_tg u_sn b_ip u_ic b_ah b_be b_me u_wd b_tr b_ld u_st b_wn u_id))]) hP hD hS hA [5] (by decide +kernel) rfl
                              refine va_calli (va_runV (As := [.int 60]) (rest := []) ⟨hx, hb, hml, hown, hts⟩ (n_isSignX60 l G b_o b_rf b_ro b_im b_ke b_tp b_nl b_op b_ar b_pi b_pa b_ws b_hw b_se b_re b_pt b_ip b_ah b_be b_me b_tr b_ld b_wn H.size u_th u_sa u_fd u_td u_fr u_to u_so u_fa u_bd u_nc u_co u_le u_pd u_od u_la u_bk u_ce u_ho u_wy u_bt u_ps u_tg u_sn u_ic u_wd u_id u_wo u_va u_su u_st h_u_td h_u_fr h_u_to ⟨by omega, by omega⟩ h_u_nc h_u_co h_u_pd h_u_la h_u_bk h_u_ce h_u_ho h_u_wy h_u_bt h_u_ps h_u_ic h_u_id) (cwV 1 hts gV_X12_267 rfl rfl rfl hv_X12_isSign ⟨Nat.le_of_ble_eq_true rfl, Nat.le_of_ble_eq_true rfl⟩) (g5_preV hPc hK hDc hN hT hS hFc (ci := 12) (q0 := 0) rfl rfl) rfl rfl hl.1 rfl (lv_room (Nat.le_of_ble_eq_true rfl)) dX12_behindSum_161 ⟨Nat.le_of_ble_eq_true rfl, Nat.le_of_ble_eq_true rfl⟩) hS (fun q _ h => hFc q h) hFc (fun r u t H locs ht hvm hw hB hz1 hk1 hS => ?_)
                              obtain ⟨hP1, hD1⟩ := hB
                              have hP1 := g5_ht ht hP1
                              rcases hw with ⟨(i_231 : u_so.toInt = 3 ∧ u_wo.toInt = 60), rfl, rfl⟩ | ⟨(i_232 : ¬ (u_so.toInt = 3 ∧ u_wo.toInt = 60)), rfl, rfl⟩
                              ·
                                have hJ9 := va_join (wr := [(b_tp, (arI G 400 v_tp)), (b_op, (arI G 400 v_op)), (b_ar, (arI G 400 v_ar)), (b_ws, (arJ G 8 v_ws)), (b_hw, (arJ G 4 v_hw)), (b_pi, (arI G 400 v_pi)), (b_pa, (arI G 400 v_pa))]) hP hD [5] [0, 1, 2, 3, 4, 6, 7] rfl rfl (by decide +kernel) (by decide +kernel) hk1 hFc hP1 hD1
                                clear hP hD hPc hDc hFc ht hvm hz1 hk1 hP1 hD1
                                obtain ⟨hP, hD⟩ := hJ9
                                refine g5_rs [(b_tp, (arI G 400 v_tp)), (b_op, (arI G 400 v_op)), (b_ar, (arI G 400 v_ar)), (b_ws, (arJ G 8 v_ws)), (b_hw, (arJ G 4 v_hw)), (b_pi, (arI G 400 v_pi)), (b_pa, (arI G 400 v_pa)), (b_o, (oc12 u_th u_sa b_rf b_ro b_im b_ke u_fd b_tp u_td u_fr u_to u_so u_wo u_fa u_bd u_nc b_nl u_co b_op b_ar u_le b_pi b_pa u_pd u_od b_ws b_hw u_la b_se b_re u_bk u_va u_su u_ce u_ho u_wy u_bt u_ps b_pt u_tg u_sn b_ip u_ic b_ah b_be b_me u_wd b_tr b_ld u_st b_wn u_id))] hP hD ?_
                                clear hP hD
                                intro hP hD
                                refine lv_if_eq (tgt := 172) hx hb dX12_behindSum_164 (by decide +kernel) (fun c_233 => ?_) (fun c_233 => ?_)
                                ·
                                  exact absurd c_233 (by decide +kernel)
                                ·
                                  refine lv_bipush (v := 24) hx hb dX12_behindSum_167 (by decide +kernel) ?_
                                  refine lv_goto (tgt := 188) hx hb dX12_behindSum_169 (by decide +kernel) ?_
                                  refine lv_istore_n (lv' := [(2, .int 24), (3, .int z124), (0, .ref b_o), (1, .int p_1)]) hx hb dX12_behindSum_188 rfl hl (by decide +kernel) rfl ?_
                                  clear hl
                                  intro ls hl
                                  refine lv_aload_n hx hb dX12_behindSum_189 rfl (lv_at hl 2 rfl) ?_
                                  refine W.eq (g2 := F0 m 190 ls [.ref b_o]) rfl ?_
                                  refine lv_iload_n hx hb dX12_behindSum_190 rfl (lv_at hl 0 rfl) ?_
                                  refine lv_bipush (v := 26) hx hb dX12_behindSum_191 (by decide +kernel) ?_
                                  refine lv_icmp_ne (tgt := 205) hx hb dX12_behindSum_193 (by decide +kernel) (fun c_234 => ?_) (fun c_234 => ?_)
                                  ·
                                    refine lv_iconst (v := 1) hx hb dX12_behindSum_205 (by decide +kernel) ?_
                                    refine lv_goto (tgt := 210) hx hb dX12_behindSum_206 (by decide +kernel) ?_
                                    have hlt9 : u_fr.toInt < u_to.toInt := tks_lt e_s (by omega)
                                    obtain ⟨hPc, hDc, hFc⟩ := g5_sub3 (wc := [(b_o, (oc12 u_th u_sa b_rf b_ro b_im b_ke u_fd b_tp u_td u_fr u_to u_so u_wo u_fa u_bd u_nc b_nl u_co b_op b_ar u_le b_pi b_pa u_pd u_od b_ws b_hw u_la b_se b_re u_bk u_va u_su u_ce u_ho u_wy u_bt u_ps b_pt u_tg u_sn b_ip u_ic b_ah b_be b_me u_wd b_tr b_ld u_st b_wn u_id)), (b_tp, (arI G 400 v_tp))]) hP hD hS hA [7, 0] (by decide +kernel) rfl
                                    refine va_callv (va_runV (As := [.int 1]) (rest := []) ⟨hx, hb, hml, hown, hts⟩ (n_must1X l G b_o b_tp b_rf b_ro b_im b_ke b_nl b_op b_ar b_pi b_pa b_ws b_hw b_se b_re b_pt b_ip b_ah b_be b_me b_tr b_ld b_wn H.size u_th u_sa u_fd u_td u_fr u_to u_so u_fa u_bd u_nc u_co u_le u_pd u_od u_la u_bk u_ce u_ho u_wy u_bt u_ps u_tg u_sn u_ic u_wd u_id u_wo u_va u_su u_st v_tp h_u_td h_u_fr h_u_to h_u_bd h_u_nc h_u_co h_u_pd h_u_la h_u_bk h_u_ce h_u_ho h_u_wy h_u_bt h_u_ps h_u_ic h_u_id (by omega)) (cwV 1 hts gV_X12_233 rfl rfl rfl hv_X12_must ⟨Nat.le_of_ble_eq_true rfl, Nat.le_of_ble_eq_true rfl⟩) (g5_preV hPc hK hDc hN hT hS hFc (ci := 12) (q0 := 0) rfl rfl) rfl rfl hl.1 rfl (lv_room (Nat.le_of_ble_eq_true rfl)) dX12_behindSum_210 ⟨Nat.le_of_ble_eq_true rfl, Nat.le_of_ble_eq_true rfl⟩) hS (fun q _ h => hFc q h) hFc (fun u t H locs ht hvm hw hB hz1 hk1 hS => ?_)
                                    obtain ⟨hP1, hD1⟩ := hB
                                    have hP1 := g5_ht ht hP1
                                    obtain ⟨z240, z241, z242, z243, (i_235 : 0 ≤ z240.toInt ∧ z240.toInt ≤ 400), (i_236 : 0 ≤ z241.toInt ∧ z241.toInt ≤ 400), (i_237 : u_to.toInt ≤ z240.toInt ∧ z240.toInt ≤ z241.toInt ∧ z241.toInt ≤ u_td.toInt), (i_238 : TKs z242.toInt z240.toInt z241.toInt), (i_239 : TOKA v_tp u_td.toInt.toNat (skT v_tp u_td.toInt.toNat u_to.toInt.toNat) z240 z241 z242 z243), rfl⟩ := hw
                                    have hJ9 := va_join (wr := [(b_op, (arI G 400 v_op)), (b_ar, (arI G 400 v_ar)), (b_ws, (arJ G 8 v_ws)), (b_hw, (arJ G 4 v_hw)), (b_pi, (arI G 400 v_pi)), (b_pa, (arI G 400 v_pa))]) hP hD [7, 0] [1, 2, 3, 4, 5, 6] rfl rfl (by decide +kernel) (by decide +kernel) hk1 hFc hP1 hD1
                                    clear hP hD hPc hDc hFc ht hvm hz1 hk1 hP1 hD1
                                    obtain ⟨hP, hD⟩ := hJ9
                                    refine g5_rs [(b_op, (arI G 400 v_op)), (b_ar, (arI G 400 v_ar)), (b_ws, (arJ G 8 v_ws)), (b_hw, (arJ G 4 v_hw)), (b_pi, (arI G 400 v_pi)), (b_pa, (arI G 400 v_pa)), (b_o, (oc12 u_th u_sa b_rf b_ro b_im b_ke u_fd b_tp u_td z240 z241 z242 z243 u_fa u_bd u_nc b_nl u_co b_op b_ar u_le b_pi b_pa u_pd u_od b_ws b_hw u_la b_se b_re u_bk u_va u_su u_ce u_ho u_wy u_bt u_ps b_pt u_tg u_sn b_ip u_ic b_ah b_be b_me u_wd b_tr b_ld u_st b_wn u_id)), (b_tp, (arI G 400 v_tp))] hP hD ?_
                                    clear hP hD
                                    intro hP hD
                                    refine lv_aload_n hx hb dX12_behindSum_213 rfl (lv_at hl 2 rfl) ?_
                                    refine W.eq (g2 := F0 m 214 ls [.ref b_o]) rfl ?_
                                    refine va_get (D := G.1) (ci := 12) (v := .int u_bd) (C := RX12) (T := TX12) (N := 52) hx hb hts inG_X12 hown hK hP 6 rfl rfl 14 (by decide +kernel) (hts _ fl_X12_205) (fun _ h9 => h9) rfl dX12_behindSum_214 ?_
                                    refine lv_if_ne (tgt := 231) hx hb dX12_behindSum_217 (by decide +kernel) (fun c_244 => ?_) (fun c_244 => ?_)
                                    ·
                                      have i_244 : u_bd.toInt ≠ 0 := g5_ne (a := u_bd.toInt) (b := 0) rfl (by decide +kernel) c_244
                                      omega
                                    ·
                                      have i_244 : u_bd.toInt = 0 := g5_neN (a := u_bd.toInt) (b := 0) rfl (by decide +kernel) c_244
                                      have hE_245 : HJ v_op v_ar v_pi v_pa g_a.toInt u_co.toInt u_pd.toInt 1 := tj_d1 e_j (by decide +kernel)
                                      refine lv_aload_n hx hb dX12_behindSum_220 rfl (lv_at hl 2 rfl) ?_
                                      refine lv_iconst (v := 5) hx hb dX12_behindSum_221 (by decide +kernel) ?_
                                      obtain ⟨hPc, hDc, hFc⟩ := g5_sub3 (wc := [(b_o, (oc12 u_th u_sa b_rf b_ro b_im b_ke u_fd b_tp u_td z240 z241 z242 z243 u_fa u_bd u_nc b_nl u_co b_op b_ar u_le b_pi b_pa u_pd u_od b_ws b_hw u_la b_se b_re u_bk u_va u_su u_ce u_ho u_wy u_bt u_ps b_pt u_tg u_sn b_ip u_ic b_ah b_be b_me u_wd b_tr b_ld u_st b_wn u_id)), (b_op, (arI G 400 v_op)), (b_ar, (arI G 400 v_ar)), (b_pi, (arI G 400 v_pi)), (b_pa, (arI G 400 v_pa))]) hP hD hS hA [6, 0, 1, 4, 5] (by decide +kernel) rfl
                                      refine va_callv (va_runV (As := [.int 5]) (rest := []) ⟨hx, hb, hml, hown, hts⟩ (n_settleX l G b_o b_op b_ar b_pi b_pa b_rf b_ro b_im b_ke b_tp b_nl b_ws b_hw b_se b_re b_pt b_ip b_ah b_be b_me b_tr b_ld b_wn H.size u_th u_sa u_fd u_td z240 z241 z242 u_fa u_bd u_nc u_co u_le u_pd u_od u_la u_bk u_ce u_ho u_wy u_bt u_ps u_tg u_sn u_ic u_wd u_id 5 g_a u_fr z243 u_va u_su u_st v_op v_ar v_pi v_pa g_op g_ar h_u_td i_235 i_236 ⟨by omega, by omega⟩ h_u_nc h_u_co h_u_pd h_u_la h_u_bk h_u_ce h_u_ho h_u_wy h_u_bt h_u_ps h_u_ic h_u_id ⟨by decide, by decide⟩ (by omega) (e_x) (hE_245)) (cwV 1 hts gV_X12_288 rfl rfl rfl hv_X12_settle ⟨Nat.le_of_ble_eq_true rfl, Nat.le_of_ble_eq_true rfl⟩) (g5_preV hPc hK hDc hN hT hS hFc (ci := 12) (q0 := 0) rfl rfl) rfl rfl hl.1 rfl (lv_room (Nat.le_of_ble_eq_true rfl)) dX12_behindSum_222 ⟨Nat.le_of_ble_eq_true rfl, Nat.le_of_ble_eq_true rfl⟩) hS (fun q _ h => hFc q h) hFc (fun u t H locs ht hvm hw hB hz1 hk1 hS => ?_)
                                      obtain ⟨hP1, hD1⟩ := hB
                                      have hP1 := g5_ht ht hP1
                                      obtain ⟨z254, z255, z256, z257, (i_246 : 0 ≤ z254.toInt ∧ z254.toInt ≤ 400), (i_247 : 0 ≤ z255.toInt ∧ z255.toInt ≤ 400), (i_248 : XJ g_op g_ar z256 z257 v_pi v_pa g_a.toInt z254.toInt z255.toInt u_fr.toInt), (i_249 : HJ z256 z257 v_pi v_pa g_a.toInt z254.toInt z255.toInt 1), (i_250 : stl (5 : Int32).toInt (plL v_pi v_pa u_pd.toInt.toNat) (v_op, v_ar, u_co.toInt.toNat) = (plL v_pi v_pa z255.toInt.toNat, (z256, z257, z254.toInt.toNat))), (i_251 : S1 v_pi u_pd.toInt z255.toInt), (i_252 : S2 v_pi z255.toInt (5 : Int32).toInt), (i_253 : z255.toInt ≤ u_pd.toInt), rfl⟩ := hw
                                      have hJ9 := va_join (wr := [(b_ws, (arJ G 8 v_ws)), (b_hw, (arJ G 4 v_hw)), (b_tp, (arI G 400 v_tp))]) hP hD [6, 0, 1, 4, 5] [2, 3, 7] rfl rfl (by decide +kernel) (by decide +kernel) hk1 hFc hP1 hD1
                                      clear hP hD hPc hDc hFc ht hvm hz1 hk1 hP1 hD1
                                      obtain ⟨hP, hD⟩ := hJ9
                                      refine g5_rs [(b_ws, (arJ G 8 v_ws)), (b_hw, (arJ G 4 v_hw)), (b_tp, (arI G 400 v_tp)), (b_o, (oc12 u_th u_sa b_rf b_ro b_im b_ke u_fd b_tp u_td z240 z241 z242 z243 u_fa u_bd u_nc b_nl z254 b_op b_ar u_le b_pi b_pa z255 u_od b_ws b_hw u_la b_se b_re u_bk u_va u_su u_ce u_ho u_wy u_bt u_ps b_pt u_tg u_sn b_ip u_ic b_ah b_be b_me u_wd b_tr b_ld u_st b_wn u_id)), (b_op, (arI G 400 z256)), (b_ar, (arI G 400 z257)), (b_pi, (arI G 400 v_pi)), (b_pa, (arI G 400 v_pa))] hP hD ?_
                                      clear hP hD
                                      intro hP hD
                                      have hmf8 := xj_mf i_248
                                      refine lv_aload_n hx hb dX12_behindSum_225 rfl (lv_at hl 2 rfl) ?_
                                      refine W.eq (g2 := F0 m 226 ls [.ref b_o]) rfl ?_
                                      refine lv_iload_n hx hb dX12_behindSum_226 rfl (lv_at hl 0 rfl) ?_
                                      refine lv_iconst (v := 0) hx hb dX12_behindSum_227 (by decide +kernel) ?_
                                      obtain ⟨hPc, hDc, hFc⟩ := g5_sub3 (wc := [(b_o, (oc12 u_th u_sa b_rf b_ro b_im b_ke u_fd b_tp u_td z240 z241 z242 z243 u_fa u_bd u_nc b_nl z254 b_op b_ar u_le b_pi b_pa z255 u_od b_ws b_hw u_la b_se b_re u_bk u_va u_su u_ce u_ho u_wy u_bt u_ps b_pt u_tg u_sn b_ip u_ic b_ah b_be b_me u_wd b_tr b_ld u_st b_wn u_id)), (b_pi, (arI G 400 v_pi)), (b_pa, (arI G 400 v_pa))]) hP hD hS hA [3, 6, 7] (by decide +kernel) rfl
                                      refine va_callv (va_runV (As := [.int 24, .int 0]) (rest := []) ⟨hx, hb, hml, hown, hts⟩ (n_push l G b_o b_pi b_pa b_rf b_ro b_im b_ke b_tp b_nl b_op b_ar b_ws b_hw b_se b_re b_pt b_ip b_ah b_be b_me b_tr b_ld b_wn H.size u_th u_sa u_fd u_td z240 z241 z242 u_fa u_bd u_nc z254 u_le z255 u_od u_la u_bk u_ce u_ho u_wy u_bt u_ps u_tg u_sn u_ic u_wd u_id 24 0 z243 u_va u_su u_st v_pi v_pa h_u_td i_235 i_236 ⟨by omega, by omega⟩ h_u_nc i_246 i_247 h_u_la h_u_bk h_u_ce h_u_ho h_u_wy h_u_bt h_u_ps h_u_ic h_u_id (by omega)) (cwV 2 hts gV_X12_261 rfl rfl rfl hv_X12_push ⟨Nat.le_of_ble_eq_true rfl, Nat.le_of_ble_eq_true rfl⟩) (g5_preV hPc hK hDc hN hT hS hFc (ci := 12) (q0 := 0) rfl rfl) rfl rfl hl.1 rfl (lv_room (Nat.le_of_ble_eq_true rfl)) dX12_behindSum_228 ⟨Nat.le_of_ble_eq_true rfl, Nat.le_of_ble_eq_true rfl⟩) hS (fun q _ h => hFc q h) hFc (fun u t H locs ht hvm hw hB hz1 hk1 hS => ?_)
                                      obtain ⟨hP1, hD1⟩ := hB
                                      have hP1 := g5_ht ht hP1
                                      obtain ⟨z260, (i_258 : 0 ≤ z260.toInt ∧ z260.toInt ≤ 400), (i_259 : z260.toInt = z255.toInt + 1), rfl⟩ := hw
                                      have hJ9 := va_join (wr := [(b_ws, (arJ G 8 v_ws)), (b_hw, (arJ G 4 v_hw)), (b_tp, (arI G 400 v_tp)), (b_op, (arI G 400 z256)), (b_ar, (arI G 400 z257))]) hP hD [3, 6, 7] [0, 1, 2, 4, 5] rfl rfl (by decide +kernel) (by decide +kernel) hk1 hFc hP1 hD1
                                      clear hP hD hPc hDc hFc ht hvm hz1 hk1 hP1 hD1
                                      obtain ⟨hP, hD⟩ := hJ9
                                      refine g5_rs [(b_ws, (arJ G 8 v_ws)), (b_hw, (arJ G 4 v_hw)), (b_tp, (arI G 400 v_tp)), (b_op, (arI G 400 z256)), (b_ar, (arI G 400 z257)), (b_o, (oc12 u_th u_sa b_rf b_ro b_im b_ke u_fd b_tp u_td z240 z241 z242 z243 u_fa u_bd u_nc b_nl z254 b_op b_ar u_le b_pi b_pa z260 u_od b_ws b_hw u_la b_se b_re u_bk u_va u_su u_ce u_ho u_wy u_bt u_ps b_pt u_tg u_sn b_ip u_ic b_ah b_be b_me u_wd b_tr b_ld u_st b_wn u_id)), (b_pi, (arI G 400 (upd v_pi z255.toNatClampNeg 24))), (b_pa, (arI G 400 (upd v_pa z255.toNatClampNeg 0)))] hP hD ?_
                                      clear hP hD
                                      intro hP hD
                                      refine lv_iconst (v := 1) hx hb dX12_behindSum_231 (by decide +kernel) ?_
                                      exact W.iret (v := 1) hx hb hr (fun t ht hW => ⟨⟨1, [(b_o, (oc12 u_th u_sa b_rf b_ro b_im b_ke u_fd b_tp u_td z240 z241 z242 z243 u_fa u_bd u_nc b_nl z254 b_op b_ar u_le b_pi b_pa z260 u_od b_ws b_hw u_la b_se b_re u_bk u_va u_su u_ce u_ho u_wy u_bt u_ps b_pt u_tg u_sn b_ip u_ic b_ah b_be b_me u_wd b_tr b_ld u_st b_wn u_id)), (b_tp, (arI G 400 v_tp)), (b_op, (arI G 400 z256)), (b_ar, (arI G 400 z257)), (b_pi, (arI G 400 (upd v_pi z255.toNatClampNeg 24))), (b_pa, (arI G 400 (upd v_pa z255.toNatClampNeg 0))), (b_ws, (arJ G 8 v_ws)), (b_hw, (arJ G 4 v_hw))], rfl, Or.inr (⟨1, z240, z241, z242, z243, z254, z260, u_od, z256, z257, (upd v_pi z255.toNatClampNeg 24), (upd v_pa z255.toNatClampNeg 0), i_235, i_236, i_246, i_258, ⟨by have zc_o_r : (1 : Int32).toInt = 1 := (by decide +kernel); omega, by have zc_o_r : (1 : Int32).toInt = 1 := (by decide +kernel); omega⟩, by omega, i_238, xj_push i_248 (by omega) (by omega) ⟨by decide, by decide⟩ (Or.inl (by decide +kernel)), tj_1 (hj_push2 i_249 (by omega) (by omega) ⟨by decide, by decide⟩ (Or.inr (no31_le (inn_no31 i_122 (tj_d1 e_j (by decide +kernel)) n_126) (by omega)))) (by decide +kernel), by have w9 := (twt_0 (by decide +kernel) : twt (1 : Int32).toInt = 0); omega, rq_t (rq_cmp (o := 24) hRC hFD (by rw [((tk_sign e_tp hTK (by decide +kernel) (by decide +kernel) (c := 60)).mpr i_231)]; decide) (by decide +kernel) (opM_0 (fun q8 => i_2 ((tk_sign e_tp hTK (by decide +kernel) (by decide +kernel) (c := 43)).mp q8)) (fun q8 => i_32 ((tk_sign e_tp hTK (by decide +kernel) (by decide +kernel) (c := 45)).mp q8)) (fun q8 => i_62 ((tk_sign e_tp hTK (by decide +kernel) (by decide +kernel) (c := 42)).mp q8)) (fun q8 => i_92 ((tk_sign e_tp hTK (by decide +kernel) (by decide +kernel) (c := 47)).mp q8))) (by rw [← i_123]; first | omega | (unfold gNe at *; omega)) (by rw [← i_123]; first | omega | (unfold gNe at *; omega)) i_228 (stl_c i_250 (by decide +kernel)) (toka_nx hTK i_239) (by omega) (by omega) (by omega)) (by decide +kernel), rfl, rfl⟩), by rw [ht]; exact hP.sub [5, 2, 3, 4, 6, 7, 0, 1] rfl, hD.sub [5, 2, 3, 4, 6, 7, 0, 1] (by decide +kernel) rfl⟩, hS.F ht⟩) hS.2.2 dX12_behindSum_232
                                  ·
                                    exact absurd c_234 (by decide +kernel)
                              ·
                                have hJ9 := va_join (wr := [(b_tp, (arI G 400 v_tp)), (b_op, (arI G 400 v_op)), (b_ar, (arI G 400 v_ar)), (b_ws, (arJ G 8 v_ws)), (b_hw, (arJ G 4 v_hw)), (b_pi, (arI G 400 v_pi)), (b_pa, (arI G 400 v_pa))]) hP hD [5] [0, 1, 2, 3, 4, 6, 7] rfl rfl (by decide +kernel) (by decide +kernel) hk1 hFc hP1 hD1
                                clear hP hD hPc hDc hFc ht hvm hz1 hk1 hP1 hD1
                                obtain ⟨hP, hD⟩ := hJ9
                                refine g5_rs [(b_tp, (arI G 400 v_tp)), (b_op, (arI G 400 v_op)), (b_ar, (arI G 400 v_ar)), (b_ws, (arJ G 8 v_ws)), (b_hw, (arJ G 4 v_hw)), (b_pi, (arI G 400 v_pi)), (b_pa, (arI G 400 v_pa)), (b_o, (oc12 u_th u_sa b_rf b_ro b_im b_ke u_fd b_tp u_td u_fr u_to u_so u_wo u_fa u_bd u_nc b_nl u_co b_op b_ar u_le b_pi b_pa u_pd u_od b_ws b_hw u_la b_se b_re u_bk u_va u_su u_ce u_ho u_wy u_bt u_ps b_pt u_tg u_sn b_ip u_ic b_ah b_be b_me u_wd b_tr b_ld u_st b_wn u_id))] hP hD ?_
                                clear hP hD
                                intro hP hD
                                refine lv_if_eq (tgt := 172) hx hb dX12_behindSum_164 (by decide +kernel) (fun c_261 => ?_) (fun c_261 => ?_)
                                ·
                                  refine lv_aload_n hx hb dX12_behindSum_172 rfl (lv_at hl 2 rfl) ?_
                                  refine lv_bipush (v := 62) hx hb dX12_behindSum_173 (by decide +kernel) ?_
                                  obtain ⟨hPc, hDc, hFc⟩ := g5_sub3 (wc := [(b_o, (oc12 u_th u_sa b_rf b_ro b_im b_ke u_fd b_tp u_td u_fr u_to u_so u_wo u_fa u_bd u_nc b_nl u_co b_op b_ar u_le b_pi b_pa u_pd u_od b_ws b_hw u_la b_se b_re u_bk u_va u_su u_ce u_ho u_wy u_bt u_ps b_pt u_tg u_sn b_ip u_ic b_ah b_be b_me u_wd b_tr b_ld u_st b_wn u_id))]) hP hD hS hA [7] (by decide +kernel) rfl
                                  refine va_calli (va_runV (As := [.int 62]) (rest := []) ⟨hx, hb, hml, hown, hts⟩ (n_isSignX62 l G b_o b_rf b_ro b_im b_ke b_tp b_nl b_op b_ar b_pi b_pa b_ws b_hw b_se b_re b_pt b_ip b_ah b_be b_me b_tr b_ld b_wn H.size u_th u_sa u_fd u_td u_fr u_to u_so u_fa u_bd u_nc u_co u_le u_pd u_od u_la u_bk u_ce u_ho u_wy u_bt u_ps u_tg u_sn u_ic u_wd u_id u_wo u_va u_su u_st h_u_td h_u_fr h_u_to ⟨by omega, by omega⟩ h_u_nc h_u_co h_u_pd h_u_la h_u_bk h_u_ce h_u_ho h_u_wy h_u_bt h_u_ps h_u_ic h_u_id) (cwV 1 hts gV_X12_267 rfl rfl rfl hv_X12_isSign ⟨Nat.le_of_ble_eq_true rfl, Nat.le_of_ble_eq_true rfl⟩) (g5_preV hPc hK hDc hN hT hS hFc (ci := 12) (q0 := 0) rfl rfl) rfl rfl hl.1 rfl (lv_room (Nat.le_of_ble_eq_true rfl)) dX12_behindSum_175 ⟨Nat.le_of_ble_eq_true rfl, Nat.le_of_ble_eq_true rfl⟩) hS (fun q _ h => hFc q h) hFc (fun r u t H locs ht hvm hw hB hz1 hk1 hS => ?_)
                                  obtain ⟨hP1, hD1⟩ := hB
                                  have hP1 := g5_ht ht hP1
                                  rcases hw with ⟨(i_262 : u_so.toInt = 3 ∧ u_wo.toInt = 62), rfl, rfl⟩ | ⟨(i_263 : ¬ (u_so.toInt = 3 ∧ u_wo.toInt = 62)), rfl, rfl⟩
                                  ·
                                    have hJ9 := va_join (wr := [(b_tp, (arI G 400 v_tp)), (b_op, (arI G 400 v_op)), (b_ar, (arI G 400 v_ar)), (b_ws, (arJ G 8 v_ws)), (b_hw, (arJ G 4 v_hw)), (b_pi, (arI G 400 v_pi)), (b_pa, (arI G 400 v_pa))]) hP hD [7] [0, 1, 2, 3, 4, 5, 6] rfl rfl (by decide +kernel) (by decide +kernel) hk1 hFc hP1 hD1
                                    clear hP hD hPc hDc hFc ht hvm hz1 hk1 hP1 hD1
                                    obtain ⟨hP, hD⟩ := hJ9
                                    refine g5_rs [(b_tp, (arI G 400 v_tp)), (b_op, (arI G 400 v_op)), (b_ar, (arI G 400 v_ar)), (b_ws, (arJ G 8 v_ws)), (b_hw, (arJ G 4 v_hw)), (b_pi, (arI G 400 v_pi)), (b_pa, (arI G 400 v_pa)), (b_o, (oc12 u_th u_sa b_rf b_ro b_im b_ke u_fd b_tp u_td u_fr u_to u_so u_wo u_fa u_bd u_nc b_nl u_co b_op b_ar u_le b_pi b_pa u_pd u_od b_ws b_hw u_la b_se b_re u_bk u_va u_su u_ce u_ho u_wy u_bt u_ps b_pt u_tg u_sn b_ip u_ic b_ah b_be b_me u_wd b_tr b_ld u_st b_wn u_id))] hP hD ?_
                                    clear hP hD
                                    intro hP hD
                                    refine lv_if_eq (tgt := 186) hx hb dX12_behindSum_178 (by decide +kernel) (fun c_264 => ?_) (fun c_264 => ?_)
                                    ·
                                      exact absurd c_264 (by decide +kernel)
                                    ·
                                      refine lv_bipush (v := 25) hx hb dX12_behindSum_181 (by decide +kernel) ?_
                                      refine lv_goto (tgt := 188) hx hb dX12_behindSum_183 (by decide +kernel) ?_
                                      refine lv_istore_n (lv' := [(2, .int 25), (3, .int z124), (0, .ref b_o), (1, .int p_1)]) hx hb dX12_behindSum_188 rfl hl (by decide +kernel) rfl ?_
                                      clear hl
                                      intro ls hl
                                      refine lv_aload_n hx hb dX12_behindSum_189 rfl (lv_at hl 2 rfl) ?_
                                      refine W.eq (g2 := F0 m 190 ls [.ref b_o]) rfl ?_
                                      refine lv_iload_n hx hb dX12_behindSum_190 rfl (lv_at hl 0 rfl) ?_
                                      refine lv_bipush (v := 26) hx hb dX12_behindSum_191 (by decide +kernel) ?_
                                      refine lv_icmp_ne (tgt := 205) hx hb dX12_behindSum_193 (by decide +kernel) (fun c_265 => ?_) (fun c_265 => ?_)
                                      ·
                                        refine lv_iconst (v := 1) hx hb dX12_behindSum_205 (by decide +kernel) ?_
                                        refine lv_goto (tgt := 210) hx hb dX12_behindSum_206 (by decide +kernel) ?_
                                        have hlt9 : u_fr.toInt < u_to.toInt := tks_lt e_s (by omega)
                                        obtain ⟨hPc, hDc, hFc⟩ := g5_sub3 (wc := [(b_o, (oc12 u_th u_sa b_rf b_ro b_im b_ke u_fd b_tp u_td u_fr u_to u_so u_wo u_fa u_bd u_nc b_nl u_co b_op b_ar u_le b_pi b_pa u_pd u_od b_ws b_hw u_la b_se b_re u_bk u_va u_su u_ce u_ho u_wy u_bt u_ps b_pt u_tg u_sn b_ip u_ic b_ah b_be b_me u_wd b_tr b_ld u_st b_wn u_id)), (b_tp, (arI G 400 v_tp))]) hP hD hS hA [7, 0] (by decide +kernel) rfl
                                        refine va_callv (va_runV (As := [.int 1]) (rest := []) ⟨hx, hb, hml, hown, hts⟩ (n_must1X l G b_o b_tp b_rf b_ro b_im b_ke b_nl b_op b_ar b_pi b_pa b_ws b_hw b_se b_re b_pt b_ip b_ah b_be b_me b_tr b_ld b_wn H.size u_th u_sa u_fd u_td u_fr u_to u_so u_fa u_bd u_nc u_co u_le u_pd u_od u_la u_bk u_ce u_ho u_wy u_bt u_ps u_tg u_sn u_ic u_wd u_id u_wo u_va u_su u_st v_tp h_u_td h_u_fr h_u_to h_u_bd h_u_nc h_u_co h_u_pd h_u_la h_u_bk h_u_ce h_u_ho h_u_wy h_u_bt h_u_ps h_u_ic h_u_id (by omega)) (cwV 1 hts gV_X12_233 rfl rfl rfl hv_X12_must ⟨Nat.le_of_ble_eq_true rfl, Nat.le_of_ble_eq_true rfl⟩) (g5_preV hPc hK hDc hN hT hS hFc (ci := 12) (q0 := 0) rfl rfl) rfl rfl hl.1 rfl (lv_room (Nat.le_of_ble_eq_true rfl)) dX12_behindSum_210 ⟨Nat.le_of_ble_eq_true rfl, Nat.le_of_ble_eq_true rfl⟩) hS (fun q _ h => hFc q h) hFc (fun u t H locs ht hvm hw hB hz1 hk1 hS => ?_)
                                        obtain ⟨hP1, hD1⟩ := hB
                                        have hP1 := g5_ht ht hP1
                                        obtain ⟨z271, z272, z273, z274, (i_266 : 0 ≤ z271.toInt ∧ z271.toInt ≤ 400), (i_267 : 0 ≤ z272.toInt ∧ z272.toInt ≤ 400), (i_268 : u_to.toInt ≤ z271.toInt ∧ z271.toInt ≤ z272.toInt ∧ z272.toInt ≤ u_td.toInt), (i_269 : TKs z273.toInt z271.toInt z272.toInt), (i_270 : TOKA v_tp u_td.toInt.toNat (skT v_tp u_td.toInt.toNat u_to.toInt.toNat) z271 z272 z273 z274), rfl⟩ := hw
                                        have hJ9 := va_join (wr := [(b_op, (arI G 400 v_op)), (b_ar, (arI G 400 v_ar)), (b_ws, (arJ G 8 v_ws)), (b_hw, (arJ G 4 v_hw)), (b_pi, (arI G 400 v_pi)), (b_pa, (arI G 400 v_pa))]) hP hD [7, 0] [1, 2, 3, 4, 5, 6] rfl rfl (by decide +kernel) (by decide +kernel) hk1 hFc hP1 hD1
                                        clear hP hD hPc hDc hFc ht hvm hz1 hk1 hP1 hD1
                                        obtain ⟨hP, hD⟩ := hJ9
                                        refine g5_rs [(b_op, (arI G 400 v_op)), (b_ar, (arI G 400 v_ar)), (b_ws, (arJ G 8 v_ws)), (b_hw, (arJ G 4 v_hw)), (b_pi, (arI G 400 v_pi)), (b_pa, (arI G 400 v_pa)), (b_o, (oc12 u_th u_sa b_rf b_ro b_im b_ke u_fd b_tp u_td z271 z272 z273 z274 u_fa u_bd u_nc b_nl u_co b_op b_ar u_le b_pi b_pa u_pd u_od b_ws b_hw u_la b_se b_re u_bk u_va u_su u_ce u_ho u_wy u_bt u_ps b_pt u_tg u_sn b_ip u_ic b_ah b_be b_me u_wd b_tr b_ld u_st b_wn u_id)), (b_tp, (arI G 400 v_tp))] hP hD ?_
                                        clear hP hD
                                        intro hP hD
                                        refine lv_aload_n hx hb dX12_behindSum_213 rfl (lv_at hl 2 rfl) ?_
                                        refine W.eq (g2 := F0 m 214 ls [.ref b_o]) rfl ?_
                                        refine va_get (D := G.1) (ci := 12) (v := .int u_bd) (C := RX12) (T := TX12) (N := 52) hx hb hts inG_X12 hown hK hP 6 rfl rfl 14 (by decide +kernel) (hts _ fl_X12_205) (fun _ h9 => h9) rfl dX12_behindSum_214 ?_
                                        refine lv_if_ne (tgt := 231) hx hb dX12_behindSum_217 (by decide +kernel) (fun c_275 => ?_) (fun c_275 => ?_)
                                        ·
                                          have i_275 : u_bd.toInt ≠ 0 := g5_ne (a := u_bd.toInt) (b := 0) rfl (by decide +kernel) c_275
                                          omega
                                        ·
                                          have i_275 : u_bd.toInt = 0 := g5_neN (a := u_bd.toInt) (b := 0) rfl (by decide +kernel) c_275
                                          have hE_276 : HJ v_op v_ar v_pi v_pa g_a.toInt u_co.toInt u_pd.toInt 1 := tj_d1 e_j (by decide +kernel)
                                          refine lv_aload_n hx hb dX12_behindSum_220 rfl (lv_at hl 2 rfl) ?_
                                          refine lv_iconst (v := 5) hx hb dX12_behindSum_221 (by decide +kernel) ?_
                                          obtain ⟨hPc, hDc, hFc⟩ := g5_sub3 (wc := [(b_o, (oc12 u_th u_sa b_rf b_ro b_im b_ke u_fd b_tp u_td z271 z272 z273 z274 u_fa u_bd u_nc b_nl u_co b_op b_ar u_le b_pi b_pa u_pd u_od b_ws b_hw u_la b_se b_re u_bk u_va u_su u_ce u_ho u_wy u_bt u_ps b_pt u_tg u_sn b_ip u_ic b_ah b_be b_me u_wd b_tr b_ld u_st b_wn u_id)), (b_op, (arI G 400 v_op)), (b_ar, (arI G 400 v_ar)), (b_pi, (arI G 400 v_pi)), (b_pa, (arI G 400 v_pa))]) hP hD hS hA [6, 0, 1, 4, 5] (by decide +kernel) rfl
                                          refine va_callv (va_runV (As := [.int 5]) (rest := []) ⟨hx, hb, hml, hown, hts⟩ (n_settleX l G b_o b_op b_ar b_pi b_pa b_rf b_ro b_im b_ke b_tp b_nl b_ws b_hw b_se b_re b_pt b_ip b_ah b_be b_me b_tr b_ld b_wn H.size u_th u_sa u_fd u_td z271 z272 z273 u_fa u_bd u_nc u_co u_le u_pd u_od u_la u_bk u_ce u_ho u_wy u_bt u_ps u_tg u_sn u_ic u_wd u_id 5 g_a u_fr z274 u_va u_su u_st v_op v_ar v_pi v_pa g_op g_ar h_u_td i_266 i_267 ⟨by omega, by omega⟩ h_u_nc h_u_co h_u_pd h_u_la h_u_bk h_u_ce h_u_ho h_u_wy h_u_bt h_u_ps h_u_ic h_u_id ⟨by decide, by decide⟩ (by omega) (e_x) (hE_276)) (cwV 1 hts gV_X12_288 rfl rfl rfl hv_X12_settle ⟨Nat.le_of_ble_eq_true rfl, Nat.le_of_ble_eq_true rfl⟩) (g5_preV hPc hK hDc hN hT hS hFc (ci := 12) (q0 := 0) rfl rfl) rfl rfl hl.1 rfl (lv_room (Nat.le_of_ble_eq_true rfl)) dX12_behindSum_222 ⟨Nat.le_of_ble_eq_true rfl, Nat.le_of_ble_eq_true rfl⟩) hS (fun q _ h => hFc q h) hFc (fun u t H locs ht hvm hw hB hz1 hk1 hS => ?_)
                                          obtain ⟨hP1, hD1⟩ := hB
                                          have hP1 := g5_ht ht hP1
                                          obtain ⟨z285, z286, z287, z288, (i_277 : 0 ≤ z285.toInt ∧ z285.toInt ≤ 400), (i_278 : 0 ≤ z286.toInt ∧ z286.toInt ≤ 400), (i_279 : XJ g_op g_ar z287 z288 v_pi v_pa g_a.toInt z285.toInt z286.toInt u_fr.toInt), (i_280 : HJ z287 z288 v_pi v_pa g_a.toInt z285.toInt z286.toInt 1), (i_281 : stl (5 : Int32).toInt (plL v_pi v_pa u_pd.toInt.toNat) (v_op, v_ar, u_co.toInt.toNat) = (plL v_pi v_pa z286.toInt.toNat, (z287, z288, z285.toInt.toNat))), (i_282 : S1 v_pi u_pd.toInt z286.toInt), (i_283 : S2 v_pi z286.toInt (5 : Int32).toInt), (i_284 : z286.toInt ≤ u_pd.toInt), rfl⟩ := hw
                                          have hJ9 := va_join (wr := [(b_ws, (arJ G 8 v_ws)), (b_hw, (arJ G 4 v_hw)), (b_tp, (arI G 400 v_tp))]) hP hD [6, 0, 1, 4, 5] [2, 3, 7] rfl rfl (by decide +kernel) (by decide +kernel) hk1 hFc hP1 hD1
                                          clear hP hD hPc hDc hFc ht hvm hz1 hk1 hP1 hD1
                                          obtain ⟨hP, hD⟩ := hJ9
                                          refine g5_rs [(b_ws, (arJ G 8 v_ws)), (b_hw, (arJ G 4 v_hw)), (b_tp, (arI G 400 v_tp)), (b_o, (oc12 u_th u_sa b_rf b_ro b_im b_ke u_fd b_tp u_td z271 z272 z273 z274 u_fa u_bd u_nc b_nl z285 b_op b_ar u_le b_pi b_pa z286 u_od b_ws b_hw u_la b_se b_re u_bk u_va u_su u_ce u_ho u_wy u_bt u_ps b_pt u_tg u_sn b_ip u_ic b_ah b_be b_me u_wd b_tr b_ld u_st b_wn u_id)), (b_op, (arI G 400 z287)), (b_ar, (arI G 400 z288)), (b_pi, (arI G 400 v_pi)), (b_pa, (arI G 400 v_pa))] hP hD ?_
                                          clear hP hD
                                          intro hP hD
                                          have hmf8 := xj_mf i_279
                                          refine lv_aload_n hx hb dX12_behindSum_225 rfl (lv_at hl 2 rfl) ?_
                                          refine W.eq (g2 := F0 m 226 ls [.ref b_o]) rfl ?_
                                          refine lv_iload_n hx hb dX12_behindSum_226 rfl (lv_at hl 0 rfl) ?_
                                          refine lv_iconst (v := 0) hx hb dX12_behindSum_227 (by decide +kernel) ?_
                                          obtain ⟨hPc, hDc, hFc⟩ := g5_sub3 (wc := [(b_o, (oc12 u_th u_sa b_rf b_ro b_im b_ke u_fd b_tp u_td z271 z272 z273 z274 u_fa u_bd u_nc b_nl z285 b_op b_ar u_le b_pi b_pa z286 u_od b_ws b_hw u_la b_se b_re u_bk u_va u_su u_ce u_ho u_wy u_bt u_ps b_pt u_tg u_sn b_ip u_ic b_ah b_be b_me u_wd b_tr b_ld u_st b_wn u_id)), (b_pi, (arI G 400 v_pi)), (b_pa, (arI G 400 v_pa))]) hP hD hS hA [3, 6, 7] (by decide +kernel) rfl
                                          refine va_callv (va_runV (As := [.int 25, .int 0]) (rest := []) ⟨hx, hb, hml, hown, hts⟩ (n_push l G b_o b_pi b_pa b_rf b_ro b_im b_ke b_tp b_nl b_op b_ar b_ws b_hw b_se b_re b_pt b_ip b_ah b_be b_me b_tr b_ld b_wn H.size u_th u_sa u_fd u_td z271 z272 z273 u_fa u_bd u_nc z285 u_le z286 u_od u_la u_bk u_ce u_ho u_wy u_bt u_ps u_tg u_sn u_ic u_wd u_id 25 0 z274 u_va u_su u_st v_pi v_pa h_u_td i_266 i_267 ⟨by omega, by omega⟩ h_u_nc i_277 i_278 h_u_la h_u_bk h_u_ce h_u_ho h_u_wy h_u_bt h_u_ps h_u_ic h_u_id (by omega)) (cwV 2 hts gV_X12_261 rfl rfl rfl hv_X12_push ⟨Nat.le_of_ble_eq_true rfl, Nat.le_of_ble_eq_true rfl⟩) (g5_preV hPc hK hDc hN hT hS hFc (ci := 12) (q0 := 0) rfl rfl) rfl rfl hl.1 rfl (lv_room (Nat.le_of_ble_eq_true rfl)) dX12_behindSum_228 ⟨Nat.le_of_ble_eq_true rfl, Nat.le_of_ble_eq_true rfl⟩) hS (fun q _ h => hFc q h) hFc (fun u t H locs ht hvm hw hB hz1 hk1 hS => ?_)
                                          obtain ⟨hP1, hD1⟩ := hB
                                          have hP1 := g5_ht ht hP1
                                          obtain ⟨z291, (i_289 : 0 ≤ z291.toInt ∧ z291.toInt ≤ 400), (i_290 : z291.toInt = z286.toInt + 1), rfl⟩ := hw
                                          have hJ9 := va_join (wr := [(b_ws, (arJ G 8 v_ws)), (b_hw, (arJ G 4 v_hw)), (b_tp, (arI G 400 v_tp)), (b_op, (arI G 400 z287)), (b_ar, (arI G 400 z288))]) hP hD [3, 6, 7] [0, 1, 2, 4, 5] rfl rfl (by decide +kernel) (by decide +kernel) hk1 hFc hP1 hD1
                                          clear hP hD hPc hDc hFc ht hvm hz1 hk1 hP1 hD1
                                          obtain ⟨hP, hD⟩ := hJ9
                                          refine g5_rs [(b_ws, (arJ G 8 v_ws)), (b_hw, (arJ G 4 v_hw)), (b_tp, (arI G 400 v_tp)), (b_op, (arI G 400 z287)), (b_ar, (arI G 400 z288)), (b_o, (oc12 u_th u_sa b_rf b_ro b_im b_ke u_fd b_tp u_td z271 z272 z273 z274 u_fa u_bd u_nc b_nl z285 b_op b_ar u_le b_pi b_pa z291 u_od b_ws b_hw u_la b_se b_re u_bk u_va u_su u_ce u_ho u_wy u_bt u_ps b_pt u_tg u_sn b_ip u_ic b_ah b_be b_me u_wd b_tr b_ld u_st b_wn u_id)), (b_pi, (arI G 400 (upd v_pi z286.toNatClampNeg 25))), (b_pa, (arI G 400 (upd v_pa z286.toNatClampNeg 0)))] hP hD ?_
                                          clear hP hD
                                          intro hP hD
                                          refine lv_iconst (v := 1) hx hb dX12_behindSum_231 (by decide +kernel) ?_
                                          exact W.iret (v := 1) hx hb hr (fun t ht hW => ⟨⟨1, [(b_o, (oc12 u_th u_sa b_rf b_ro b_im b_ke u_fd b_tp u_td z271 z272 z273 z274 u_fa u_bd u_nc b_nl z285 b_op b_ar u_le b_pi b_pa z291 u_od b_ws b_hw u_la b_se b_re u_bk u_va u_su u_ce u_ho u_wy u_bt u_ps b_pt u_tg u_sn b_ip u_ic b_ah b_be b_me u_wd b_tr b_ld u_st b_wn u_id)), (b_tp, (arI G 400 v_tp)), (b_op, (arI G 400 z287)), (b_ar, (arI G 400 z288)), (b_pi, (arI G 400 (upd v_pi z286.toNatClampNeg 25))), (b_pa, (arI G 400 (upd v_pa z286.toNatClampNeg 0))), (b_ws, (arJ G 8 v_ws)), (b_hw, (arJ G 4 v_hw))], rfl, Or.inr (⟨1, z271, z272, z273, z274, z285, z291, u_od, z287, z288, (upd v_pi z286.toNatClampNeg 25), (upd v_pa z286.toNatClampNeg 0), i_266, i_267, i_277, i_289, ⟨by have zc_o_r : (1 : Int32).toInt = 1 := (by decide +kernel); omega, by have zc_o_r : (1 : Int32).toInt = 1 := (by decide +kernel); omega⟩, by omega, i_269, xj_push i_279 (by omega) (by omega) ⟨by decide, by decide⟩ (Or.inl (by decide +kernel)), tj_1 (hj_push2 i_280 (by omega) (by omega) ⟨by decide, by decide⟩ (Or.inr (no31_le (inn_no31 i_122 (tj_d1 e_j (by decide +kernel)) n_126) (by omega)))) (by decide +kernel), by have w9 := (twt_0 (by decide +kernel) : twt (1 : Int32).toInt = 0); omega, rq_t (rq_cmp (o := 25) hRC hFD (by rw [((tk_sign e_tp hTK (by decide +kernel) (by decide +kernel) (c := 62)).mpr i_262)]; decide) (by decide +kernel) (opM_0 (fun q8 => i_2 ((tk_sign e_tp hTK (by decide +kernel) (by decide +kernel) (c := 43)).mp q8)) (fun q8 => i_32 ((tk_sign e_tp hTK (by decide +kernel) (by decide +kernel) (c := 45)).mp q8)) (fun q8 => i_62 ((tk_sign e_tp hTK (by decide +kernel) (by decide +kernel) (c := 42)).mp q8)) (fun q8 => i_92 ((tk_sign e_tp hTK (by decide +kernel) (by decide +kernel) (c := 47)).mp q8))) (by rw [← i_123]; first | omega | (unfold gNe at *; omega)) (by rw [← i_123]; first | omega | (unfold gNe at *; omega)) i_228 (stl_c i_281 (by decide +kernel)) (toka_nx hTK i_270) (by omega) (by omega) (by omega)) (by decide +kernel), rfl, rfl⟩), by rw [ht]; exact hP.sub [5, 2, 3, 4, 6, 7, 0, 1] rfl, hD.sub [5, 2, 3, 4, 6, 7, 0, 1] (by decide +kernel) rfl⟩, hS.F ht⟩) hS.2.2 dX12_behindSum_232
                                      ·
                                        exact absurd c_265 (by decide +kernel)
                                  ·
                                    have hJ9 := va_join (wr := [(b_tp, (arI G 400 v_tp)), (b_op, (arI G 400 v_op)), (b_ar, (arI G 400 v_ar)), (b_ws, (arJ G 8 v_ws)), (b_hw, (arJ G 4 v_hw)), (b_pi, (arI G 400 v_pi)), (b_pa, (arI G 400 v_pa))]) hP hD [7] [0, 1, 2, 3, 4, 5, 6] rfl rfl (by decide +kernel) (by decide +kernel) hk1 hFc hP1 hD1
                                    clear hP hD hPc hDc hFc ht hvm hz1 hk1 hP1 hD1
                                    obtain ⟨hP, hD⟩ := hJ9
                                    refine g5_rs [(b_tp, (arI G 400 v_tp)), (b_op, (arI G 400 v_op)), (b_ar, (arI G 400 v_ar)), (b_ws, (arJ G 8 v_ws)), (b_hw, (arJ G 4 v_hw)), (b_pi, (arI G 400 v_pi)), (b_pa, (arI G 400 v_pa)), (b_o, (oc12 u_th u_sa b_rf b_ro b_im b_ke u_fd b_tp u_td u_fr u_to u_so u_wo u_fa u_bd u_nc b_nl u_co b_op b_ar u_le b_pi b_pa u_pd u_od b_ws b_hw u_la b_se b_re u_bk u_va u_su u_ce u_ho u_wy u_bt u_ps b_pt u_tg u_sn b_ip u_ic b_ah b_be b_me u_wd b_tr b_ld u_st b_wn u_id))] hP hD ?_
                                    clear hP hD
                                    intro hP hD
                                    refine lv_if_eq (tgt := 186) hx hb dX12_behindSum_178 (by decide +kernel) (fun c_292 => ?_) (fun c_292 => ?_)
                                    ·
                                      refine lv_bipush (v := 26) hx hb dX12_behindSum_186 (by decide +kernel) ?_
                                      refine lv_istore_n (lv' := [(2, .int 26), (3, .int z124), (0, .ref b_o), (1, .int p_1)]) hx hb dX12_behindSum_188 rfl hl (by decide +kernel) rfl ?_
                                      clear hl
                                      intro ls hl
                                      refine lv_aload_n hx hb dX12_behindSum_189 rfl (lv_at hl 2 rfl) ?_
                                      refine lv_iload_n hx hb dX12_behindSum_190 rfl (lv_at hl 0 rfl) ?_
                                      refine W.eq (g2 := F0 m 191 ls [.int 26, .ref b_o]) rfl ?_
                                      refine lv_bipush (v := 26) hx hb dX12_behindSum_191 (by decide +kernel) ?_
                                      refine lv_icmp_ne (tgt := 205) hx hb dX12_behindSum_193 (by decide +kernel) (fun c_293 => ?_) (fun c_293 => ?_)
                                      ·
                                        exact absurd c_293 (by decide +kernel)
                                      ·
                                        refine lv_aload_n hx hb dX12_behindSum_196 rfl (lv_at hl 2 rfl) ?_
                                        refine lv_bipush (v := 61) hx hb dX12_behindSum_197 (by decide +kernel) ?_
                                        obtain ⟨hPc, hDc, hFc⟩ := g5_sub3 (wc := [(b_o, (oc12 u_th u_sa b_rf b_ro b_im b_ke u_fd b_tp u_td u_fr u_to u_so u_wo u_fa u_bd u_nc b_nl u_co b_op b_ar u_le b_pi b_pa u_pd u_od b_ws b_hw u_la b_se b_re u_bk u_va u_su u_ce u_ho u_wy u_bt u_ps b_pt u_tg u_sn b_ip u_ic b_ah b_be b_me u_wd b_tr b_ld u_st b_wn u_id))]) hP hD hS hA [7] (by decide +kernel) rfl
                                        refine va_calli (va_runV (As := [.int 61]) (rest := [.ref b_o]) ⟨hx, hb, hml, hown, hts⟩ (n_isSignX61 l G b_o b_rf b_ro b_im b_ke b_tp b_nl b_op b_ar b_pi b_pa b_ws b_hw b_se b_re b_pt b_ip b_ah b_be b_me b_tr b_ld b_wn H.size u_th u_sa u_fd u_td u_fr u_to u_so u_fa u_bd u_nc u_co u_le u_pd u_od u_la u_bk u_ce u_ho u_wy u_bt u_ps u_tg u_sn u_ic u_wd u_id u_wo u_va u_su u_st h_u_td h_u_fr h_u_to ⟨by omega, by omega⟩ h_u_nc h_u_co h_u_pd h_u_la h_u_bk h_u_ce h_u_ho h_u_wy h_u_bt h_u_ps h_u_ic h_u_id) (cwV 1 hts gV_X12_267 rfl rfl rfl hv_X12_isSign ⟨Nat.le_of_ble_eq_true rfl, Nat.le_of_ble_eq_true rfl⟩) (g5_preV hPc hK hDc hN hT hS hFc (ci := 12) (q0 := 0) rfl rfl) rfl rfl hl.1 rfl (lv_room (Nat.le_of_ble_eq_true rfl)) dX12_behindSum_199 ⟨Nat.le_of_ble_eq_true rfl, Nat.le_of_ble_eq_true rfl⟩) hS (fun q _ h => hFc q h) hFc (fun r u t H locs ht hvm hw hB hz1 hk1 hS => ?_)
                                        obtain ⟨hP1, hD1⟩ := hB
                                        have hP1 := g5_ht ht hP1
                                        rcases hw with ⟨(i_294 : u_so.toInt = 3 ∧ u_wo.toInt = 61), rfl, rfl⟩ | ⟨(i_295 : ¬ (u_so.toInt = 3 ∧ u_wo.toInt = 61)), rfl, rfl⟩
                                        ·
                                          have hJ9 := va_join (wr := [(b_tp, (arI G 400 v_tp)), (b_op, (arI G 400 v_op)), (b_ar, (arI G 400 v_ar)), (b_ws, (arJ G 8 v_ws)), (b_hw, (arJ G 4 v_hw)), (b_pi, (arI G 400 v_pi)), (b_pa, (arI G 400 v_pa))]) hP hD [7] [0, 1, 2, 3, 4, 5, 6] rfl rfl (by decide +kernel) (by decide +kernel) hk1 hFc hP1 hD1
                                          clear hP hD hPc hDc hFc ht hvm hz1 hk1 hP1 hD1
                                          obtain ⟨hP, hD⟩ := hJ9
                                          refine g5_rs [(b_tp, (arI G 400 v_tp)), (b_op, (arI G 400 v_op)), (b_ar, (arI G 400 v_ar)), (b_ws, (arJ G 8 v_ws)), (b_hw, (arJ G 4 v_hw)), (b_pi, (arI G 400 v_pi)), (b_pa, (arI G 400 v_pa)), (b_o, (oc12 u_th u_sa b_rf b_ro b_im b_ke u_fd b_tp u_td u_fr u_to u_so u_wo u_fa u_bd u_nc b_nl u_co b_op b_ar u_le b_pi b_pa u_pd u_od b_ws b_hw u_la b_se b_re u_bk u_va u_su u_ce u_ho u_wy u_bt u_ps b_pt u_tg u_sn b_ip u_ic b_ah b_be b_me u_wd b_tr b_ld u_st b_wn u_id))] hP hD ?_
                                          clear hP hD
                                          intro hP hD
                                          refine lv_if_eq (tgt := 209) hx hb dX12_behindSum_202 (by decide +kernel) (fun c_296 => ?_) (fun c_296 => ?_)
                                          ·
                                            exact absurd c_296 (by decide +kernel)
                                          ·
                                            refine lv_iconst (v := 1) hx hb dX12_behindSum_205 (by decide +kernel) ?_
                                            refine lv_goto (tgt := 210) hx hb dX12_behindSum_206 (by decide +kernel) ?_
                                            have hlt9 : u_fr.toInt < u_to.toInt := tks_lt e_s (by omega)
                                            obtain ⟨hPc, hDc, hFc⟩ := g5_sub3 (wc := [(b_o, (oc12 u_th u_sa b_rf b_ro b_im b_ke u_fd b_tp u_td u_fr u_to u_so u_wo u_fa u_bd u_nc b_nl u_co b_op b_ar u_le b_pi b_pa u_pd u_od b_ws b_hw u_la b_se b_re u_bk u_va u_su u_ce u_ho u_wy u_bt u_ps b_pt u_tg u_sn b_ip u_ic b_ah b_be b_me u_wd b_tr b_ld u_st b_wn u_id)), (b_tp, (arI G 400 v_tp))]) hP hD hS hA [7, 0] (by decide +kernel) rfl
                                            refine va_callv (va_runV (As := [.int 1]) (rest := []) ⟨hx, hb, hml, hown, hts⟩ (n_must1X l G b_o b_tp b_rf b_ro b_im b_ke b_nl b_op b_ar b_pi b_pa b_ws b_hw b_se b_re b_pt b_ip b_ah b_be b_me b_tr b_ld b_wn H.size u_th u_sa u_fd u_td u_fr u_to u_so u_fa u_bd u_nc u_co u_le u_pd u_od u_la u_bk u_ce u_ho u_wy u_bt u_ps u_tg u_sn u_ic u_wd u_id u_wo u_va u_su u_st v_tp h_u_td h_u_fr h_u_to h_u_bd h_u_nc h_u_co h_u_pd h_u_la h_u_bk h_u_ce h_u_ho h_u_wy h_u_bt h_u_ps h_u_ic h_u_id (by omega)) (cwV 1 hts gV_X12_233 rfl rfl rfl hv_X12_must ⟨Nat.le_of_ble_eq_true rfl, Nat.le_of_ble_eq_true rfl⟩) (g5_preV hPc hK hDc hN hT hS hFc (ci := 12) (q0 := 0) rfl rfl) rfl rfl hl.1 rfl (lv_room (Nat.le_of_ble_eq_true rfl)) dX12_behindSum_210 ⟨Nat.le_of_ble_eq_true rfl, Nat.le_of_ble_eq_true rfl⟩) hS (fun q _ h => hFc q h) hFc (fun u t H locs ht hvm hw hB hz1 hk1 hS => ?_)
                                            obtain ⟨hP1, hD1⟩ := hB
                                            have hP1 := g5_ht ht hP1
                                            obtain ⟨z302, z303, z304, z305, (i_297 : 0 ≤ z302.toInt ∧ z302.toInt ≤ 400), (i_298 : 0 ≤ z303.toInt ∧ z303.toInt ≤ 400), (i_299 : u_to.toInt ≤ z302.toInt ∧ z302.toInt ≤ z303.toInt ∧ z303.toInt ≤ u_td.toInt), (i_300 : TKs z304.toInt z302.toInt z303.toInt), (i_301 : TOKA v_tp u_td.toInt.toNat (skT v_tp u_td.toInt.toNat u_to.toInt.toNat) z302 z303 z304 z305), rfl⟩ := hw
                                            have hJ9 := va_join (wr := [(b_op, (arI G 400 v_op)), (b_ar, (arI G 400 v_ar)), (b_ws, (arJ G 8 v_ws)), (b_hw, (arJ G 4 v_hw)), (b_pi, (arI G 400 v_pi)), (b_pa, (arI G 400 v_pa))]) hP hD [7, 0] [1, 2, 3, 4, 5, 6] rfl rfl (by decide +kernel) (by decide +kernel) hk1 hFc hP1 hD1
                                            clear hP hD hPc hDc hFc ht hvm hz1 hk1 hP1 hD1
                                            obtain ⟨hP, hD⟩ := hJ9
                                            refine g5_rs [(b_op, (arI G 400 v_op)), (b_ar, (arI G 400 v_ar)), (b_ws, (arJ G 8 v_ws)), (b_hw, (arJ G 4 v_hw)), (b_pi, (arI G 400 v_pi)), (b_pa, (arI G 400 v_pa)), (b_o, (oc12 u_th u_sa b_rf b_ro b_im b_ke u_fd b_tp u_td z302 z303 z304 z305 u_fa u_bd u_nc b_nl u_co b_op b_ar u_le b_pi b_pa u_pd u_od b_ws b_hw u_la b_se b_re u_bk u_va u_su u_ce u_ho u_wy u_bt u_ps b_pt u_tg u_sn b_ip u_ic b_ah b_be b_me u_wd b_tr b_ld u_st b_wn u_id)), (b_tp, (arI G 400 v_tp))] hP hD ?_
                                            clear hP hD
                                            intro hP hD
                                            refine lv_aload_n hx hb dX12_behindSum_213 rfl (lv_at hl 2 rfl) ?_
                                            refine W.eq (g2 := F0 m 214 ls [.ref b_o]) rfl ?_
                                            refine va_get (D := G.1) (ci := 12) (v := .int u_bd) (C := RX12) (T := TX12) (N := 52) hx hb hts inG_X12 hown hK hP 6 rfl rfl 14 (by decide +kernel) (hts _ fl_X12_205) (fun _ h9 => h9) rfl dX12_behindSum_214 ?_
                                            refine lv_if_ne (tgt := 231) hx hb dX12_behindSum_217 (by decide +kernel) (fun c_306 => ?_) (fun c_306 => ?_)
                                            ·
                                              have i_306 : u_bd.toInt ≠ 0 := g5_ne (a := u_bd.toInt) (b := 0) rfl (by decide +kernel) c_306
                                              omega
                                            ·
                                              have i_306 : u_bd.toInt = 0 := g5_neN (a := u_bd.toInt) (b := 0) rfl (by decide +kernel) c_306
                                              have hE_307 : HJ v_op v_ar v_pi v_pa g_a.toInt u_co.toInt u_pd.toInt 1 := tj_d1 e_j (by decide +kernel)
                                              refine lv_aload_n hx hb dX12_behindSum_220 rfl (lv_at hl 2 rfl) ?_
                                              refine lv_iconst (v := 5) hx hb dX12_behindSum_221 (by decide +kernel) ?_
                                              obtain ⟨hPc, hDc, hFc⟩ := g5_sub3 (wc := [(b_o, (oc12 u_th u_sa b_rf b_ro b_im b_ke u_fd b_tp u_td z302 z303 z304 z305 u_fa u_bd u_nc b_nl u_co b_op b_ar u_le b_pi b_pa u_pd u_od b_ws b_hw u_la b_se b_re u_bk u_va u_su u_ce u_ho u_wy u_bt u_ps b_pt u_tg u_sn b_ip u_ic b_ah b_be b_me u_wd b_tr b_ld u_st b_wn u_id)), (b_op, (arI G 400 v_op)), (b_ar, (arI G 400 v_ar)), (b_pi, (arI G 400 v_pi)), (b_pa, (arI G 400 v_pa))]) hP hD hS hA [6, 0, 1, 4, 5] (by decide +kernel) rfl
                                              refine va_callv (va_runV (As := [.int 5]) (rest := []) ⟨hx, hb, hml, hown, hts⟩ (n_settleX l G b_o b_op b_ar b_pi b_pa b_rf b_ro b_im b_ke b_tp b_nl b_ws b_hw b_se b_re b_pt b_ip b_ah b_be b_me b_tr b_ld b_wn H.size u_th u_sa u_fd u_td z302 z303 z304 u_fa u_bd u_nc u_co u_le u_pd u_od u_la u_bk u_ce u_ho u_wy u_bt u_ps u_tg u_sn u_ic u_wd u_id 5 g_a u_fr z305 u_va u_su u_st v_op v_ar v_pi v_pa g_op g_ar h_u_td i_297 i_298 ⟨by omega, by omega⟩ h_u_nc h_u_co h_u_pd h_u_la h_u_bk h_u_ce h_u_ho h_u_wy h_u_bt h_u_ps h_u_ic h_u_id ⟨by decide, by decide⟩ (by omega) (e_x) (hE_307)) (cwV 1 hts gV_X12_288 rfl rfl rfl hv_X12_settle ⟨Nat.le_of_ble_eq_true rfl, Nat.le_of_ble_eq_true rfl⟩) (g5_preV hPc hK hDc hN hT hS hFc (ci := 12) (q0 := 0) rfl rfl) rfl rfl hl.1 rfl (lv_room (Nat.le_of_ble_eq_true rfl)) dX12_behindSum_222 ⟨Nat.le_of_ble_eq_true rfl, Nat.le_of_ble_eq_true rfl⟩) hS (fun q _ h => hFc q h) hFc (fun u t H locs ht hvm hw hB hz1 hk1 hS => ?_)
                                              obtain ⟨hP1, hD1⟩ := hB
                                              have hP1 := g5_ht ht hP1
                                              obtain ⟨z316, z317, z318, z319, (i_308 : 0 ≤ z316.toInt ∧ z316.toInt ≤ 400), (i_309 : 0 ≤ z317.toInt ∧ z317.toInt ≤ 400), (i_310 : XJ g_op g_ar z318 z319 v_pi v_pa g_a.toInt z316.toInt z317.toInt u_fr.toInt), (i_311 : HJ z318 z319 v_pi v_pa g_a.toInt z316.toInt z317.toInt 1), (i_312 : stl (5 : Int32).toInt (plL v_pi v_pa u_pd.toInt.toNat) (v_op, v_ar, u_co.toInt.toNat) = (plL v_pi v_pa z317.toInt.toNat, (z318, z319, z316.toInt.toNat))), (i_313 : S1 v_pi u_pd.toInt z317.toInt), (i_314 : S2 v_pi z317.toInt (5 : Int32).toInt), (i_315 : z317.toInt ≤ u_pd.toInt), rfl⟩ := hw
                                              have hJ9 := va_join (wr := [(b_ws, (arJ G 8 v_ws)), (b_hw, (arJ G 4 v_hw)), (b_tp, (arI G 400 v_tp))]) hP hD [6, 0, 1, 4, 5] [2, 3, 7] rfl rfl (by decide +kernel) (by decide +kernel) hk1 hFc hP1 hD1
                                              clear hP hD hPc hDc hFc ht hvm hz1 hk1 hP1 hD1
                                              obtain ⟨hP, hD⟩ := hJ9
                                              refine g5_rs [(b_ws, (arJ G 8 v_ws)), (b_hw, (arJ G 4 v_hw)), (b_tp, (arI G 400 v_tp)), (b_o, (oc12 u_th u_sa b_rf b_ro b_im b_ke u_fd b_tp u_td z302 z303 z304 z305 u_fa u_bd u_nc b_nl z316 b_op b_ar u_le b_pi b_pa z317 u_od b_ws b_hw u_la b_se b_re u_bk u_va u_su u_ce u_ho u_wy u_bt u_ps b_pt u_tg u_sn b_ip u_ic b_ah b_be b_me u_wd b_tr b_ld u_st b_wn u_id)), (b_op, (arI G 400 z318)), (b_ar, (arI G 400 z319)), (b_pi, (arI G 400 v_pi)), (b_pa, (arI G 400 v_pa))] hP hD ?_
                                              clear hP hD
                                              intro hP hD
                                              have hmf8 := xj_mf i_310
                                              refine lv_aload_n hx hb dX12_behindSum_225 rfl (lv_at hl 2 rfl) ?_
                                              refine W.eq (g2 := F0 m 226 ls [.ref b_o]) rfl ?_
                                              refine lv_iload_n hx hb dX12_behindSum_226 rfl (lv_at hl 0 rfl) ?_
                                              refine lv_iconst (v := 0) hx hb dX12_behindSum_227 (by decide +kernel) ?_
                                              obtain ⟨hPc, hDc, hFc⟩ := g5_sub3 (wc := [(b_o, (oc12 u_th u_sa b_rf b_ro b_im b_ke u_fd b_tp u_td z302 z303 z304 z305 u_fa u_bd u_nc b_nl z316 b_op b_ar u_le b_pi b_pa z317 u_od b_ws b_hw u_la b_se b_re u_bk u_va u_su u_ce u_ho u_wy u_bt u_ps b_pt u_tg u_sn b_ip u_ic b_ah b_be b_me u_wd b_tr b_ld u_st b_wn u_id)), (b_pi, (arI G 400 v_pi)), (b_pa, (arI G 400 v_pa))]) hP hD hS hA [3, 6, 7] (by decide +kernel) rfl
                                              refine va_callv (va_runV (As := [.int 26, .int 0]) (rest := []) ⟨hx, hb, hml, hown, hts⟩ (n_push l G b_o b_pi b_pa b_rf b_ro b_im b_ke b_tp b_nl b_op b_ar b_ws b_hw b_se b_re b_pt b_ip b_ah b_be b_me b_tr b_ld b_wn H.size u_th u_sa u_fd u_td z302 z303 z304 u_fa u_bd u_nc z316 u_le z317 u_od u_la u_bk u_ce u_ho u_wy u_bt u_ps u_tg u_sn u_ic u_wd u_id 26 0 z305 u_va u_su u_st v_pi v_pa h_u_td i_297 i_298 ⟨by omega, by omega⟩ h_u_nc i_308 i_309 h_u_la h_u_bk h_u_ce h_u_ho h_u_wy h_u_bt h_u_ps h_u_ic h_u_id (by omega)) (cwV 2 hts gV_X12_261 rfl rfl rfl hv_X12_push ⟨Nat.le_of_ble_eq_true rfl, Nat.le_of_ble_eq_true rfl⟩) (g5_preV hPc hK hDc hN hT hS hFc (ci := 12) (q0 := 0) rfl rfl) rfl rfl hl.1 rfl (lv_room (Nat.le_of_ble_eq_true rfl)) dX12_behindSum_228 ⟨Nat.le_of_ble_eq_true rfl, Nat.le_of_ble_eq_true rfl⟩) hS (fun q _ h => hFc q h) hFc (fun u t H locs ht hvm hw hB hz1 hk1 hS => ?_)
                                              obtain ⟨hP1, hD1⟩ := hB
                                              have hP1 := g5_ht ht hP1
                                              obtain ⟨z322, (i_320 : 0 ≤ z322.toInt ∧ z322.toInt ≤ 400), (i_321 : z322.toInt = z317.toInt + 1), rfl⟩ := hw
                                              have hJ9 := va_join (wr := [(b_ws, (arJ G 8 v_ws)), (b_hw, (arJ G 4 v_hw)), (b_tp, (arI G 400 v_tp)), (b_op, (arI G 400 z318)), (b_ar, (arI G 400 z319))]) hP hD [3, 6, 7] [0, 1, 2, 4, 5] rfl rfl (by decide +kernel) (by decide +kernel) hk1 hFc hP1 hD1
                                              clear hP hD hPc hDc hFc ht hvm hz1 hk1 hP1 hD1
                                              obtain ⟨hP, hD⟩ := hJ9
                                              refine g5_rs [(b_ws, (arJ G 8 v_ws)), (b_hw, (arJ G 4 v_hw)), (b_tp, (arI G 400 v_tp)), (b_op, (arI G 400 z318)), (b_ar, (arI G 400 z319)), (b_o, (oc12 u_th u_sa b_rf b_ro b_im b_ke u_fd b_tp u_td z302 z303 z304 z305 u_fa u_bd u_nc b_nl z316 b_op b_ar u_le b_pi b_pa z322 u_od b_ws b_hw u_la b_se b_re u_bk u_va u_su u_ce u_ho u_wy u_bt u_ps b_pt u_tg u_sn b_ip u_ic b_ah b_be b_me u_wd b_tr b_ld u_st b_wn u_id)), (b_pi, (arI G 400 (upd v_pi z317.toNatClampNeg 26))), (b_pa, (arI G 400 (upd v_pa z317.toNatClampNeg 0)))] hP hD ?_
                                              clear hP hD
                                              intro hP hD
                                              refine lv_iconst (v := 1) hx hb dX12_behindSum_231 (by decide +kernel) ?_
                                              exact W.iret (v := 1) hx hb hr (fun t ht hW => ⟨⟨1, [(b_o, (oc12 u_th u_sa b_rf b_ro b_im b_ke u_fd b_tp u_td z302 z303 z304 z305 u_fa u_bd u_nc b_nl z316 b_op b_ar u_le b_pi b_pa z322 u_od b_ws b_hw u_la b_se b_re u_bk u_va u_su u_ce u_ho u_wy u_bt u_ps b_pt u_tg u_sn b_ip u_ic b_ah b_be b_me u_wd b_tr b_ld u_st b_wn u_id)), (b_tp, (arI G 400 v_tp)), (b_op, (arI G 400 z318)), (b_ar, (arI G 400 z319)), (b_pi, (arI G 400 (upd v_pi z317.toNatClampNeg 26))), (b_pa, (arI G 400 (upd v_pa z317.toNatClampNeg 0))), (b_ws, (arJ G 8 v_ws)), (b_hw, (arJ G 4 v_hw))], rfl, Or.inr (⟨1, z302, z303, z304, z305, z316, z322, u_od, z318, z319, (upd v_pi z317.toNatClampNeg 26), (upd v_pa z317.toNatClampNeg 0), i_297, i_298, i_308, i_320, ⟨by have zc_o_r : (1 : Int32).toInt = 1 := (by decide +kernel); omega, by have zc_o_r : (1 : Int32).toInt = 1 := (by decide +kernel); omega⟩, by omega, i_300, xj_push i_310 (by omega) (by omega) ⟨by decide, by decide⟩ (Or.inl (by decide +kernel)), tj_1 (hj_push2 i_311 (by omega) (by omega) ⟨by decide, by decide⟩ (Or.inr (no31_le (inn_no31 i_122 (tj_d1 e_j (by decide +kernel)) n_126) (by omega)))) (by decide +kernel), by have w9 := (twt_0 (by decide +kernel) : twt (1 : Int32).toInt = 0); omega, rq_t (rq_cmp (o := 26) hRC hFD (by rw [((tk_sign e_tp hTK (by decide +kernel) (by decide +kernel) (c := 61)).mpr i_294)]; decide) (by decide +kernel) (opM_0 (fun q8 => i_2 ((tk_sign e_tp hTK (by decide +kernel) (by decide +kernel) (c := 43)).mp q8)) (fun q8 => i_32 ((tk_sign e_tp hTK (by decide +kernel) (by decide +kernel) (c := 45)).mp q8)) (fun q8 => i_62 ((tk_sign e_tp hTK (by decide +kernel) (by decide +kernel) (c := 42)).mp q8)) (fun q8 => i_92 ((tk_sign e_tp hTK (by decide +kernel) (by decide +kernel) (c := 47)).mp q8))) (by rw [← i_123]; first | omega | (unfold gNe at *; omega)) (by rw [← i_123]; first | omega | (unfold gNe at *; omega)) i_228 (stl_c i_312 (by decide +kernel)) (toka_nx hTK i_301) (by omega) (by omega) (by omega)) (by decide +kernel), rfl, rfl⟩), by rw [ht]; exact hP.sub [5, 2, 3, 4, 6, 7, 0, 1] rfl, hD.sub [5, 2, 3, 4, 6, 7, 0, 1] (by decide +kernel) rfl⟩, hS.F ht⟩) hS.2.2 dX12_behindSum_232
                                        ·
                                          have hJ9 := va_join (wr := [(b_tp, (arI G 400 v_tp)), (b_op, (arI G 400 v_op)), (b_ar, (arI G 400 v_ar)), (b_ws, (arJ G 8 v_ws)), (b_hw, (arJ G 4 v_hw)), (b_pi, (arI G 400 v_pi)), (b_pa, (arI G 400 v_pa))]) hP hD [7] [0, 1, 2, 3, 4, 5, 6] rfl rfl (by decide +kernel) (by decide +kernel) hk1 hFc hP1 hD1
                                          clear hP hD hPc hDc hFc ht hvm hz1 hk1 hP1 hD1
                                          obtain ⟨hP, hD⟩ := hJ9
                                          refine g5_rs [(b_tp, (arI G 400 v_tp)), (b_op, (arI G 400 v_op)), (b_ar, (arI G 400 v_ar)), (b_ws, (arJ G 8 v_ws)), (b_hw, (arJ G 4 v_hw)), (b_pi, (arI G 400 v_pi)), (b_pa, (arI G 400 v_pa)), (b_o, (oc12 u_th u_sa b_rf b_ro b_im b_ke u_fd b_tp u_td u_fr u_to u_so u_wo u_fa u_bd u_nc b_nl u_co b_op b_ar u_le b_pi b_pa u_pd u_od b_ws b_hw u_la b_se b_re u_bk u_va u_su u_ce u_ho u_wy u_bt u_ps b_pt u_tg u_sn b_ip u_ic b_ah b_be b_me u_wd b_tr b_ld u_st b_wn u_id))] hP hD ?_
                                          clear hP hD
                                          intro hP hD
                                          refine lv_if_eq (tgt := 209) hx hb dX12_behindSum_202 (by decide +kernel) (fun c_323 => ?_) (fun c_323 => ?_)
                                          ·
                                            refine lv_iconst (v := 0) hx hb dX12_behindSum_209 (by decide +kernel) ?_
                                            obtain ⟨hPc, hDc, hFc⟩ := g5_sub3 (wc := [(b_o, (oc12 u_th u_sa b_rf b_ro b_im b_ke u_fd b_tp u_td u_fr u_to u_so u_wo u_fa u_bd u_nc b_nl u_co b_op b_ar u_le b_pi b_pa u_pd u_od b_ws b_hw u_la b_se b_re u_bk u_va u_su u_ce u_ho u_wy u_bt u_ps b_pt u_tg u_sn b_ip u_ic b_ah b_be b_me u_wd b_tr b_ld u_st b_wn u_id)), (b_tp, (arI G 400 v_tp))]) hP hD hS hA [7, 0] (by decide +kernel) rfl
                                            refine va_callv (va_runV (As := [.int 0]) (rest := []) ⟨hx, hb, hml, hown, hts⟩ (n_must0 l G b_o b_tp b_rf b_ro b_im b_ke b_nl b_op b_ar b_pi b_pa b_ws b_hw b_se b_re b_pt b_ip b_ah b_be b_me b_tr b_ld b_wn H.size u_th u_sa u_fd u_td u_fr u_to u_so u_fa u_bd u_nc u_co u_le u_pd u_od u_la u_bk u_ce u_ho u_wy u_bt u_ps u_tg u_sn u_ic u_wd u_id u_wo u_va u_su u_st v_tp h_u_td h_u_fr h_u_to h_u_bd h_u_nc h_u_co h_u_pd h_u_la h_u_bk h_u_ce h_u_ho h_u_wy h_u_bt h_u_ps h_u_ic h_u_id) (cwV 1 hts gV_X12_233 rfl rfl rfl hv_X12_must ⟨Nat.le_of_ble_eq_true rfl, Nat.le_of_ble_eq_true rfl⟩) (g5_preV hPc hK hDc hN hT hS hFc (ci := 12) (q0 := 0) rfl rfl) rfl rfl hl.1 rfl (lv_room (Nat.le_of_ble_eq_true rfl)) dX12_behindSum_210 ⟨Nat.le_of_ble_eq_true rfl, Nat.le_of_ble_eq_true rfl⟩) hS (fun q _ h => hFc q h) hFc (fun u t H locs ht hvm hw hB hz1 hk1 hS => ?_)
                                            obtain ⟨hP1, hD1⟩ := hB
                                            have hP1 := g5_ht ht hP1
                                            obtain rfl := hw
                                            have hJ9 := va_join (wr := [(b_op, (arI G 400 v_op)), (b_ar, (arI G 400 v_ar)), (b_ws, (arJ G 8 v_ws)), (b_hw, (arJ G 4 v_hw)), (b_pi, (arI G 400 v_pi)), (b_pa, (arI G 400 v_pa))]) hP hD [7, 0] [1, 2, 3, 4, 5, 6] rfl rfl (by decide +kernel) (by decide +kernel) hk1 hFc hP1 hD1
                                            clear hP hD hPc hDc hFc ht hvm hz1 hk1 hP1 hD1
                                            obtain ⟨hP, hD⟩ := hJ9
                                            refine g5_rs [(b_op, (arI G 400 v_op)), (b_ar, (arI G 400 v_ar)), (b_ws, (arJ G 8 v_ws)), (b_hw, (arJ G 4 v_hw)), (b_pi, (arI G 400 v_pi)), (b_pa, (arI G 400 v_pa)), (b_o, (oc12 u_th u_sa b_rf b_ro b_im b_ke u_fd b_tp u_td u_fr u_to u_so u_wo u_fr 1 u_nc b_nl u_co b_op b_ar u_le b_pi b_pa u_pd u_od b_ws b_hw u_la b_se b_re u_bk u_va u_su u_ce u_ho u_wy u_bt u_ps b_pt u_tg u_sn b_ip u_ic b_ah b_be b_me u_wd b_tr b_ld u_st b_wn u_id)), (b_tp, (arI G 400 v_tp))] hP hD ?_
                                            clear hP hD
                                            intro hP hD
                                            refine lv_aload_n hx hb dX12_behindSum_213 rfl (lv_at hl 2 rfl) ?_
                                            refine va_get (D := G.1) (ci := 12) (v := .int 1) (C := RX12) (T := TX12) (N := 52) hx hb hts inG_X12 hown hK hP 6 rfl rfl 14 (by decide +kernel) (hts _ fl_X12_205) (fun _ h9 => h9) rfl dX12_behindSum_214 ?_
                                            refine W.eq (g2 := F0 m 217 ls [.int 1]) rfl ?_
                                            refine lv_if_ne (tgt := 231) hx hb dX12_behindSum_217 (by decide +kernel) (fun c_324 => ?_) (fun c_324 => ?_)
                                            ·
                                              refine lv_iconst (v := 1) hx hb dX12_behindSum_231 (by decide +kernel) ?_
                                              exact W.iret (v := 1) hx hb hr (fun t ht hW => ⟨⟨1, [(b_o, (oc12 u_th u_sa b_rf b_ro b_im b_ke u_fd b_tp u_td u_fr u_to u_so u_wo u_fr 1 u_nc b_nl u_co b_op b_ar u_le b_pi b_pa u_pd u_od b_ws b_hw u_la b_se b_re u_bk u_va u_su u_ce u_ho u_wy u_bt u_ps b_pt u_tg u_sn b_ip u_ic b_ah b_be b_me u_wd b_tr b_ld u_st b_wn u_id)), (b_tp, (arI G 400 v_tp)), (b_op, (arI G 400 v_op)), (b_ar, (arI G 400 v_ar)), (b_pi, (arI G 400 v_pi)), (b_pa, (arI G 400 v_pa)), (b_ws, (arJ G 8 v_ws)), (b_hw, (arJ G 4 v_hw))], rfl, Or.inl (⟨1, ⟨by have zc_o_r : (1 : Int32).toInt = 1 := (by decide +kernel); omega, by have zc_o_r : (1 : Int32).toInt = 1 := (by decide +kernel); omega⟩, rq_t (rq_cmpB hRC hFD (cpM_0 (fun q8 => i_232 ((tk_sign e_tp hTK (by decide +kernel) (by decide +kernel) (c := 60)).mp q8)) (fun q8 => i_263 ((tk_sign e_tp hTK (by decide +kernel) (by decide +kernel) (c := 62)).mp q8)) (fun q8 => i_295 ((tk_sign e_tp hTK (by decide +kernel) (by decide +kernel) (c := 61)).mp q8))) (opM_0 (fun q8 => i_2 ((tk_sign e_tp hTK (by decide +kernel) (by decide +kernel) (c := 43)).mp q8)) (fun q8 => i_32 ((tk_sign e_tp hTK (by decide +kernel) (by decide +kernel) (c := 45)).mp q8)) (fun q8 => i_62 ((tk_sign e_tp hTK (by decide +kernel) (by decide +kernel) (c := 42)).mp q8)) (fun q8 => i_92 ((tk_sign e_tp hTK (by decide +kernel) (by decide +kernel) (c := 47)).mp q8))) (by rw [← i_123]; first | omega | (unfold gNe at *; omega)) (by rw [← i_123]; first | omega | (unfold gNe at *; omega)) i_228) (by decide +kernel), rfl, rfl⟩), by rw [ht]; exact hP.sub [6, 7, 0, 1, 4, 5, 2, 3] rfl, hD.sub [6, 7, 0, 1, 4, 5, 2, 3] (by decide +kernel) rfl⟩, hS.F ht⟩) hS.2.2 dX12_behindSum_232
                                            ·
                                              exact absurd c_324 (by decide +kernel)
                                          ·
                                            exact absurd c_323 (by decide +kernel)
                                    ·
                                      exact absurd c_292 (by decide +kernel)
                                ·
                                  exact absurd c_261 (by decide +kernel)
                            ·
                              exact absurd c_230 (by decide +kernel)
                        ·
                          have i_226 : p_1.toInt = 0 := g5_neN (a := p_1.toInt) (b := 0) rfl (by decide +kernel) c_226
                          refine lv_iconst (v := 4) hx hb dX12_behindSum_147 (by decide +kernel) ?_
                          exact W.iret (v := 4) hx hb hr (fun t ht hW => ⟨⟨4, [(b_o, (oc12 u_th u_sa b_rf b_ro b_im b_ke u_fd b_tp u_td u_fr u_to u_so u_wo u_fa u_bd u_nc b_nl u_co b_op b_ar u_le b_pi b_pa u_pd u_od b_ws b_hw u_la b_se b_re u_bk u_va u_su u_ce u_ho u_wy u_bt u_ps b_pt u_tg u_sn b_ip u_ic b_ah b_be b_me u_wd b_tr b_ld u_st b_wn u_id)), (b_tp, (arI G 400 v_tp)), (b_op, (arI G 400 v_op)), (b_ar, (arI G 400 v_ar)), (b_pi, (arI G 400 v_pi)), (b_pa, (arI G 400 v_pa)), (b_ws, (arJ G 8 v_ws)), (b_hw, (arJ G 4 v_hw))], rfl, Or.inr (⟨4, u_fr, u_to, u_so, u_wo, u_co, u_pd, u_od, v_op, v_ar, v_pi, v_pa, h_u_fr, h_u_to, h_u_co, h_u_pd, ⟨by have zc_o_r : (4 : Int32).toInt = 4 := (by decide +kernel); omega, by have zc_o_r : (4 : Int32).toInt = 4 := (by decide +kernel); omega⟩, by omega, e_s, e_x, tj_4 (tj_d1 e_j (by decide +kernel)) (by decide +kernel) (inn_no30 i_122 (by omega)), by have w9 := (twt_0 (by decide +kernel) : twt (4 : Int32).toInt = 0); omega, rq_t (rq_over hRC hFD (opM_0 (fun q8 => i_2 ((tk_sign e_tp hTK (by decide +kernel) (by decide +kernel) (c := 43)).mp q8)) (fun q8 => i_32 ((tk_sign e_tp hTK (by decide +kernel) (by decide +kernel) (c := 45)).mp q8)) (fun q8 => i_62 ((tk_sign e_tp hTK (by decide +kernel) (by decide +kernel) (c := 42)).mp q8)) (fun q8 => i_92 ((tk_sign e_tp hTK (by decide +kernel) (by decide +kernel) (c := 47)).mp q8))) (by rw [← i_123]; first | omega | (unfold gNe at *; omega)) (by omega)) (by decide +kernel), rfl, rfl⟩), by rw [ht]; exact hP.sub [5, 0, 1, 2, 6, 7, 3, 4] rfl, hD.sub [5, 0, 1, 2, 6, 7, 3, 4] (by decide +kernel) rfl⟩, hS.F ht⟩) hS.2.2 dX12_behindSum_148
                    ·
                      have i_126 : z124.toInt = 31 := g5_neN (a := z124.toInt) (b := 31) rfl (by decide +kernel) c_126
                      refine lv_aload_n hx hb dX12_behindSum_94 rfl (lv_at hl 2 rfl) ?_
                      refine lv_aload_n hx hb dX12_behindSum_95 rfl (lv_at hl 2 rfl) ?_
                      refine lv_bipush (v := 93) hx hb dX12_behindSum_96 (by decide +kernel) ?_
                      obtain ⟨hPc, hDc, hFc⟩ := g5_sub3 (wc := [(b_o, (oc12 u_th u_sa b_rf b_ro b_im b_ke u_fd b_tp u_td u_fr u_to u_so u_wo u_fa u_bd u_nc b_nl u_co b_op b_ar u_le b_pi b_pa u_pd u_od b_ws b_hw u_la b_se b_re u_bk u_va u_su u_ce u_ho u_wy u_bt u_ps b_pt u_tg u_sn b_ip u_ic b_ah b_be b_me u_wd b_tr b_ld u_st b_wn u_id))]) hP hD hS hA [5] (by decide +kernel) rfl
                      refine va_calli (va_runV (As := [.int 93]) (rest := [.ref b_o]) ⟨hx, hb, hml, hown, hts⟩ (n_isSignX93 l G b_o b_rf b_ro b_im b_ke b_tp b_nl b_op b_ar b_pi b_pa b_ws b_hw b_se b_re b_pt b_ip b_ah b_be b_me b_tr b_ld b_wn H.size u_th u_sa u_fd u_td u_fr u_to u_so u_fa u_bd u_nc u_co u_le u_pd u_od u_la u_bk u_ce u_ho u_wy u_bt u_ps u_tg u_sn u_ic u_wd u_id u_wo u_va u_su u_st h_u_td h_u_fr h_u_to ⟨by omega, by omega⟩ h_u_nc h_u_co h_u_pd h_u_la h_u_bk h_u_ce h_u_ho h_u_wy h_u_bt h_u_ps h_u_ic h_u_id) (cwV 1 hts gV_X12_267 rfl rfl rfl hv_X12_isSign ⟨Nat.le_of_ble_eq_true rfl, Nat.le_of_ble_eq_true rfl⟩) (g5_preV hPc hK hDc hN hT hS hFc (ci := 12) (q0 := 0) rfl rfl) rfl rfl hl.1 rfl (lv_room (Nat.le_of_ble_eq_true rfl)) dX12_behindSum_98 ⟨Nat.le_of_ble_eq_true rfl, Nat.le_of_ble_eq_true rfl⟩) hS (fun q _ h => hFc q h) hFc (fun r u t H locs ht hvm hw hB hz1 hk1 hS => ?_)
                      obtain ⟨hP1, hD1⟩ := hB
                      have hP1 := g5_ht ht hP1
                      rcases hw with ⟨(i_325 : u_so.toInt = 3 ∧ u_wo.toInt = 93), rfl, rfl⟩ | ⟨(i_326 : ¬ (u_so.toInt = 3 ∧ u_wo.toInt = 93)), rfl, rfl⟩
                      ·
                        have hJ9 := va_join (wr := [(b_tp, (arI G 400 v_tp)), (b_op, (arI G 400 v_op)), (b_ar, (arI G 400 v_ar)), (b_ws, (arJ G 8 v_ws)), (b_hw, (arJ G 4 v_hw)), (b_pi, (arI G 400 v_pi)), (b_pa, (arI G 400 v_pa))]) hP hD [5] [0, 1, 2, 3, 4, 6, 7] rfl rfl (by decide +kernel) (by decide +kernel) hk1 hFc hP1 hD1
                        clear hP hD hPc hDc hFc ht hvm hz1 hk1 hP1 hD1
                        obtain ⟨hP, hD⟩ := hJ9
                        refine g5_rs [(b_tp, (arI G 400 v_tp)), (b_op, (arI G 400 v_op)), (b_ar, (arI G 400 v_ar)), (b_ws, (arJ G 8 v_ws)), (b_hw, (arJ G 4 v_hw)), (b_pi, (arI G 400 v_pi)), (b_pa, (arI G 400 v_pa)), (b_o, (oc12 u_th u_sa b_rf b_ro b_im b_ke u_fd b_tp u_td u_fr u_to u_so u_wo u_fa u_bd u_nc b_nl u_co b_op b_ar u_le b_pi b_pa u_pd u_od b_ws b_hw u_la b_se b_re u_bk u_va u_su u_ce u_ho u_wy u_bt u_ps b_pt u_tg u_sn b_ip u_ic b_ah b_be b_me u_wd b_tr b_ld u_st b_wn u_id))] hP hD ?_
                        clear hP hD
                        intro hP hD
                        have hlt9 : u_fr.toInt < u_to.toInt := tks_lt e_s (by omega)
                        obtain ⟨hPc, hDc, hFc⟩ := g5_sub3 (wc := [(b_o, (oc12 u_th u_sa b_rf b_ro b_im b_ke u_fd b_tp u_td u_fr u_to u_so u_wo u_fa u_bd u_nc b_nl u_co b_op b_ar u_le b_pi b_pa u_pd u_od b_ws b_hw u_la b_se b_re u_bk u_va u_su u_ce u_ho u_wy u_bt u_ps b_pt u_tg u_sn b_ip u_ic b_ah b_be b_me u_wd b_tr b_ld u_st b_wn u_id)), (b_tp, (arI G 400 v_tp))]) hP hD hS hA [7, 0] (by decide +kernel) rfl
                        refine va_callv (va_runV (As := [.int 1]) (rest := []) ⟨hx, hb, hml, hown, hts⟩ (n_must1X l G b_o b_tp b_rf b_ro b_im b_ke b_nl b_op b_ar b_pi b_pa b_ws b_hw b_se b_re b_pt b_ip b_ah b_be b_me b_tr b_ld b_wn H.size u_th u_sa u_fd u_td u_fr u_to u_so u_fa u_bd u_nc u_co u_le u_pd u_od u_la u_bk u_ce u_ho u_wy u_bt u_ps u_tg u_sn u_ic u_wd u_id u_wo u_va u_su u_st v_tp h_u_td h_u_fr h_u_to h_u_bd h_u_nc h_u_co h_u_pd h_u_la h_u_bk h_u_ce h_u_ho h_u_wy h_u_bt h_u_ps h_u_ic h_u_id (by omega)) (cwV 1 hts gV_X12_233 rfl rfl rfl hv_X12_must ⟨Nat.le_of_ble_eq_true rfl, Nat.le_of_ble_eq_true rfl⟩) (g5_preV hPc hK hDc hN hT hS hFc (ci := 12) (q0 := 0) rfl rfl) rfl rfl hl.1 rfl (lv_room (Nat.le_of_ble_eq_true rfl)) dX12_behindSum_101 ⟨Nat.le_of_ble_eq_true rfl, Nat.le_of_ble_eq_true rfl⟩) hS (fun q _ h => hFc q h) hFc (fun u t H locs ht hvm hw hB hz1 hk1 hS => ?_)
                        obtain ⟨hP1, hD1⟩ := hB
                        have hP1 := g5_ht ht hP1
                        obtain ⟨z332, z333, z334, z335, (i_327 : 0 ≤ z332.toInt ∧ z332.toInt ≤ 400), (i_328 : 0 ≤ z333.toInt ∧ z333.toInt ≤ 400), (i_329 : u_to.toInt ≤ z332.toInt ∧ z332.toInt ≤ z333.toInt ∧ z333.toInt ≤ u_td.toInt), (i_330 : TKs z334.toInt z332.toInt z333.toInt), (i_331 : TOKA v_tp u_td.toInt.toNat (skT v_tp u_td.toInt.toNat u_to.toInt.toNat) z332 z333 z334 z335), rfl⟩ := hw
                        have hJ9 := va_join (wr := [(b_op, (arI G 400 v_op)), (b_ar, (arI G 400 v_ar)), (b_ws, (arJ G 8 v_ws)), (b_hw, (arJ G 4 v_hw)), (b_pi, (arI G 400 v_pi)), (b_pa, (arI G 400 v_pa))]) hP hD [7, 0] [1, 2, 3, 4, 5, 6] rfl rfl (by decide +kernel) (by decide +kernel) hk1 hFc hP1 hD1
                        clear hP hD hPc hDc hFc ht hvm hz1 hk1 hP1 hD1
                        obtain ⟨hP, hD⟩ := hJ9
                        refine g5_rs [(b_op, (arI G 400 v_op)), (b_ar, (arI G 400 v_ar)), (b_ws, (arJ G 8 v_ws)), (b_hw, (arJ G 4 v_hw)), (b_pi, (arI G 400 v_pi)), (b_pa, (arI G 400 v_pa)), (b_o, (oc12 u_th u_sa b_rf b_ro b_im b_ke u_fd b_tp u_td z332 z333 z334 z335 u_fa u_bd u_nc b_nl u_co b_op b_ar u_le b_pi b_pa u_pd u_od b_ws b_hw u_la b_se b_re u_bk u_va u_su u_ce u_ho u_wy u_bt u_ps b_pt u_tg u_sn b_ip u_ic b_ah b_be b_me u_wd b_tr b_ld u_st b_wn u_id)), (b_tp, (arI G 400 v_tp))] hP hD ?_
                        clear hP hD
                        intro hP hD
                        refine lv_aload_n hx hb dX12_behindSum_104 rfl (lv_at hl 2 rfl) ?_
                        refine va_get (D := G.1) (ci := 12) (v := .int u_bd) (C := RX12) (T := TX12) (N := 52) hx hb hts inG_X12 hown hK hP 6 rfl rfl 14 (by decide +kernel) (hts _ fl_X12_205) (fun _ h9 => h9) rfl dX12_behindSum_105 ?_
                        refine lv_if_ne (tgt := 136) hx hb dX12_behindSum_108 (by decide +kernel) (fun c_336 => ?_) (fun c_336 => ?_)
                        ·
                          have i_336 : u_bd.toInt ≠ 0 := g5_ne (a := u_bd.toInt) (b := 0) rfl (by decide +kernel) c_336
                          omega
                        ·
                          have i_336 : u_bd.toInt = 0 := g5_neN (a := u_bd.toInt) (b := 0) rfl (by decide +kernel) c_336
                          have hE_337 : HJ v_op v_ar v_pi v_pa g_a.toInt u_co.toInt u_pd.toInt 1 := tj_d1 e_j (by decide +kernel)
                          refine lv_aload_n hx hb dX12_behindSum_111 rfl (lv_at hl 2 rfl) ?_
                          refine lv_iconst (v := 5) hx hb dX12_behindSum_112 (by decide +kernel) ?_
                          obtain ⟨hPc, hDc, hFc⟩ := g5_sub3 (wc := [(b_o, (oc12 u_th u_sa b_rf b_ro b_im b_ke u_fd b_tp u_td z332 z333 z334 z335 u_fa u_bd u_nc b_nl u_co b_op b_ar u_le b_pi b_pa u_pd u_od b_ws b_hw u_la b_se b_re u_bk u_va u_su u_ce u_ho u_wy u_bt u_ps b_pt u_tg u_sn b_ip u_ic b_ah b_be b_me u_wd b_tr b_ld u_st b_wn u_id)), (b_op, (arI G 400 v_op)), (b_ar, (arI G 400 v_ar)), (b_pi, (arI G 400 v_pi)), (b_pa, (arI G 400 v_pa))]) hP hD hS hA [6, 0, 1, 4, 5] (by decide +kernel) rfl
                          refine va_callv (va_runV (As := [.int 5]) (rest := []) ⟨hx, hb, hml, hown, hts⟩ (n_settleX l G b_o b_op b_ar b_pi b_pa b_rf b_ro b_im b_ke b_tp b_nl b_ws b_hw b_se b_re b_pt b_ip b_ah b_be b_me b_tr b_ld b_wn H.size u_th u_sa u_fd u_td z332 z333 z334 u_fa u_bd u_nc u_co u_le u_pd u_od u_la u_bk u_ce u_ho u_wy u_bt u_ps u_tg u_sn u_ic u_wd u_id 5 g_a u_fr z335 u_va u_su u_st v_op v_ar v_pi v_pa g_op g_ar h_u_td i_327 i_328 ⟨by omega, by omega⟩ h_u_nc h_u_co h_u_pd h_u_la h_u_bk h_u_ce h_u_ho h_u_wy h_u_bt h_u_ps h_u_ic h_u_id ⟨by decide, by decide⟩ (by omega) (e_x) (hE_337)) (cwV 1 hts gV_X12_288 rfl rfl rfl hv_X12_settle ⟨Nat.le_of_ble_eq_true rfl, Nat.le_of_ble_eq_true rfl⟩) (g5_preV hPc hK hDc hN hT hS hFc (ci := 12) (q0 := 0) rfl rfl) rfl rfl hl.1 rfl (lv_room (Nat.le_of_ble_eq_true rfl)) dX12_behindSum_113 ⟨Nat.le_of_ble_eq_true rfl, Nat.le_of_ble_eq_true rfl⟩) hS (fun q _ h => hFc q h) hFc (fun u t H locs ht hvm hw hB hz1 hk1 hS => ?_)
                          obtain ⟨hP1, hD1⟩ := hB
                          have hP1 := g5_ht ht hP1
                          obtain ⟨z346, z347, z348, z349, (i_338 : 0 ≤ z346.toInt ∧ z346.toInt ≤ 400), (i_339 : 0 ≤ z347.toInt ∧ z347.toInt ≤ 400), (i_340 : XJ g_op g_ar z348 z349 v_pi v_pa g_a.toInt z346.toInt z347.toInt u_fr.toInt), (i_341 : HJ z348 z349 v_pi v_pa g_a.toInt z346.toInt z347.toInt 1), (i_342 : stl (5 : Int32).toInt (plL v_pi v_pa u_pd.toInt.toNat) (v_op, v_ar, u_co.toInt.toNat) = (plL v_pi v_pa z347.toInt.toNat, (z348, z349, z346.toInt.toNat))), (i_343 : S1 v_pi u_pd.toInt z347.toInt), (i_344 : S2 v_pi z347.toInt (5 : Int32).toInt), (i_345 : z347.toInt ≤ u_pd.toInt), rfl⟩ := hw
                          have hJ9 := va_join (wr := [(b_ws, (arJ G 8 v_ws)), (b_hw, (arJ G 4 v_hw)), (b_tp, (arI G 400 v_tp))]) hP hD [6, 0, 1, 4, 5] [2, 3, 7] rfl rfl (by decide +kernel) (by decide +kernel) hk1 hFc hP1 hD1
                          clear hP hD hPc hDc hFc ht hvm hz1 hk1 hP1 hD1
                          obtain ⟨hP, hD⟩ := hJ9
                          refine g5_rs [(b_ws, (arJ G 8 v_ws)), (b_hw, (arJ G 4 v_hw)), (b_tp, (arI G 400 v_tp)), (b_o, (oc12 u_th u_sa b_rf b_ro b_im b_ke u_fd b_tp u_td z332 z333 z334 z335 u_fa u_bd u_nc b_nl z346 b_op b_ar u_le b_pi b_pa z347 u_od b_ws b_hw u_la b_se b_re u_bk u_va u_su u_ce u_ho u_wy u_bt u_ps b_pt u_tg u_sn b_ip u_ic b_ah b_be b_me u_wd b_tr b_ld u_st b_wn u_id)), (b_op, (arI G 400 z348)), (b_ar, (arI G 400 z349)), (b_pi, (arI G 400 v_pi)), (b_pa, (arI G 400 v_pa))] hP hD ?_
                          clear hP hD
                          intro hP hD
                          have htp := top_sq (q' := (z347 - 1)) i_122 (by omega) i_341 (by decide +kernel) i_343 i_344
                          have htp1 := htp.1
                          refine lv_aload_n hx hb dX12_behindSum_116 rfl (lv_at hl 2 rfl) ?_
                          refine W.eq (g2 := F0 m 117 ls [.ref b_o]) rfl ?_
                          refine lv_dup hx hb dX12_behindSum_117 rfl ?_
                          refine va_get (D := G.1) (ci := 12) (v := .int z347) (C := RX12) (T := TX12) (N := 52) hx hb hts inG_X12 hown hK hP 3 rfl rfl 23 (by decide +kernel) (hts _ fl_X12_240) (fun _ h9 => h9) rfl dX12_behindSum_118 ?_
                          refine lv_iconst (v := 1) hx hb dX12_behindSum_121 (by decide +kernel) ?_
                          refine lv_isub hx hb dX12_behindSum_122 ?_
                          have t_350 : (z347 - 1).toInt = z347.toInt - 1 := g5_isub (a := z347.toInt) (b := 1) (by rfl) (by decide +kernel) (by omega) (by omega)
                          refine va_put (D := G.1) (ci := 12) (v := .int (z347 - 1)) (ty := .int) (C := RX12) (T := TX12) (N := 52) hx hb hts inG_X12 tyX12 tyX12_ok nmX12 hown hK hP hD hS 3 rfl rfl 23 (by decide +kernel) (hts _ fl_X12_240) (fun _ h9 => h9) rfl (by decide +kernel) rfl rfl (Nat.le_of_ble_eq_true rfl) dX12_behindSum_123 ?_
                          clear hP hD hS
                          intro H locs hP hD hS
                          refine g5_rs [(b_ws, (arJ G 8 v_ws)), (b_hw, (arJ G 4 v_hw)), (b_tp, (arI G 400 v_tp)), (b_o, (oc12 u_th u_sa b_rf b_ro b_im b_ke u_fd b_tp u_td z332 z333 z334 z335 u_fa u_bd u_nc b_nl z346 b_op b_ar u_le b_pi b_pa (z347 - 1) u_od b_ws b_hw u_la b_se b_re u_bk u_va u_su u_ce u_ho u_wy u_bt u_ps b_pt u_tg u_sn b_ip u_ic b_ah b_be b_me u_wd b_tr b_ld u_st b_wn u_id)), (b_op, (arI G 400 z348)), (b_ar, (arI G 400 z349)), (b_pi, (arI G 400 v_pi)), (b_pa, (arI G 400 v_pa))] hP hD ?_
                          clear hP hD
                          intro hP hD
                          refine W.eq (g2 := F0 m 126 ls []) rfl ?_
                          refine lv_aload_n hx hb dX12_behindSum_126 rfl (lv_at hl 2 rfl) ?_
                          refine lv_dup hx hb dX12_behindSum_127 rfl ?_
                          refine va_get (D := G.1) (ci := 12) (v := .int u_od) (C := RX12) (T := TX12) (N := 52) hx hb hts inG_X12 hown hK hP 3 rfl rfl 24 (by decide +kernel) (hts _ fl_X12_258) (fun _ h9 => h9) rfl dX12_behindSum_128 ?_
                          refine lv_iconst (v := 1) hx hb dX12_behindSum_131 (by decide +kernel) ?_
                          refine lv_isub hx hb dX12_behindSum_132 ?_
                          have t_351 : (u_od - 1).toInt = u_od.toInt - 1 := g5_isub (a := u_od.toInt) (b := 1) (by rfl) (by decide +kernel) (by omega) (by omega)
                          refine W.eq (g2 := F0 m 133 ls [.int (u_od - 1), .ref b_o]) rfl ?_
                          refine va_put (D := G.1) (ci := 12) (v := .int (u_od - 1)) (ty := .int) (C := RX12) (T := TX12) (N := 52) hx hb hts inG_X12 tyX12 tyX12_ok nmX12 hown hK hP hD hS 3 rfl rfl 24 (by decide +kernel) (hts _ fl_X12_258) (fun _ h9 => h9) rfl (by decide +kernel) rfl rfl (Nat.le_of_ble_eq_true rfl) dX12_behindSum_133 ?_
                          clear hP hD hS
                          intro H locs hP hD hS
                          refine g5_rs [(b_ws, (arJ G 8 v_ws)), (b_hw, (arJ G 4 v_hw)), (b_tp, (arI G 400 v_tp)), (b_o, (oc12 u_th u_sa b_rf b_ro b_im b_ke u_fd b_tp u_td z332 z333 z334 z335 u_fa u_bd u_nc b_nl z346 b_op b_ar u_le b_pi b_pa (z347 - 1) (u_od - 1) b_ws b_hw u_la b_se b_re u_bk u_va u_su u_ce u_ho u_wy u_bt u_ps b_pt u_tg u_sn b_ip u_ic b_ah b_be b_me u_wd b_tr b_ld u_st b_wn u_id)), (b_op, (arI G 400 z348)), (b_ar, (arI G 400 z349)), (b_pi, (arI G 400 v_pi)), (b_pa, (arI G 400 v_pa))] hP hD ?_
                          clear hP hD
                          intro hP hD
                          refine lv_iconst (v := 3) hx hb dX12_behindSum_136 (by decide +kernel) ?_
                          exact W.iret (v := 3) hx hb hr (fun t ht hW => ⟨⟨3, [(b_o, (oc12 u_th u_sa b_rf b_ro b_im b_ke u_fd b_tp u_td z332 z333 z334 z335 u_fa u_bd u_nc b_nl z346 b_op b_ar u_le b_pi b_pa (z347 - 1) (u_od - 1) b_ws b_hw u_la b_se b_re u_bk u_va u_su u_ce u_ho u_wy u_bt u_ps b_pt u_tg u_sn b_ip u_ic b_ah b_be b_me u_wd b_tr b_ld u_st b_wn u_id)), (b_tp, (arI G 400 v_tp)), (b_op, (arI G 400 z348)), (b_ar, (arI G 400 z349)), (b_pi, (arI G 400 v_pi)), (b_pa, (arI G 400 v_pa)), (b_ws, (arJ G 8 v_ws)), (b_hw, (arJ G 4 v_hw))], rfl, Or.inr (⟨3, z332, z333, z334, z335, z346, (z347 - 1), (u_od - 1), z348, z349, v_pi, v_pa, i_327, i_328, i_338, ⟨by omega, by omega⟩, ⟨by have zc_o_r : (3 : Int32).toInt = 3 := (by decide +kernel); omega, by have zc_o_r : (3 : Int32).toInt = 3 := (by decide +kernel); omega⟩, by omega, i_330, xj_up (xj_popB i_340 htp1 (by omega)) (by omega), tj_3 (hj_popB i_341 htp1 (by omega) (htp.2 (by omega))) (by decide +kernel), by have w9 := (twt_3 (by decide +kernel) : twt (3 : Int32).toInt = 2); omega, rq_t (rq_sq hRC hFD ((tk_sign e_tp hTK (by decide +kernel) (by decide +kernel) (c := 93)).mpr i_325) (by rw [← i_123]; first | omega | (unfold gNe at *; omega)) (stl_c i_342 (by decide +kernel)) (toka_nx hTK i_331) (by omega) (by omega) (by omega) (by omega) (by omega)) (by decide +kernel), rfl, rfl⟩), by rw [ht]; exact hP.sub [3, 2, 4, 5, 6, 7, 0, 1] rfl, hD.sub [3, 2, 4, 5, 6, 7, 0, 1] (by decide +kernel) rfl⟩, hS.F ht⟩) hS.2.2 dX12_behindSum_137
                      ·
                        have hJ9 := va_join (wr := [(b_tp, (arI G 400 v_tp)), (b_op, (arI G 400 v_op)), (b_ar, (arI G 400 v_ar)), (b_ws, (arJ G 8 v_ws)), (b_hw, (arJ G 4 v_hw)), (b_pi, (arI G 400 v_pi)), (b_pa, (arI G 400 v_pa))]) hP hD [5] [0, 1, 2, 3, 4, 6, 7] rfl rfl (by decide +kernel) (by decide +kernel) hk1 hFc hP1 hD1
                        clear hP hD hPc hDc hFc ht hvm hz1 hk1 hP1 hD1
                        obtain ⟨hP, hD⟩ := hJ9
                        refine g5_rs [(b_tp, (arI G 400 v_tp)), (b_op, (arI G 400 v_op)), (b_ar, (arI G 400 v_ar)), (b_ws, (arJ G 8 v_ws)), (b_hw, (arJ G 4 v_hw)), (b_pi, (arI G 400 v_pi)), (b_pa, (arI G 400 v_pa)), (b_o, (oc12 u_th u_sa b_rf b_ro b_im b_ke u_fd b_tp u_td u_fr u_to u_so u_wo u_fa u_bd u_nc b_nl u_co b_op b_ar u_le b_pi b_pa u_pd u_od b_ws b_hw u_la b_se b_re u_bk u_va u_su u_ce u_ho u_wy u_bt u_ps b_pt u_tg u_sn b_ip u_ic b_ah b_be b_me u_wd b_tr b_ld u_st b_wn u_id))] hP hD ?_
                        clear hP hD
                        intro hP hD
                        obtain ⟨hPc, hDc, hFc⟩ := g5_sub3 (wc := [(b_o, (oc12 u_th u_sa b_rf b_ro b_im b_ke u_fd b_tp u_td u_fr u_to u_so u_wo u_fa u_bd u_nc b_nl u_co b_op b_ar u_le b_pi b_pa u_pd u_od b_ws b_hw u_la b_se b_re u_bk u_va u_su u_ce u_ho u_wy u_bt u_ps b_pt u_tg u_sn b_ip u_ic b_ah b_be b_me u_wd b_tr b_ld u_st b_wn u_id)), (b_tp, (arI G 400 v_tp))]) hP hD hS hA [7, 0] (by decide +kernel) rfl
                        refine va_callv (va_runV (As := [.int 0]) (rest := []) ⟨hx, hb, hml, hown, hts⟩ (n_must0 l G b_o b_tp b_rf b_ro b_im b_ke b_nl b_op b_ar b_pi b_pa b_ws b_hw b_se b_re b_pt b_ip b_ah b_be b_me b_tr b_ld b_wn H.size u_th u_sa u_fd u_td u_fr u_to u_so u_fa u_bd u_nc u_co u_le u_pd u_od u_la u_bk u_ce u_ho u_wy u_bt u_ps u_tg u_sn u_ic u_wd u_id u_wo u_va u_su u_st v_tp h_u_td h_u_fr h_u_to h_u_bd h_u_nc h_u_co h_u_pd h_u_la h_u_bk h_u_ce h_u_ho h_u_wy h_u_bt h_u_ps h_u_ic h_u_id) (cwV 1 hts gV_X12_233 rfl rfl rfl hv_X12_must ⟨Nat.le_of_ble_eq_true rfl, Nat.le_of_ble_eq_true rfl⟩) (g5_preV hPc hK hDc hN hT hS hFc (ci := 12) (q0 := 0) rfl rfl) rfl rfl hl.1 rfl (lv_room (Nat.le_of_ble_eq_true rfl)) dX12_behindSum_101 ⟨Nat.le_of_ble_eq_true rfl, Nat.le_of_ble_eq_true rfl⟩) hS (fun q _ h => hFc q h) hFc (fun u t H locs ht hvm hw hB hz1 hk1 hS => ?_)
                        obtain ⟨hP1, hD1⟩ := hB
                        have hP1 := g5_ht ht hP1
                        obtain rfl := hw
                        have hJ9 := va_join (wr := [(b_op, (arI G 400 v_op)), (b_ar, (arI G 400 v_ar)), (b_ws, (arJ G 8 v_ws)), (b_hw, (arJ G 4 v_hw)), (b_pi, (arI G 400 v_pi)), (b_pa, (arI G 400 v_pa))]) hP hD [7, 0] [1, 2, 3, 4, 5, 6] rfl rfl (by decide +kernel) (by decide +kernel) hk1 hFc hP1 hD1
                        clear hP hD hPc hDc hFc ht hvm hz1 hk1 hP1 hD1
                        obtain ⟨hP, hD⟩ := hJ9
                        refine g5_rs [(b_op, (arI G 400 v_op)), (b_ar, (arI G 400 v_ar)), (b_ws, (arJ G 8 v_ws)), (b_hw, (arJ G 4 v_hw)), (b_pi, (arI G 400 v_pi)), (b_pa, (arI G 400 v_pa)), (b_o, (oc12 u_th u_sa b_rf b_ro b_im b_ke u_fd b_tp u_td u_fr u_to u_so u_wo u_fr 1 u_nc b_nl u_co b_op b_ar u_le b_pi b_pa u_pd u_od b_ws b_hw u_la b_se b_re u_bk u_va u_su u_ce u_ho u_wy u_bt u_ps b_pt u_tg u_sn b_ip u_ic b_ah b_be b_me u_wd b_tr b_ld u_st b_wn u_id)), (b_tp, (arI G 400 v_tp))] hP hD ?_
                        clear hP hD
                        intro hP hD
                        refine lv_aload_n hx hb dX12_behindSum_104 rfl (lv_at hl 2 rfl) ?_
                        refine va_get (D := G.1) (ci := 12) (v := .int 1) (C := RX12) (T := TX12) (N := 52) hx hb hts inG_X12 hown hK hP 6 rfl rfl 14 (by decide +kernel) (hts _ fl_X12_205) (fun _ h9 => h9) rfl dX12_behindSum_105 ?_
                        refine lv_if_ne (tgt := 136) hx hb dX12_behindSum_108 (by decide +kernel) (fun c_352 => ?_) (fun c_352 => ?_)
                        ·
                          refine lv_iconst (v := 3) hx hb dX12_behindSum_136 (by decide +kernel) ?_
                          exact W.iret (v := 3) hx hb hr (fun t ht hW => ⟨⟨3, [(b_o, (oc12 u_th u_sa b_rf b_ro b_im b_ke u_fd b_tp u_td u_fr u_to u_so u_wo u_fr 1 u_nc b_nl u_co b_op b_ar u_le b_pi b_pa u_pd u_od b_ws b_hw u_la b_se b_re u_bk u_va u_su u_ce u_ho u_wy u_bt u_ps b_pt u_tg u_sn b_ip u_ic b_ah b_be b_me u_wd b_tr b_ld u_st b_wn u_id)), (b_tp, (arI G 400 v_tp)), (b_op, (arI G 400 v_op)), (b_ar, (arI G 400 v_ar)), (b_pi, (arI G 400 v_pi)), (b_pa, (arI G 400 v_pa)), (b_ws, (arJ G 8 v_ws)), (b_hw, (arJ G 4 v_hw))], rfl, Or.inl (⟨3, ⟨by have zc_o_r : (3 : Int32).toInt = 3 := (by decide +kernel); omega, by have zc_o_r : (3 : Int32).toInt = 3 := (by decide +kernel); omega⟩, rq_t (rq_sqB hRC hFD (opM_0 (fun q8 => i_2 ((tk_sign e_tp hTK (by decide +kernel) (by decide +kernel) (c := 43)).mp q8)) (fun q8 => i_32 ((tk_sign e_tp hTK (by decide +kernel) (by decide +kernel) (c := 45)).mp q8)) (fun q8 => i_62 ((tk_sign e_tp hTK (by decide +kernel) (by decide +kernel) (c := 42)).mp q8)) (fun q8 => i_92 ((tk_sign e_tp hTK (by decide +kernel) (by decide +kernel) (c := 47)).mp q8))) (fun q8 => i_326 ((tk_sign e_tp hTK (by decide +kernel) (by decide +kernel) (c := 93)).mp q8)) (by rw [← i_123]; first | omega | (unfold gNe at *; omega))) (by decide +kernel), rfl, rfl⟩), by rw [ht]; exact hP.sub [6, 7, 0, 1, 4, 5, 2, 3] rfl, hD.sub [6, 7, 0, 1, 4, 5, 2, 3] (by decide +kernel) rfl⟩, hS.F ht⟩) hS.2.2 dX12_behindSum_137
                        ·
                          exact absurd c_352 (by decide +kernel)
                  ·
                    exact absurd c_121 (by decide +kernel)
                ·
                  exact absurd c_120 (by decide +kernel)
            ·
              exact absurd c_90 (by decide +kernel)
        ·
          exact absurd c_60 (by decide +kernel)
    ·
      exact absurd c_30 (by decide +kernel)
set_option maxHeartbeats 4000000 in
set_option maxRecDepth 100000 in
theorem n_behindTestX (l : Launch) (G : g5_G) (b_o b_tp b_op b_ar b_pi b_pa b_ws b_hw b_rf b_ro b_im b_ke b_nl b_se b_re b_pt b_ip b_ah b_be b_me b_tr b_ld b_wn : Nat) (sz : Nat) (u_th : Int32) (u_sa : Int32) (u_fd : Int32) (u_td : Int32) (u_fr : Int32) (u_to : Int32) (u_so : Int32) (u_fa : Int32) (u_bd : Int32) (u_nc : Int32) (u_co : Int32) (u_le : Int32) (u_pd : Int32) (u_od : Int32) (u_la : Int32) (u_bk : Int32) (u_ce : Int32) (u_ho : Int32) (u_wy : Int32) (u_bt : Int32) (u_ps : Int32) (u_tg : Int32) (u_sn : Int32) (u_ic : Int32) (u_wd : Int32) (u_id : Int32) (g_a : Int32) (g_t : Int32) (g_le : Int32) (u_wo : Int64) (u_va : Int64) (u_su : Int64) (u_st : Int64) (v_tp : Nat → Int32) (v_op : Nat → Int32) (v_ar : Nat → Int32) (v_pi : Nat → Int32) (v_pa : Nat → Int32) (v_ws : Nat → Int64) (v_hw : Nat → Int64) (g_op : Nat → Int32) (g_ar : Nat → Int32) (g_k : Nat) (h_u_td : 0 ≤ u_td.toInt ∧ u_td.toInt ≤ 400) (h_u_fr : 0 ≤ u_fr.toInt ∧ u_fr.toInt ≤ 400) (h_u_to : 0 ≤ u_to.toInt ∧ u_to.toInt ≤ 400) (h_u_bd : 0 ≤ u_bd.toInt ∧ u_bd.toInt ≤ 0) (h_u_nc : 0 ≤ u_nc.toInt ∧ u_nc.toInt ≤ 12) (h_u_co : 0 ≤ u_co.toInt ∧ u_co.toInt ≤ 400) (h_u_pd : 0 ≤ u_pd.toInt ∧ u_pd.toInt ≤ 400) (h_u_la : 0 ≤ u_la.toInt ∧ u_la.toInt ≤ 4840) (h_u_bk : 0 ≤ u_bk.toInt ∧ u_bk.toInt ≤ 1) (h_u_ce : 0 ≤ u_ce.toInt ∧ u_ce.toInt ≤ 63) (h_u_ho : 0 ≤ u_ho.toInt ∧ u_ho.toInt ≤ 23) (h_u_wy : 0 ≤ u_wy.toInt ∧ u_wy.toInt ≤ 3) (h_u_bt : 0 ≤ u_bt.toInt ∧ u_bt.toInt ≤ 1000000) (h_u_ps : 0 ≤ u_ps.toInt ∧ u_ps.toInt ≤ 200) (h_u_ic : 0 ≤ u_ic.toInt ∧ u_ic.toInt ≤ 1) (h_u_id : 0 ≤ u_id.toInt ∧ u_id.toInt ≤ 1) (e_t : u_fr.toInt ≤ u_to.toInt ∧ u_to.toInt ≤ u_td.toInt) (e_s : TKs u_so.toInt u_fr.toInt u_to.toInt) (e_x : XJ g_op g_ar v_op v_ar v_pi v_pa g_a.toInt u_co.toInt u_pd.toInt u_fr.toInt) (e_j : TJ v_op v_ar v_pi v_pa g_a.toInt u_co.toInt u_pd.toInt 2) (e_tp : TPI v_tp) (e_ws : WSI v_ws v_hw) (e_q : RQ v_tp u_td g_t (S0X g_t g_k g_op g_ar g_a g_le) 2 false u_fr u_to u_so u_wo v_op v_ar v_pi v_pa u_co u_pd u_od u_le) : Met l yX12_behindTest (wsG yX12_behindTest cX12_behindTest 2 (some .int)) ({ frames := 3, cells := 0, slots := 0, locals := 61 }) (va_Pc [.ref b_o] (g5_P G [(b_o, (oc12 u_th u_sa b_rf b_ro b_im b_ke u_fd b_tp u_td u_fr u_to u_so u_wo u_fa u_bd u_nc b_nl u_co b_op b_ar u_le b_pi b_pa u_pd u_od b_ws b_hw u_la b_se b_re u_bk u_va u_su u_ce u_ho u_wy u_bt u_ps b_pt u_tg u_sn b_ip u_ic b_ah b_be b_me u_wd b_tr b_ld u_st b_wn u_id)), (b_tp, (arI G 400 v_tp)), (b_op, (arI G 400 v_op)), (b_ar, (arI G 400 v_ar)), (b_pi, (arI G 400 v_pi)), (b_pa, (arI G 400 v_pa)), (b_ws, (arJ G 8 v_ws)), (b_hw, (arJ G 4 v_hw))] sz)) (va_Qi (fun (r : Int32) (u : va_W) => (∃ (o_r : Int32), (0 ≤ o_r.toInt ∧ o_r.toInt ≤ 4) ∧ (RQ v_tp u_td g_t (S0X g_t g_k g_op g_ar g_a g_le) o_r.toInt true u_fr u_to u_so u_wo v_op v_ar v_pi v_pa u_co u_pd u_od u_le) ∧ (r = o_r) ∧ (u = [(b_o, (oc12 u_th u_sa b_rf b_ro b_im b_ke u_fd b_tp u_td u_fr u_to u_so u_wo u_fr 1 u_nc b_nl u_co b_op b_ar u_le b_pi b_pa u_pd u_od b_ws b_hw u_la b_se b_re u_bk u_va u_su u_ce u_ho u_wy u_bt u_ps b_pt u_tg u_sn b_ip u_ic b_ah b_be b_me u_wd b_tr b_ld u_st b_wn u_id)), (b_tp, (arI G 400 v_tp)), (b_op, (arI G 400 v_op)), (b_ar, (arI G 400 v_ar)), (b_pi, (arI G 400 v_pi)), (b_pa, (arI G 400 v_pa)), (b_ws, (arJ G 8 v_ws)), (b_hw, (arJ G 4 v_hw))])) ∨ (∃ (o_r : Int32) (o_fr : Int32) (o_to : Int32) (o_so : Int32) (o_wo : Int64) (o_co : Int32) (o_pd : Int32) (o_od : Int32) (o_op : Nat → Int32) (o_ar : Nat → Int32) (o_pi : Nat → Int32) (o_pa : Nat → Int32), (0 ≤ o_fr.toInt ∧ o_fr.toInt ≤ 400) ∧ (0 ≤ o_to.toInt ∧ o_to.toInt ≤ 400) ∧ (0 ≤ o_co.toInt ∧ o_co.toInt ≤ 400) ∧ (0 ≤ o_pd.toInt ∧ o_pd.toInt ≤ 400) ∧ (0 ≤ o_r.toInt ∧ o_r.toInt ≤ 4) ∧ (u_fr.toInt ≤ o_fr.toInt ∧ o_fr.toInt ≤ o_to.toInt ∧ o_to.toInt ≤ u_td.toInt) ∧ (TKs o_so.toInt o_fr.toInt o_to.toInt) ∧ (XJ g_op g_ar o_op o_ar o_pi o_pa g_a.toInt o_co.toInt o_pd.toInt o_fr.toInt) ∧ (TJ o_op o_ar o_pi o_pa g_a.toInt o_co.toInt o_pd.toInt o_r.toInt) ∧ (twt o_r.toInt + 1 ≤ 1 + 3 * (o_fr.toInt - u_fr.toInt)) ∧ (RQ v_tp u_td g_t (S0X g_t g_k g_op g_ar g_a g_le) o_r.toInt false o_fr o_to o_so o_wo o_op o_ar o_pi o_pa o_co o_pd o_od u_le) ∧ (r = o_r) ∧ (u = [(b_o, (oc12 u_th u_sa b_rf b_ro b_im b_ke u_fd b_tp u_td o_fr o_to o_so o_wo u_fa u_bd u_nc b_nl o_co b_op b_ar u_le b_pi b_pa o_pd o_od b_ws b_hw u_la b_se b_re u_bk u_va u_su u_ce u_ho u_wy u_bt u_ps b_pt u_tg u_sn b_ip u_ic b_ah b_be b_me u_wd b_tr b_ld u_st b_wn u_id)), (b_tp, (arI G 400 v_tp)), (b_op, (arI G 400 o_op)), (b_ar, (arI G 400 o_ar)), (b_pi, (arI G 400 o_pi)), (b_pa, (arI G 400 o_pa)), (b_ws, (arJ G 8 v_ws)), (b_hw, (arJ G 4 v_hw))]))) (g5_B G (va_A [(b_o, (oc12 u_th u_sa b_rf b_ro b_im b_ke u_fd b_tp u_td u_fr u_to u_so u_wo u_fa u_bd u_nc b_nl u_co b_op b_ar u_le b_pi b_pa u_pd u_od b_ws b_hw u_la b_se b_re u_bk u_va u_su u_ce u_ho u_wy u_bt u_ps b_pt u_tg u_sn b_ip u_ic b_ah b_be b_me u_wd b_tr b_ld u_st b_wn u_id)), (b_tp, (arI G 400 v_tp)), (b_op, (arI G 400 v_op)), (b_ar, (arI G 400 v_ar)), (b_pi, (arI G 400 v_pi)), (b_pa, (arI G 400 v_pa)), (b_ws, (arJ G 8 v_ws)), (b_hw, (arJ G 4 v_hw))] sz)) (va_A [(b_o, (oc12 u_th u_sa b_rf b_ro b_im b_ke u_fd b_tp u_td u_fr u_to u_so u_wo u_fa u_bd u_nc b_nl u_co b_op b_ar u_le b_pi b_pa u_pd u_od b_ws b_hw u_la b_se b_re u_bk u_va u_su u_ce u_ho u_wy u_bt u_ps b_pt u_tg u_sn b_ip u_ic b_ah b_be b_me u_wd b_tr b_ld u_st b_wn u_id)), (b_tp, (arI G 400 v_tp)), (b_op, (arI G 400 v_op)), (b_ar, (arI G 400 v_ar)), (b_pi, (arI G 400 v_pi)), (b_pa, (arI G 400 v_pa)), (b_ws, (arJ G 8 v_ws)), (b_hw, (arJ G 4 v_hw))] sz)) 0 0 (va_A [(b_o, (oc12 u_th u_sa b_rf b_ro b_im b_ke u_fd b_tp u_td u_fr u_to u_so u_wo u_fa u_bd u_nc b_nl u_co b_op b_ar u_le b_pi b_pa u_pd u_od b_ws b_hw u_la b_se b_re u_bk u_va u_su u_ce u_ho u_wy u_bt u_ps b_pt u_tg u_sn b_ip u_ic b_ah b_be b_me u_wd b_tr b_ld u_st b_wn u_id)), (b_tp, (arI G 400 v_tp)), (b_op, (arI G 400 v_op)), (b_ar, (arI G 400 v_ar)), (b_pi, (arI G 400 v_pi)), (b_pa, (arI G 400 v_pa)), (b_ws, (arJ G 8 v_ws)), (b_hw, (arJ G 4 v_hw))] sz) := by
  refine Met.ofW (cc := cX12_behindTest) (maxL := 2) (ret := (some .int)) (by decide +kernel) rfl ?_
  intro p e s m args below meth c s₁ B hml hv
  obtain ⟨rfl, hsz, hP, hK, hD0, hN, hT⟩ := hv
  have hx := B.exec
  have hb := B.bytes
  have hr := B.returns
  have hts : ∀ w ∈ tblG, w.before _ s = true := fun w h => atoms_spec (ws := (wsG yX12_behindTest cX12_behindTest 2 (some .int))) B.pre w (List.mem_cons_of_mem _ h)
  have hown : s.vm.findClass RX12 = some m.cls := findClass_of_methodNamed B.named
  have hlocks := B.notSynchronized
  subst hsz
  have hD := hD0.self (sz := s.heap.size)
  generalize hAe : va_A [(b_o, (oc12 u_th u_sa b_rf b_ro b_im b_ke u_fd b_tp u_td u_fr u_to u_so u_wo u_fa u_bd u_nc b_nl u_co b_op b_ar u_le b_pi b_pa u_pd u_od b_ws b_hw u_la b_se b_re u_bk u_va u_su u_ce u_ho u_wy u_bt u_ps b_pt u_tg u_sn b_ip u_ic b_ah b_be b_me u_wd b_tr b_ld u_st b_wn u_id)), (b_tp, (arI G 400 v_tp)), (b_op, (arI G 400 v_op)), (b_ar, (arI G 400 v_ar)), (b_pi, (arI G 400 v_pi)), (b_pa, (arI G 400 v_pa)), (b_ws, (arJ G 8 v_ws)), (b_hw, (arJ G 4 v_hw))] s.heap.size = A at hD hT ⊢
  have hA : ∀ q : Nat, s.heap.size ≤ q → A q := fun q h => by rw [← hAe]; exact Or.inr h
  have hS : va_S A s.heap s.heap [] := va_S.rf
  replace hP : va_P G.1 vwCl [(b_o, (oc12 u_th u_sa b_rf b_ro b_im b_ke u_fd b_tp u_td u_fr u_to u_so u_wo u_fa u_bd u_nc b_nl u_co b_op b_ar u_le b_pi b_pa u_pd u_od b_ws b_hw u_la b_se b_re u_bk u_va u_su u_ce u_ho u_wy u_bt u_ps b_pt u_tg u_sn b_ip u_ic b_ah b_be b_me u_wd b_tr b_ld u_st b_wn u_id)), (b_tp, (arI G 400 v_tp)), (b_op, (arI G 400 v_op)), (b_ar, (arI G 400 v_ar)), (b_pi, (arI G 400 v_pi)), (b_pa, (arI G 400 v_pa)), (b_ws, (arJ G 8 v_ws)), (b_hw, (arJ G 4 v_hw))] s.heap := hP
  have hl := lv_entry ([.ref b_o]) (n := 2) (Nat.le_of_ble_eq_true rfl)
  rw [lg_entry_eq]
  generalize (lg_sl ([.ref b_o]) ++ List.replicate (2 - (lg_sl ([.ref b_o])).length) Slot.unset).toArray = ls at hl ⊢
  replace hl : lv_has ls 2 [(0, .ref b_o)] := hl
  have hmf9 := xj_mf e_x
  obtain ⟨kk, hRC, hFD⟩ := e_q
  have hTK := hFD.1
  have hr1 := hFD.2.1
  have hr2 := hFD.2.2.1
  refine lv_aload_n hx hb dX12_behindTest_0 rfl (lv_at hl 0 rfl) ?_
  refine lv_ldc2 (v := 1476) hx hb hown (hts _ kl_X12_298) dX12_behindTest_1 ?_
  obtain ⟨hPc, hDc, hFc⟩ := g5_sub3 (wc := [(b_o, (oc12 u_th u_sa b_rf b_ro b_im b_ke u_fd b_tp u_td u_fr u_to u_so u_wo u_fa u_bd u_nc b_nl u_co b_op b_ar u_le b_pi b_pa u_pd u_od b_ws b_hw u_la b_se b_re u_bk u_va u_su u_ce u_ho u_wy u_bt u_ps b_pt u_tg u_sn b_ip u_ic b_ah b_be b_me u_wd b_tr b_ld u_st b_wn u_id))]) hP hD hS hA [0] (by decide +kernel) rfl
  refine va_calli (va_runV (As := [.long 1476]) (rest := []) ⟨hx, hb, hml, hown, hts⟩ (n_isWordX1476 l G b_o b_rf b_ro b_im b_ke b_tp b_nl b_op b_ar b_pi b_pa b_ws b_hw b_se b_re b_pt b_ip b_ah b_be b_me b_tr b_ld b_wn s.heap.size u_th u_sa u_fd u_td u_fr u_to u_so u_fa u_bd u_nc u_co u_le u_pd u_od u_la u_bk u_ce u_ho u_wy u_bt u_ps u_tg u_sn u_ic u_wd u_id u_wo u_va u_su u_st h_u_td h_u_fr h_u_to ⟨by omega, by omega⟩ h_u_nc h_u_co h_u_pd h_u_la h_u_bk h_u_ce h_u_ho h_u_wy h_u_bt h_u_ps h_u_ic h_u_id) (cwV 1 hts gV_X12_254 rfl rfl rfl hv_X12_isWord ⟨Nat.le_of_ble_eq_true rfl, Nat.le_of_ble_eq_true rfl⟩) (g5_preV hPc hK hDc hN hT hS hFc (ci := 12) (q0 := 0) rfl rfl) rfl rfl hl.1 rfl (lv_room (Nat.le_of_ble_eq_true rfl)) dX12_behindTest_4 ⟨Nat.le_of_ble_eq_true rfl, Nat.le_of_ble_eq_true rfl⟩) hS (fun q _ h => hFc q h) hFc (fun r u t H locs ht hvm hw hB hz1 hk1 hS => ?_)
  obtain ⟨hP1, hD1⟩ := hB
  have hP1 := g5_ht ht hP1
  rcases hw with ⟨(i_1 : u_so.toInt = 1 ∧ u_wo.toInt = 1476), rfl, rfl⟩ | ⟨(i_2 : ¬ (u_so.toInt = 1 ∧ u_wo.toInt = 1476)), rfl, rfl⟩
  ·
    have hJ9 := va_join (wr := [(b_tp, (arI G 400 v_tp)), (b_op, (arI G 400 v_op)), (b_ar, (arI G 400 v_ar)), (b_pi, (arI G 400 v_pi)), (b_pa, (arI G 400 v_pa)), (b_ws, (arJ G 8 v_ws)), (b_hw, (arJ G 4 v_hw))]) hP hD [0] [1, 2, 3, 4, 5, 6, 7] rfl rfl (by decide +kernel) (by decide +kernel) hk1 hFc hP1 hD1
    clear hP hD hPc hDc hFc ht hvm hz1 hk1 hP1 hD1
    obtain ⟨hP, hD⟩ := hJ9
    refine g5_rs [(b_tp, (arI G 400 v_tp)), (b_op, (arI G 400 v_op)), (b_ar, (arI G 400 v_ar)), (b_pi, (arI G 400 v_pi)), (b_pa, (arI G 400 v_pa)), (b_ws, (arJ G 8 v_ws)), (b_hw, (arJ G 4 v_hw)), (b_o, (oc12 u_th u_sa b_rf b_ro b_im b_ke u_fd b_tp u_td u_fr u_to u_so u_wo u_fa u_bd u_nc b_nl u_co b_op b_ar u_le b_pi b_pa u_pd u_od b_ws b_hw u_la b_se b_re u_bk u_va u_su u_ce u_ho u_wy u_bt u_ps b_pt u_tg u_sn b_ip u_ic b_ah b_be b_me u_wd b_tr b_ld u_st b_wn u_id))] hP hD ?_
    clear hP hD
    intro hP hD
    refine lv_istore_n (lv' := [(1, .int 1), (0, .ref b_o)]) hx hb dX12_behindTest_7 rfl hl (by decide +kernel) rfl ?_
    clear hl
    intro ls hl
    refine lv_iload_n hx hb dX12_behindTest_8 rfl (lv_at hl 0 rfl) ?_
    refine lv_if_ne (tgt := 22) hx hb dX12_behindTest_9 (by decide +kernel) (fun c_3 => ?_) (fun c_3 => ?_)
    ·
      have hlt9 : u_fr.toInt < u_to.toInt := tks_lt e_s (by omega)
      have hE_4 : HJ v_op v_ar v_pi v_pa g_a.toInt u_co.toInt u_pd.toInt 1 := tj_d1 e_j (by decide +kernel)
      refine lv_aload_n hx hb dX12_behindTest_22 rfl (lv_at hl 1 rfl) ?_
      refine lv_iload_n hx hb dX12_behindTest_23 rfl (lv_at hl 0 rfl) ?_
      refine lv_if_eq (tgt := 31) hx hb dX12_behindTest_24 (by decide +kernel) (fun c_5 => ?_) (fun c_5 => ?_)
      ·
        exact absurd c_5 (by decide +kernel)
      ·
        refine lv_iconst (v := 2) hx hb dX12_behindTest_27 (by decide +kernel) ?_
        refine lv_goto (tgt := 32) hx hb dX12_behindTest_28 (by decide +kernel) ?_
        obtain ⟨hPc, hDc, hFc⟩ := g5_sub3 (wc := [(b_o, (oc12 u_th u_sa b_rf b_ro b_im b_ke u_fd b_tp u_td u_fr u_to u_so u_wo u_fa u_bd u_nc b_nl u_co b_op b_ar u_le b_pi b_pa u_pd u_od b_ws b_hw u_la b_se b_re u_bk u_va u_su u_ce u_ho u_wy u_bt u_ps b_pt u_tg u_sn b_ip u_ic b_ah b_be b_me u_wd b_tr b_ld u_st b_wn u_id)), (b_op, (arI G 400 v_op)), (b_ar, (arI G 400 v_ar)), (b_pi, (arI G 400 v_pi)), (b_pa, (arI G 400 v_pa))]) hP hD hS hA [7, 1, 2, 3, 4] (by decide +kernel) rfl
        refine va_callv (va_runV (As := [.int 2]) (rest := []) ⟨hx, hb, hml, hown, hts⟩ (n_settleX l G b_o b_op b_ar b_pi b_pa b_rf b_ro b_im b_ke b_tp b_nl b_ws b_hw b_se b_re b_pt b_ip b_ah b_be b_me b_tr b_ld b_wn H.size u_th u_sa u_fd u_td u_fr u_to u_so u_fa u_bd u_nc u_co u_le u_pd u_od u_la u_bk u_ce u_ho u_wy u_bt u_ps u_tg u_sn u_ic u_wd u_id 2 g_a u_fr u_wo u_va u_su u_st v_op v_ar v_pi v_pa g_op g_ar h_u_td h_u_fr h_u_to ⟨by omega, by omega⟩ h_u_nc h_u_co h_u_pd h_u_la h_u_bk h_u_ce h_u_ho h_u_wy h_u_bt h_u_ps h_u_ic h_u_id ⟨by decide, by decide⟩ (by omega) (e_x) (hE_4)) (cwV 1 hts gV_X12_288 rfl rfl rfl hv_X12_settle ⟨Nat.le_of_ble_eq_true rfl, Nat.le_of_ble_eq_true rfl⟩) (g5_preV hPc hK hDc hN hT hS hFc (ci := 12) (q0 := 0) rfl rfl) rfl rfl hl.1 rfl (lv_room (Nat.le_of_ble_eq_true rfl)) dX12_behindTest_32 ⟨Nat.le_of_ble_eq_true rfl, Nat.le_of_ble_eq_true rfl⟩) hS (fun q _ h => hFc q h) hFc (fun u t H locs ht hvm hw hB hz1 hk1 hS => ?_)
        obtain ⟨hP1, hD1⟩ := hB
        have hP1 := g5_ht ht hP1
        obtain ⟨z14, z15, z16, z17, (i_6 : 0 ≤ z14.toInt ∧ z14.toInt ≤ 400), (i_7 : 0 ≤ z15.toInt ∧ z15.toInt ≤ 400), (i_8 : XJ g_op g_ar z16 z17 v_pi v_pa g_a.toInt z14.toInt z15.toInt u_fr.toInt), (i_9 : HJ z16 z17 v_pi v_pa g_a.toInt z14.toInt z15.toInt 1), (i_10 : stl (2 : Int32).toInt (plL v_pi v_pa u_pd.toInt.toNat) (v_op, v_ar, u_co.toInt.toNat) = (plL v_pi v_pa z15.toInt.toNat, (z16, z17, z14.toInt.toNat))), (i_11 : S1 v_pi u_pd.toInt z15.toInt), (i_12 : S2 v_pi z15.toInt (2 : Int32).toInt), (i_13 : z15.toInt ≤ u_pd.toInt), rfl⟩ := hw
        have hJ9 := va_join (wr := [(b_tp, (arI G 400 v_tp)), (b_ws, (arJ G 8 v_ws)), (b_hw, (arJ G 4 v_hw))]) hP hD [7, 1, 2, 3, 4] [0, 5, 6] rfl rfl (by decide +kernel) (by decide +kernel) hk1 hFc hP1 hD1
        clear hP hD hPc hDc hFc ht hvm hz1 hk1 hP1 hD1
        obtain ⟨hP, hD⟩ := hJ9
        refine g5_rs [(b_tp, (arI G 400 v_tp)), (b_ws, (arJ G 8 v_ws)), (b_hw, (arJ G 4 v_hw)), (b_o, (oc12 u_th u_sa b_rf b_ro b_im b_ke u_fd b_tp u_td u_fr u_to u_so u_wo u_fa u_bd u_nc b_nl z14 b_op b_ar u_le b_pi b_pa z15 u_od b_ws b_hw u_la b_se b_re u_bk u_va u_su u_ce u_ho u_wy u_bt u_ps b_pt u_tg u_sn b_ip u_ic b_ah b_be b_me u_wd b_tr b_ld u_st b_wn u_id)), (b_op, (arI G 400 z16)), (b_ar, (arI G 400 z17)), (b_pi, (arI G 400 v_pi)), (b_pa, (arI G 400 v_pa))] hP hD ?_
        clear hP hD
        intro hP hD
        have hmf8 := xj_mf i_8
        refine lv_aload_n hx hb dX12_behindTest_35 rfl (lv_at hl 1 rfl) ?_
        refine W.eq (g2 := F0 m 36 ls [.ref b_o]) rfl ?_
        refine lv_iload_n hx hb dX12_behindTest_36 rfl (lv_at hl 0 rfl) ?_
        refine lv_if_eq (tgt := 45) hx hb dX12_behindTest_37 (by decide +kernel) (fun c_18 => ?_) (fun c_18 => ?_)
        ·
          exact absurd c_18 (by decide +kernel)
        ·
          refine lv_bipush (v := 28) hx hb dX12_behindTest_40 (by decide +kernel) ?_
          refine lv_goto (tgt := 47) hx hb dX12_behindTest_42 (by decide +kernel) ?_
          refine lv_aload_n hx hb dX12_behindTest_47 rfl (lv_at hl 1 rfl) ?_
          refine va_get (D := G.1) (ci := 12) (v := .int z14) (C := RX12) (T := TX12) (N := 52) hx hb hts inG_X12 hown hK hP 3 rfl rfl 17 (by decide +kernel) (hts _ fl_X12_237) (fun _ h9 => h9) rfl dX12_behindTest_48 ?_
          refine W.eq (g2 := F0 m 51 ls [.int z14, .int 28, .ref b_o]) rfl ?_
          obtain ⟨hPc, hDc, hFc⟩ := g5_sub3 (wc := [(b_o, (oc12 u_th u_sa b_rf b_ro b_im b_ke u_fd b_tp u_td u_fr u_to u_so u_wo u_fa u_bd u_nc b_nl z14 b_op b_ar u_le b_pi b_pa z15 u_od b_ws b_hw u_la b_se b_re u_bk u_va u_su u_ce u_ho u_wy u_bt u_ps b_pt u_tg u_sn b_ip u_ic b_ah b_be b_me u_wd b_tr b_ld u_st b_wn u_id)), (b_pi, (arI G 400 v_pi)), (b_pa, (arI G 400 v_pa))]) hP hD hS hA [3, 6, 7] (by decide +kernel) rfl
          refine va_callv (va_runV (As := [.int 28, .int z14]) (rest := []) ⟨hx, hb, hml, hown, hts⟩ (n_push l G b_o b_pi b_pa b_rf b_ro b_im b_ke b_tp b_nl b_op b_ar b_ws b_hw b_se b_re b_pt b_ip b_ah b_be b_me b_tr b_ld b_wn H.size u_th u_sa u_fd u_td u_fr u_to u_so u_fa u_bd u_nc z14 u_le z15 u_od u_la u_bk u_ce u_ho u_wy u_bt u_ps u_tg u_sn u_ic u_wd u_id 28 z14 u_wo u_va u_su u_st v_pi v_pa h_u_td h_u_fr h_u_to ⟨by omega, by omega⟩ h_u_nc i_6 i_7 h_u_la h_u_bk h_u_ce h_u_ho h_u_wy h_u_bt h_u_ps h_u_ic h_u_id (by omega)) (cwV 2 hts gV_X12_261 rfl rfl rfl hv_X12_push ⟨Nat.le_of_ble_eq_true rfl, Nat.le_of_ble_eq_true rfl⟩) (g5_preV hPc hK hDc hN hT hS hFc (ci := 12) (q0 := 0) rfl rfl) rfl rfl hl.1 rfl (lv_room (Nat.le_of_ble_eq_true rfl)) dX12_behindTest_51 ⟨Nat.le_of_ble_eq_true rfl, Nat.le_of_ble_eq_true rfl⟩) hS (fun q _ h => hFc q h) hFc (fun u t H locs ht hvm hw hB hz1 hk1 hS => ?_)
          obtain ⟨hP1, hD1⟩ := hB
          have hP1 := g5_ht ht hP1
          obtain ⟨z21, (i_19 : 0 ≤ z21.toInt ∧ z21.toInt ≤ 400), (i_20 : z21.toInt = z15.toInt + 1), rfl⟩ := hw
          have hJ9 := va_join (wr := [(b_tp, (arI G 400 v_tp)), (b_ws, (arJ G 8 v_ws)), (b_hw, (arJ G 4 v_hw)), (b_op, (arI G 400 z16)), (b_ar, (arI G 400 z17))]) hP hD [3, 6, 7] [0, 1, 2, 4, 5] rfl rfl (by decide +kernel) (by decide +kernel) hk1 hFc hP1 hD1
          clear hP hD hPc hDc hFc ht hvm hz1 hk1 hP1 hD1
          obtain ⟨hP, hD⟩ := hJ9
          refine g5_rs [(b_tp, (arI G 400 v_tp)), (b_ws, (arJ G 8 v_ws)), (b_hw, (arJ G 4 v_hw)), (b_op, (arI G 400 z16)), (b_ar, (arI G 400 z17)), (b_o, (oc12 u_th u_sa b_rf b_ro b_im b_ke u_fd b_tp u_td u_fr u_to u_so u_wo u_fa u_bd u_nc b_nl z14 b_op b_ar u_le b_pi b_pa z21 u_od b_ws b_hw u_la b_se b_re u_bk u_va u_su u_ce u_ho u_wy u_bt u_ps b_pt u_tg u_sn b_ip u_ic b_ah b_be b_me u_wd b_tr b_ld u_st b_wn u_id)), (b_pi, (arI G 400 (upd v_pi z15.toNatClampNeg 28))), (b_pa, (arI G 400 (upd v_pa z15.toNatClampNeg z14)))] hP hD ?_
          clear hP hD
          intro hP hD
          refine lv_aload_n hx hb dX12_behindTest_54 rfl (lv_at hl 1 rfl) ?_
          refine lv_iload_n hx hb dX12_behindTest_55 rfl (lv_at hl 0 rfl) ?_
          refine lv_if_eq (tgt := 64) hx hb dX12_behindTest_56 (by decide +kernel) (fun c_22 => ?_) (fun c_22 => ?_)
          ·
            exact absurd c_22 (by decide +kernel)
          ·
            refine lv_bipush (v := 28) hx hb dX12_behindTest_59 (by decide +kernel) ?_
            refine lv_goto (tgt := 66) hx hb dX12_behindTest_61 (by decide +kernel) ?_
            refine lv_iconst (v := 0) hx hb dX12_behindTest_66 (by decide +kernel) ?_
            obtain ⟨hPc, hDc, hFc⟩ := g5_sub3 (wc := [(b_o, (oc12 u_th u_sa b_rf b_ro b_im b_ke u_fd b_tp u_td u_fr u_to u_so u_wo u_fa u_bd u_nc b_nl z14 b_op b_ar u_le b_pi b_pa z21 u_od b_ws b_hw u_la b_se b_re u_bk u_va u_su u_ce u_ho u_wy u_bt u_ps b_pt u_tg u_sn b_ip u_ic b_ah b_be b_me u_wd b_tr b_ld u_st b_wn u_id)), (b_op, (arI G 400 z16)), (b_ar, (arI G 400 z17))]) hP hD hS hA [5, 3, 4] (by decide +kernel) rfl
            refine va_callv (va_runV (As := [.int 28, .int 0]) (rest := []) ⟨hx, hb, hml, hown, hts⟩ (n_emit l G b_o b_op b_ar b_rf b_ro b_im b_ke b_tp b_nl b_pi b_pa b_ws b_hw b_se b_re b_pt b_ip b_ah b_be b_me b_tr b_ld b_wn H.size u_th u_sa u_fd u_td u_fr u_to u_so u_fa u_bd u_nc z14 u_le z21 u_od u_la u_bk u_ce u_ho u_wy u_bt u_ps u_tg u_sn u_ic u_wd u_id 28 0 u_wo u_va u_su u_st z16 z17 h_u_td h_u_fr h_u_to ⟨by omega, by omega⟩ h_u_nc i_6 i_19 h_u_la h_u_bk h_u_ce h_u_ho h_u_wy h_u_bt h_u_ps h_u_ic h_u_id (by omega)) (cwV 2 hts gV_X12_246 rfl rfl rfl hv_X12_emit ⟨Nat.le_of_ble_eq_true rfl, Nat.le_of_ble_eq_true rfl⟩) (g5_preV hPc hK hDc hN hT hS hFc (ci := 12) (q0 := 0) rfl rfl) rfl rfl hl.1 rfl (lv_room (Nat.le_of_ble_eq_true rfl)) dX12_behindTest_67 ⟨Nat.le_of_ble_eq_true rfl, Nat.le_of_ble_eq_true rfl⟩) hS (fun q _ h => hFc q h) hFc (fun u t H locs ht hvm hw hB hz1 hk1 hS => ?_)
            obtain ⟨hP1, hD1⟩ := hB
            have hP1 := g5_ht ht hP1
            obtain ⟨z25, (i_23 : 0 ≤ z25.toInt ∧ z25.toInt ≤ 400), (i_24 : z25.toInt = z14.toInt + 1), rfl⟩ := hw
            have hJ9 := va_join (wr := [(b_tp, (arI G 400 v_tp)), (b_ws, (arJ G 8 v_ws)), (b_hw, (arJ G 4 v_hw)), (b_pi, (arI G 400 (upd v_pi z15.toNatClampNeg 28))), (b_pa, (arI G 400 (upd v_pa z15.toNatClampNeg z14)))]) hP hD [5, 3, 4] [0, 1, 2, 6, 7] rfl rfl (by decide +kernel) (by decide +kernel) hk1 hFc hP1 hD1
            clear hP hD hPc hDc hFc ht hvm hz1 hk1 hP1 hD1
            obtain ⟨hP, hD⟩ := hJ9
            refine g5_rs [(b_tp, (arI G 400 v_tp)), (b_ws, (arJ G 8 v_ws)), (b_hw, (arJ G 4 v_hw)), (b_pi, (arI G 400 (upd v_pi z15.toNatClampNeg 28))), (b_pa, (arI G 400 (upd v_pa z15.toNatClampNeg z14))), (b_o, (oc12 u_th u_sa b_rf b_ro b_im b_ke u_fd b_tp u_td u_fr u_to u_so u_wo u_fa u_bd u_nc b_nl z25 b_op b_ar u_le b_pi b_pa z21 u_od b_ws b_hw u_la b_se b_re u_bk u_va u_su u_ce u_ho u_wy u_bt u_ps b_pt u_tg u_sn b_ip u_ic b_ah b_be b_me u_wd b_tr b_ld u_st b_wn u_id)), (b_op, (arI G 400 (upd z16 z14.toNatClampNeg 28))), (b_ar, (arI G 400 (upd z17 z14.toNatClampNeg 0)))] hP hD ?_
            clear hP hD
            intro hP hD
            refine W.eq (g2 := F0 m 70 ls []) rfl ?_
            refine lv_aload_n hx hb dX12_behindTest_70 rfl (lv_at hl 1 rfl) ?_
            obtain ⟨hPc, hDc, hFc⟩ := g5_sub3 (wc := [(b_o, (oc12 u_th u_sa b_rf b_ro b_im b_ke u_fd b_tp u_td u_fr u_to u_so u_wo u_fa u_bd u_nc b_nl z25 b_op b_ar u_le b_pi b_pa z21 u_od b_ws b_hw u_la b_se b_re u_bk u_va u_su u_ce u_ho u_wy u_bt u_ps b_pt u_tg u_sn b_ip u_ic b_ah b_be b_me u_wd b_tr b_ld u_st b_wn u_id)), (b_tp, (arI G 400 v_tp))]) hP hD hS hA [5, 0] (by decide +kernel) rfl
            refine va_callv (va_runV (As := []) (rest := []) ⟨hx, hb, hml, hown, hts⟩ (n_nextX l G b_o b_tp b_rf b_ro b_im b_ke b_nl b_op b_ar b_pi b_pa b_ws b_hw b_se b_re b_pt b_ip b_ah b_be b_me b_tr b_ld b_wn H.size u_th u_sa u_fd u_td u_fr u_to u_so u_fa u_bd u_nc z25 u_le z21 u_od u_la u_bk u_ce u_ho u_wy u_bt u_ps u_tg u_sn u_ic u_wd u_id u_wo u_va u_su u_st v_tp h_u_td h_u_fr h_u_to ⟨by omega, by omega⟩ h_u_nc i_23 i_19 h_u_la h_u_bk h_u_ce h_u_ho h_u_wy h_u_bt h_u_ps h_u_ic h_u_id (by omega)) (cwV 0 hts gV_X12_208 rfl rfl rfl hv_X12_next ⟨Nat.le_of_ble_eq_true rfl, Nat.le_of_ble_eq_true rfl⟩) (g5_preV hPc hK hDc hN hT hS hFc (ci := 12) (q0 := 0) rfl rfl) rfl rfl hl.1 rfl (lv_room (Nat.le_of_ble_eq_true rfl)) dX12_behindTest_71 ⟨Nat.le_of_ble_eq_true rfl, Nat.le_of_ble_eq_true rfl⟩) hS (fun q _ h => hFc q h) hFc (fun u t H locs ht hvm hw hB hz1 hk1 hS => ?_)
            obtain ⟨hP1, hD1⟩ := hB
            have hP1 := g5_ht ht hP1
            obtain ⟨z31, z32, z33, z34, (i_26 : 0 ≤ z31.toInt ∧ z31.toInt ≤ 400), (i_27 : 0 ≤ z32.toInt ∧ z32.toInt ≤ 400), (i_28 : u_to.toInt ≤ z31.toInt ∧ z31.toInt ≤ z32.toInt ∧ z32.toInt ≤ u_td.toInt), (i_29 : TKs z33.toInt z31.toInt z32.toInt), (i_30 : TOKA v_tp u_td.toInt.toNat (skT v_tp u_td.toInt.toNat u_to.toInt.toNat) z31 z32 z33 z34), rfl⟩ := hw
            have hJ9 := va_join (wr := [(b_ws, (arJ G 8 v_ws)), (b_hw, (arJ G 4 v_hw)), (b_pi, (arI G 400 (upd v_pi z15.toNatClampNeg 28))), (b_pa, (arI G 400 (upd v_pa z15.toNatClampNeg z14))), (b_op, (arI G 400 (upd z16 z14.toNatClampNeg 28))), (b_ar, (arI G 400 (upd z17 z14.toNatClampNeg 0)))]) hP hD [5, 0] [1, 2, 3, 4, 6, 7] rfl rfl (by decide +kernel) (by decide +kernel) hk1 hFc hP1 hD1
            clear hP hD hPc hDc hFc ht hvm hz1 hk1 hP1 hD1
            obtain ⟨hP, hD⟩ := hJ9
            refine g5_rs [(b_ws, (arJ G 8 v_ws)), (b_hw, (arJ G 4 v_hw)), (b_pi, (arI G 400 (upd v_pi z15.toNatClampNeg 28))), (b_pa, (arI G 400 (upd v_pa z15.toNatClampNeg z14))), (b_op, (arI G 400 (upd z16 z14.toNatClampNeg 28))), (b_ar, (arI G 400 (upd z17 z14.toNatClampNeg 0))), (b_o, (oc12 u_th u_sa b_rf b_ro b_im b_ke u_fd b_tp u_td z31 z32 z33 z34 u_fa u_bd u_nc b_nl z25 b_op b_ar u_le b_pi b_pa z21 u_od b_ws b_hw u_la b_se b_re u_bk u_va u_su u_ce u_ho u_wy u_bt u_ps b_pt u_tg u_sn b_ip u_ic b_ah b_be b_me u_wd b_tr b_ld u_st b_wn u_id)), (b_tp, (arI G 400 v_tp))] hP hD ?_
            clear hP hD
            intro hP hD
            refine lv_iconst (v := 0) hx hb dX12_behindTest_74 (by decide +kernel) ?_
            exact W.iret (v := 0) hx hb hr (fun t ht hW => ⟨⟨0, [(b_o, (oc12 u_th u_sa b_rf b_ro b_im b_ke u_fd b_tp u_td z31 z32 z33 z34 u_fa u_bd u_nc b_nl z25 b_op b_ar u_le b_pi b_pa z21 u_od b_ws b_hw u_la b_se b_re u_bk u_va u_su u_ce u_ho u_wy u_bt u_ps b_pt u_tg u_sn b_ip u_ic b_ah b_be b_me u_wd b_tr b_ld u_st b_wn u_id)), (b_tp, (arI G 400 v_tp)), (b_op, (arI G 400 (upd z16 z14.toNatClampNeg 28))), (b_ar, (arI G 400 (upd z17 z14.toNatClampNeg 0))), (b_pi, (arI G 400 (upd v_pi z15.toNatClampNeg 28))), (b_pa, (arI G 400 (upd v_pa z15.toNatClampNeg z14))), (b_ws, (arJ G 8 v_ws)), (b_hw, (arJ G 4 v_hw))], rfl, Or.inr (⟨0, z31, z32, z33, z34, z25, z21, u_od, (upd z16 z14.toNatClampNeg 28), (upd z17 z14.toNatClampNeg 0), (upd v_pi z15.toNatClampNeg 28), (upd v_pa z15.toNatClampNeg z14), i_26, i_27, i_23, i_19, ⟨by have zc_o_r : (0 : Int32).toInt = 0 := (by decide +kernel); omega, by have zc_o_r : (0 : Int32).toInt = 0 := (by decide +kernel); omega⟩, by omega, i_29, xj_pushJ i_8 (by omega) (by omega) (by omega) (Or.inl (by decide +kernel)), tj_0 (hj_pushJ i_8 i_9 (by omega) (by omega) (Or.inl (by decide +kernel)) (no31_le (e_j.2.1 (Or.inr rfl)) (by omega))) (by decide +kernel) (no31_push (no31_le (e_j.2.1 (Or.inr rfl)) (by omega)) (by omega) (by omega) (by decide +kernel)), by have w9 := (twt_0 (by decide +kernel) : twt (0 : Int32).toInt = 0); omega, rq_t (rq_jmp hRC hFD (Or.inl ⟨((tw_and e_tp hTK).mpr i_1), rfl, rfl⟩) (stl_c i_10 (by decide +kernel)) (toka_nx hTK i_30) (by omega) (by omega) (by omega) (by omega)) (by decide +kernel), rfl, rfl⟩), by rw [ht]; exact hP.sub [6, 7, 4, 5, 2, 3, 0, 1] rfl, hD.sub [6, 7, 4, 5, 2, 3, 0, 1] (by decide +kernel) rfl⟩, hS.F ht⟩) hS.2.2 dX12_behindTest_75
    ·
      exact absurd c_3 (by decide +kernel)
  ·
    have hJ9 := va_join (wr := [(b_tp, (arI G 400 v_tp)), (b_op, (arI G 400 v_op)), (b_ar, (arI G 400 v_ar)), (b_pi, (arI G 400 v_pi)), (b_pa, (arI G 400 v_pa)), (b_ws, (arJ G 8 v_ws)), (b_hw, (arJ G 4 v_hw))]) hP hD [0] [1, 2, 3, 4, 5, 6, 7] rfl rfl (by decide +kernel) (by decide +kernel) hk1 hFc hP1 hD1
    clear hP hD hPc hDc hFc ht hvm hz1 hk1 hP1 hD1
    obtain ⟨hP, hD⟩ := hJ9
    refine g5_rs [(b_tp, (arI G 400 v_tp)), (b_op, (arI G 400 v_op)), (b_ar, (arI G 400 v_ar)), (b_pi, (arI G 400 v_pi)), (b_pa, (arI G 400 v_pa)), (b_ws, (arJ G 8 v_ws)), (b_hw, (arJ G 4 v_hw)), (b_o, (oc12 u_th u_sa b_rf b_ro b_im b_ke u_fd b_tp u_td u_fr u_to u_so u_wo u_fa u_bd u_nc b_nl u_co b_op b_ar u_le b_pi b_pa u_pd u_od b_ws b_hw u_la b_se b_re u_bk u_va u_su u_ce u_ho u_wy u_bt u_ps b_pt u_tg u_sn b_ip u_ic b_ah b_be b_me u_wd b_tr b_ld u_st b_wn u_id))] hP hD ?_
    clear hP hD
    intro hP hD
    refine lv_istore_n (lv' := [(1, .int 0), (0, .ref b_o)]) hx hb dX12_behindTest_7 rfl hl (by decide +kernel) rfl ?_
    clear hl
    intro ls hl
    refine lv_iload_n hx hb dX12_behindTest_8 rfl (lv_at hl 0 rfl) ?_
    refine lv_if_ne (tgt := 22) hx hb dX12_behindTest_9 (by decide +kernel) (fun c_35 => ?_) (fun c_35 => ?_)
    ·
      exact absurd c_35 (by decide +kernel)
    ·
      refine lv_aload_n hx hb dX12_behindTest_12 rfl (lv_at hl 1 rfl) ?_
      refine lv_ldc2 (v := 498) hx hb hown (hts _ kl_X12_300) dX12_behindTest_13 ?_
      obtain ⟨hPc, hDc, hFc⟩ := g5_sub3 (wc := [(b_o, (oc12 u_th u_sa b_rf b_ro b_im b_ke u_fd b_tp u_td u_fr u_to u_so u_wo u_fa u_bd u_nc b_nl u_co b_op b_ar u_le b_pi b_pa u_pd u_od b_ws b_hw u_la b_se b_re u_bk u_va u_su u_ce u_ho u_wy u_bt u_ps b_pt u_tg u_sn b_ip u_ic b_ah b_be b_me u_wd b_tr b_ld u_st b_wn u_id))]) hP hD hS hA [7] (by decide +kernel) rfl
      refine va_calli (va_runV (As := [.long 498]) (rest := []) ⟨hx, hb, hml, hown, hts⟩ (n_isWordX498 l G b_o b_rf b_ro b_im b_ke b_tp b_nl b_op b_ar b_pi b_pa b_ws b_hw b_se b_re b_pt b_ip b_ah b_be b_me b_tr b_ld b_wn H.size u_th u_sa u_fd u_td u_fr u_to u_so u_fa u_bd u_nc u_co u_le u_pd u_od u_la u_bk u_ce u_ho u_wy u_bt u_ps u_tg u_sn u_ic u_wd u_id u_wo u_va u_su u_st h_u_td h_u_fr h_u_to ⟨by omega, by omega⟩ h_u_nc h_u_co h_u_pd h_u_la h_u_bk h_u_ce h_u_ho h_u_wy h_u_bt h_u_ps h_u_ic h_u_id) (cwV 1 hts gV_X12_254 rfl rfl rfl hv_X12_isWord ⟨Nat.le_of_ble_eq_true rfl, Nat.le_of_ble_eq_true rfl⟩) (g5_preV hPc hK hDc hN hT hS hFc (ci := 12) (q0 := 0) rfl rfl) rfl rfl hl.1 rfl (lv_room (Nat.le_of_ble_eq_true rfl)) dX12_behindTest_16 ⟨Nat.le_of_ble_eq_true rfl, Nat.le_of_ble_eq_true rfl⟩) hS (fun q _ h => hFc q h) hFc (fun r u t H locs ht hvm hw hB hz1 hk1 hS => ?_)
      obtain ⟨hP1, hD1⟩ := hB
      have hP1 := g5_ht ht hP1
      rcases hw with ⟨(i_36 : u_so.toInt = 1 ∧ u_wo.toInt = 498), rfl, rfl⟩ | ⟨(i_37 : ¬ (u_so.toInt = 1 ∧ u_wo.toInt = 498)), rfl, rfl⟩
      ·
        have hJ9 := va_join (wr := [(b_tp, (arI G 400 v_tp)), (b_op, (arI G 400 v_op)), (b_ar, (arI G 400 v_ar)), (b_pi, (arI G 400 v_pi)), (b_pa, (arI G 400 v_pa)), (b_ws, (arJ G 8 v_ws)), (b_hw, (arJ G 4 v_hw))]) hP hD [7] [0, 1, 2, 3, 4, 5, 6] rfl rfl (by decide +kernel) (by decide +kernel) hk1 hFc hP1 hD1
        clear hP hD hPc hDc hFc ht hvm hz1 hk1 hP1 hD1
        obtain ⟨hP, hD⟩ := hJ9
        refine g5_rs [(b_tp, (arI G 400 v_tp)), (b_op, (arI G 400 v_op)), (b_ar, (arI G 400 v_ar)), (b_pi, (arI G 400 v_pi)), (b_pa, (arI G 400 v_pa)), (b_ws, (arJ G 8 v_ws)), (b_hw, (arJ G 4 v_hw)), (b_o, (oc12 u_th u_sa b_rf b_ro b_im b_ke u_fd b_tp u_td u_fr u_to u_so u_wo u_fa u_bd u_nc b_nl u_co b_op b_ar u_le b_pi b_pa u_pd u_od b_ws b_hw u_la b_se b_re u_bk u_va u_su u_ce u_ho u_wy u_bt u_ps b_pt u_tg u_sn b_ip u_ic b_ah b_be b_me u_wd b_tr b_ld u_st b_wn u_id))] hP hD ?_
        clear hP hD
        intro hP hD
        refine lv_if_eq (tgt := 76) hx hb dX12_behindTest_19 (by decide +kernel) (fun c_38 => ?_) (fun c_38 => ?_)
        ·
          exact absurd c_38 (by decide +kernel)
        ·
          have hlt9 : u_fr.toInt < u_to.toInt := tks_lt e_s (by omega)
          have hE_39 : HJ v_op v_ar v_pi v_pa g_a.toInt u_co.toInt u_pd.toInt 1 := tj_d1 e_j (by decide +kernel)
          refine lv_aload_n hx hb dX12_behindTest_22 rfl (lv_at hl 1 rfl) ?_
          refine lv_iload_n hx hb dX12_behindTest_23 rfl (lv_at hl 0 rfl) ?_
          refine lv_if_eq (tgt := 31) hx hb dX12_behindTest_24 (by decide +kernel) (fun c_40 => ?_) (fun c_40 => ?_)
          ·
            refine lv_iconst (v := 1) hx hb dX12_behindTest_31 (by decide +kernel) ?_
            obtain ⟨hPc, hDc, hFc⟩ := g5_sub3 (wc := [(b_o, (oc12 u_th u_sa b_rf b_ro b_im b_ke u_fd b_tp u_td u_fr u_to u_so u_wo u_fa u_bd u_nc b_nl u_co b_op b_ar u_le b_pi b_pa u_pd u_od b_ws b_hw u_la b_se b_re u_bk u_va u_su u_ce u_ho u_wy u_bt u_ps b_pt u_tg u_sn b_ip u_ic b_ah b_be b_me u_wd b_tr b_ld u_st b_wn u_id)), (b_op, (arI G 400 v_op)), (b_ar, (arI G 400 v_ar)), (b_pi, (arI G 400 v_pi)), (b_pa, (arI G 400 v_pa))]) hP hD hS hA [7, 1, 2, 3, 4] (by decide +kernel) rfl
            refine va_callv (va_runV (As := [.int 1]) (rest := []) ⟨hx, hb, hml, hown, hts⟩ (n_settleX l G b_o b_op b_ar b_pi b_pa b_rf b_ro b_im b_ke b_tp b_nl b_ws b_hw b_se b_re b_pt b_ip b_ah b_be b_me b_tr b_ld b_wn H.size u_th u_sa u_fd u_td u_fr u_to u_so u_fa u_bd u_nc u_co u_le u_pd u_od u_la u_bk u_ce u_ho u_wy u_bt u_ps u_tg u_sn u_ic u_wd u_id 1 g_a u_fr u_wo u_va u_su u_st v_op v_ar v_pi v_pa g_op g_ar h_u_td h_u_fr h_u_to ⟨by omega, by omega⟩ h_u_nc h_u_co h_u_pd h_u_la h_u_bk h_u_ce h_u_ho h_u_wy h_u_bt h_u_ps h_u_ic h_u_id ⟨by decide, by decide⟩ (by omega) (e_x) (hE_39)) (cwV 1 hts gV_X12_288 rfl rfl rfl hv_X12_settle ⟨Nat.le_of_ble_eq_true rfl, Nat.le_of_ble_eq_true rfl⟩) (g5_preV hPc hK hDc hN hT hS hFc (ci := 12) (q0 := 0) rfl rfl) rfl rfl hl.1 rfl (lv_room (Nat.le_of_ble_eq_true rfl)) dX12_behindTest_32 ⟨Nat.le_of_ble_eq_true rfl, Nat.le_of_ble_eq_true rfl⟩) hS (fun q _ h => hFc q h) hFc (fun u t H locs ht hvm hw hB hz1 hk1 hS => ?_)
            obtain ⟨hP1, hD1⟩ := hB
            have hP1 := g5_ht ht hP1
            obtain ⟨z49, z50, z51, z52, (i_41 : 0 ≤ z49.toInt ∧ z49.toInt ≤ 400), (i_42 : 0 ≤ z50.toInt ∧ z50.toInt ≤ 400), (i_43 : XJ g_op g_ar z51 z52 v_pi v_pa g_a.toInt z49.toInt z50.toInt u_fr.toInt), (i_44 : HJ z51 z52 v_pi v_pa g_a.toInt z49.toInt z50.toInt 1), (i_45 : stl (1 : Int32).toInt (plL v_pi v_pa u_pd.toInt.toNat) (v_op, v_ar, u_co.toInt.toNat) = (plL v_pi v_pa z50.toInt.toNat, (z51, z52, z49.toInt.toNat))), (i_46 : S1 v_pi u_pd.toInt z50.toInt), (i_47 : S2 v_pi z50.toInt (1 : Int32).toInt), (i_48 : z50.toInt ≤ u_pd.toInt), rfl⟩ := hw
            have hJ9 := va_join (wr := [(b_tp, (arI G 400 v_tp)), (b_ws, (arJ G 8 v_ws)), (b_hw, (arJ G 4 v_hw))]) hP hD [7, 1, 2, 3, 4] [0, 5, 6] rfl rfl (by decide +kernel) (by decide +kernel) hk1 hFc hP1 hD1
            clear hP hD hPc hDc hFc ht hvm hz1 hk1 hP1 hD1
            obtain ⟨hP, hD⟩ := hJ9
            refine g5_rs [(b_tp, (arI G 400 v_tp)), (b_ws, (arJ G 8 v_ws)), (b_hw, (arJ G 4 v_hw)), (b_o, (oc12 u_th u_sa b_rf b_ro b_im b_ke u_fd b_tp u_td u_fr u_to u_so u_wo u_fa u_bd u_nc b_nl z49 b_op b_ar u_le b_pi b_pa z50 u_od b_ws b_hw u_la b_se b_re u_bk u_va u_su u_ce u_ho u_wy u_bt u_ps b_pt u_tg u_sn b_ip u_ic b_ah b_be b_me u_wd b_tr b_ld u_st b_wn u_id)), (b_op, (arI G 400 z51)), (b_ar, (arI G 400 z52)), (b_pi, (arI G 400 v_pi)), (b_pa, (arI G 400 v_pa))] hP hD ?_
            clear hP hD
            intro hP hD
            have hmf8 := xj_mf i_43
            refine lv_aload_n hx hb dX12_behindTest_35 rfl (lv_at hl 1 rfl) ?_
            refine lv_iload_n hx hb dX12_behindTest_36 rfl (lv_at hl 0 rfl) ?_
            refine W.eq (g2 := F0 m 37 ls [.int 0, .ref b_o]) rfl ?_
            refine lv_if_eq (tgt := 45) hx hb dX12_behindTest_37 (by decide +kernel) (fun c_53 => ?_) (fun c_53 => ?_)
            ·
              refine lv_bipush (v := 29) hx hb dX12_behindTest_45 (by decide +kernel) ?_
              refine lv_aload_n hx hb dX12_behindTest_47 rfl (lv_at hl 1 rfl) ?_
              refine va_get (D := G.1) (ci := 12) (v := .int z49) (C := RX12) (T := TX12) (N := 52) hx hb hts inG_X12 hown hK hP 3 rfl rfl 17 (by decide +kernel) (hts _ fl_X12_237) (fun _ h9 => h9) rfl dX12_behindTest_48 ?_
              obtain ⟨hPc, hDc, hFc⟩ := g5_sub3 (wc := [(b_o, (oc12 u_th u_sa b_rf b_ro b_im b_ke u_fd b_tp u_td u_fr u_to u_so u_wo u_fa u_bd u_nc b_nl z49 b_op b_ar u_le b_pi b_pa z50 u_od b_ws b_hw u_la b_se b_re u_bk u_va u_su u_ce u_ho u_wy u_bt u_ps b_pt u_tg u_sn b_ip u_ic b_ah b_be b_me u_wd b_tr b_ld u_st b_wn u_id)), (b_pi, (arI G 400 v_pi)), (b_pa, (arI G 400 v_pa))]) hP hD hS hA [3, 6, 7] (by decide +kernel) rfl
              refine va_callv (va_runV (As := [.int 29, .int z49]) (rest := []) ⟨hx, hb, hml, hown, hts⟩ (n_push l G b_o b_pi b_pa b_rf b_ro b_im b_ke b_tp b_nl b_op b_ar b_ws b_hw b_se b_re b_pt b_ip b_ah b_be b_me b_tr b_ld b_wn H.size u_th u_sa u_fd u_td u_fr u_to u_so u_fa u_bd u_nc z49 u_le z50 u_od u_la u_bk u_ce u_ho u_wy u_bt u_ps u_tg u_sn u_ic u_wd u_id 29 z49 u_wo u_va u_su u_st v_pi v_pa h_u_td h_u_fr h_u_to ⟨by omega, by omega⟩ h_u_nc i_41 i_42 h_u_la h_u_bk h_u_ce h_u_ho h_u_wy h_u_bt h_u_ps h_u_ic h_u_id (by omega)) (cwV 2 hts gV_X12_261 rfl rfl rfl hv_X12_push ⟨Nat.le_of_ble_eq_true rfl, Nat.le_of_ble_eq_true rfl⟩) (g5_preV hPc hK hDc hN hT hS hFc (ci := 12) (q0 := 0) rfl rfl) rfl rfl hl.1 rfl (lv_room (Nat.le_of_ble_eq_true rfl)) dX12_behindTest_51 ⟨Nat.le_of_ble_eq_true rfl, Nat.le_of_ble_eq_true rfl⟩) hS (fun q _ h => hFc q h) hFc (fun u t H locs ht hvm hw hB hz1 hk1 hS => ?_)
              obtain ⟨hP1, hD1⟩ := hB
              have hP1 := g5_ht ht hP1
              obtain ⟨z56, (i_54 : 0 ≤ z56.toInt ∧ z56.toInt ≤ 400), (i_55 : z56.toInt = z50.toInt + 1), rfl⟩ := hw
              have hJ9 := va_join (wr := [(b_tp, (arI G 400 v_tp)), (b_ws, (arJ G 8 v_ws)), (b_hw, (arJ G 4 v_hw)), (b_op, (arI G 400 z51)), (b_ar, (arI G 400 z52))]) hP hD [3, 6, 7] [0, 1, 2, 4, 5] rfl rfl (by decide +kernel) (by decide +kernel) hk1 hFc hP1 hD1
              clear hP hD hPc hDc hFc ht hvm hz1 hk1 hP1 hD1
              obtain ⟨hP, hD⟩ := hJ9
              refine g5_rs [(b_tp, (arI G 400 v_tp)), (b_ws, (arJ G 8 v_ws)), (b_hw, (arJ G 4 v_hw)), (b_op, (arI G 400 z51)), (b_ar, (arI G 400 z52)), (b_o, (oc12 u_th u_sa b_rf b_ro b_im b_ke u_fd b_tp u_td u_fr u_to u_so u_wo u_fa u_bd u_nc b_nl z49 b_op b_ar u_le b_pi b_pa z56 u_od b_ws b_hw u_la b_se b_re u_bk u_va u_su u_ce u_ho u_wy u_bt u_ps b_pt u_tg u_sn b_ip u_ic b_ah b_be b_me u_wd b_tr b_ld u_st b_wn u_id)), (b_pi, (arI G 400 (upd v_pi z50.toNatClampNeg 29))), (b_pa, (arI G 400 (upd v_pa z50.toNatClampNeg z49)))] hP hD ?_
              clear hP hD
              intro hP hD
              refine W.eq (g2 := F0 m 54 ls []) rfl ?_
              refine lv_aload_n hx hb dX12_behindTest_54 rfl (lv_at hl 1 rfl) ?_
              refine lv_iload_n hx hb dX12_behindTest_55 rfl (lv_at hl 0 rfl) ?_
              refine lv_if_eq (tgt := 64) hx hb dX12_behindTest_56 (by decide +kernel) (fun c_57 => ?_) (fun c_57 => ?_)
              ·
                refine lv_bipush (v := 29) hx hb dX12_behindTest_64 (by decide +kernel) ?_
                refine lv_iconst (v := 0) hx hb dX12_behindTest_66 (by decide +kernel) ?_
                obtain ⟨hPc, hDc, hFc⟩ := g5_sub3 (wc := [(b_o, (oc12 u_th u_sa b_rf b_ro b_im b_ke u_fd b_tp u_td u_fr u_to u_so u_wo u_fa u_bd u_nc b_nl z49 b_op b_ar u_le b_pi b_pa z56 u_od b_ws b_hw u_la b_se b_re u_bk u_va u_su u_ce u_ho u_wy u_bt u_ps b_pt u_tg u_sn b_ip u_ic b_ah b_be b_me u_wd b_tr b_ld u_st b_wn u_id)), (b_op, (arI G 400 z51)), (b_ar, (arI G 400 z52))]) hP hD hS hA [5, 3, 4] (by decide +kernel) rfl
                refine va_callv (va_runV (As := [.int 29, .int 0]) (rest := []) ⟨hx, hb, hml, hown, hts⟩ (n_emit l G b_o b_op b_ar b_rf b_ro b_im b_ke b_tp b_nl b_pi b_pa b_ws b_hw b_se b_re b_pt b_ip b_ah b_be b_me b_tr b_ld b_wn H.size u_th u_sa u_fd u_td u_fr u_to u_so u_fa u_bd u_nc z49 u_le z56 u_od u_la u_bk u_ce u_ho u_wy u_bt u_ps u_tg u_sn u_ic u_wd u_id 29 0 u_wo u_va u_su u_st z51 z52 h_u_td h_u_fr h_u_to ⟨by omega, by omega⟩ h_u_nc i_41 i_54 h_u_la h_u_bk h_u_ce h_u_ho h_u_wy h_u_bt h_u_ps h_u_ic h_u_id (by omega)) (cwV 2 hts gV_X12_246 rfl rfl rfl hv_X12_emit ⟨Nat.le_of_ble_eq_true rfl, Nat.le_of_ble_eq_true rfl⟩) (g5_preV hPc hK hDc hN hT hS hFc (ci := 12) (q0 := 0) rfl rfl) rfl rfl hl.1 rfl (lv_room (Nat.le_of_ble_eq_true rfl)) dX12_behindTest_67 ⟨Nat.le_of_ble_eq_true rfl, Nat.le_of_ble_eq_true rfl⟩) hS (fun q _ h => hFc q h) hFc (fun u t H locs ht hvm hw hB hz1 hk1 hS => ?_)
                obtain ⟨hP1, hD1⟩ := hB
                have hP1 := g5_ht ht hP1
                obtain ⟨z60, (i_58 : 0 ≤ z60.toInt ∧ z60.toInt ≤ 400), (i_59 : z60.toInt = z49.toInt + 1), rfl⟩ := hw
                have hJ9 := va_join (wr := [(b_tp, (arI G 400 v_tp)), (b_ws, (arJ G 8 v_ws)), (b_hw, (arJ G 4 v_hw)), (b_pi, (arI G 400 (upd v_pi z50.toNatClampNeg 29))), (b_pa, (arI G 400 (upd v_pa z50.toNatClampNeg z49)))]) hP hD [5, 3, 4] [0, 1, 2, 6, 7] rfl rfl (by decide +kernel) (by decide +kernel) hk1 hFc hP1 hD1
                clear hP hD hPc hDc hFc ht hvm hz1 hk1 hP1 hD1
                obtain ⟨hP, hD⟩ := hJ9
                refine g5_rs [(b_tp, (arI G 400 v_tp)), (b_ws, (arJ G 8 v_ws)), (b_hw, (arJ G 4 v_hw)), (b_pi, (arI G 400 (upd v_pi z50.toNatClampNeg 29))), (b_pa, (arI G 400 (upd v_pa z50.toNatClampNeg z49))), (b_o, (oc12 u_th u_sa b_rf b_ro b_im b_ke u_fd b_tp u_td u_fr u_to u_so u_wo u_fa u_bd u_nc b_nl z60 b_op b_ar u_le b_pi b_pa z56 u_od b_ws b_hw u_la b_se b_re u_bk u_va u_su u_ce u_ho u_wy u_bt u_ps b_pt u_tg u_sn b_ip u_ic b_ah b_be b_me u_wd b_tr b_ld u_st b_wn u_id)), (b_op, (arI G 400 (upd z51 z49.toNatClampNeg 29))), (b_ar, (arI G 400 (upd z52 z49.toNatClampNeg 0)))] hP hD ?_
                clear hP hD
                intro hP hD
                refine lv_aload_n hx hb dX12_behindTest_70 rfl (lv_at hl 1 rfl) ?_
                refine W.eq (g2 := F0 m 71 ls [.ref b_o]) rfl ?_
                obtain ⟨hPc, hDc, hFc⟩ := g5_sub3 (wc := [(b_o, (oc12 u_th u_sa b_rf b_ro b_im b_ke u_fd b_tp u_td u_fr u_to u_so u_wo u_fa u_bd u_nc b_nl z60 b_op b_ar u_le b_pi b_pa z56 u_od b_ws b_hw u_la b_se b_re u_bk u_va u_su u_ce u_ho u_wy u_bt u_ps b_pt u_tg u_sn b_ip u_ic b_ah b_be b_me u_wd b_tr b_ld u_st b_wn u_id)), (b_tp, (arI G 400 v_tp))]) hP hD hS hA [5, 0] (by decide +kernel) rfl
                refine va_callv (va_runV (As := []) (rest := []) ⟨hx, hb, hml, hown, hts⟩ (n_nextX l G b_o b_tp b_rf b_ro b_im b_ke b_nl b_op b_ar b_pi b_pa b_ws b_hw b_se b_re b_pt b_ip b_ah b_be b_me b_tr b_ld b_wn H.size u_th u_sa u_fd u_td u_fr u_to u_so u_fa u_bd u_nc z60 u_le z56 u_od u_la u_bk u_ce u_ho u_wy u_bt u_ps u_tg u_sn u_ic u_wd u_id u_wo u_va u_su u_st v_tp h_u_td h_u_fr h_u_to ⟨by omega, by omega⟩ h_u_nc i_58 i_54 h_u_la h_u_bk h_u_ce h_u_ho h_u_wy h_u_bt h_u_ps h_u_ic h_u_id (by omega)) (cwV 0 hts gV_X12_208 rfl rfl rfl hv_X12_next ⟨Nat.le_of_ble_eq_true rfl, Nat.le_of_ble_eq_true rfl⟩) (g5_preV hPc hK hDc hN hT hS hFc (ci := 12) (q0 := 0) rfl rfl) rfl rfl hl.1 rfl (lv_room (Nat.le_of_ble_eq_true rfl)) dX12_behindTest_71 ⟨Nat.le_of_ble_eq_true rfl, Nat.le_of_ble_eq_true rfl⟩) hS (fun q _ h => hFc q h) hFc (fun u t H locs ht hvm hw hB hz1 hk1 hS => ?_)
                obtain ⟨hP1, hD1⟩ := hB
                have hP1 := g5_ht ht hP1
                obtain ⟨z66, z67, z68, z69, (i_61 : 0 ≤ z66.toInt ∧ z66.toInt ≤ 400), (i_62 : 0 ≤ z67.toInt ∧ z67.toInt ≤ 400), (i_63 : u_to.toInt ≤ z66.toInt ∧ z66.toInt ≤ z67.toInt ∧ z67.toInt ≤ u_td.toInt), (i_64 : TKs z68.toInt z66.toInt z67.toInt), (i_65 : TOKA v_tp u_td.toInt.toNat (skT v_tp u_td.toInt.toNat u_to.toInt.toNat) z66 z67 z68 z69), rfl⟩ := hw
                have hJ9 := va_join (wr := [(b_ws, (arJ G 8 v_ws)), (b_hw, (arJ G 4 v_hw)), (b_pi, (arI G 400 (upd v_pi z50.toNatClampNeg 29))), (b_pa, (arI G 400 (upd v_pa z50.toNatClampNeg z49))), (b_op, (arI G 400 (upd z51 z49.toNatClampNeg 29))), (b_ar, (arI G 400 (upd z52 z49.toNatClampNeg 0)))]) hP hD [5, 0] [1, 2, 3, 4, 6, 7] rfl rfl (by decide +kernel) (by decide +kernel) hk1 hFc hP1 hD1
                clear hP hD hPc hDc hFc ht hvm hz1 hk1 hP1 hD1
                obtain ⟨hP, hD⟩ := hJ9
                refine g5_rs [(b_ws, (arJ G 8 v_ws)), (b_hw, (arJ G 4 v_hw)), (b_pi, (arI G 400 (upd v_pi z50.toNatClampNeg 29))), (b_pa, (arI G 400 (upd v_pa z50.toNatClampNeg z49))), (b_op, (arI G 400 (upd z51 z49.toNatClampNeg 29))), (b_ar, (arI G 400 (upd z52 z49.toNatClampNeg 0))), (b_o, (oc12 u_th u_sa b_rf b_ro b_im b_ke u_fd b_tp u_td z66 z67 z68 z69 u_fa u_bd u_nc b_nl z60 b_op b_ar u_le b_pi b_pa z56 u_od b_ws b_hw u_la b_se b_re u_bk u_va u_su u_ce u_ho u_wy u_bt u_ps b_pt u_tg u_sn b_ip u_ic b_ah b_be b_me u_wd b_tr b_ld u_st b_wn u_id)), (b_tp, (arI G 400 v_tp))] hP hD ?_
                clear hP hD
                intro hP hD
                refine lv_iconst (v := 0) hx hb dX12_behindTest_74 (by decide +kernel) ?_
                exact W.iret (v := 0) hx hb hr (fun t ht hW => ⟨⟨0, [(b_o, (oc12 u_th u_sa b_rf b_ro b_im b_ke u_fd b_tp u_td z66 z67 z68 z69 u_fa u_bd u_nc b_nl z60 b_op b_ar u_le b_pi b_pa z56 u_od b_ws b_hw u_la b_se b_re u_bk u_va u_su u_ce u_ho u_wy u_bt u_ps b_pt u_tg u_sn b_ip u_ic b_ah b_be b_me u_wd b_tr b_ld u_st b_wn u_id)), (b_tp, (arI G 400 v_tp)), (b_op, (arI G 400 (upd z51 z49.toNatClampNeg 29))), (b_ar, (arI G 400 (upd z52 z49.toNatClampNeg 0))), (b_pi, (arI G 400 (upd v_pi z50.toNatClampNeg 29))), (b_pa, (arI G 400 (upd v_pa z50.toNatClampNeg z49))), (b_ws, (arJ G 8 v_ws)), (b_hw, (arJ G 4 v_hw))], rfl, Or.inr (⟨0, z66, z67, z68, z69, z60, z56, u_od, (upd z51 z49.toNatClampNeg 29), (upd z52 z49.toNatClampNeg 0), (upd v_pi z50.toNatClampNeg 29), (upd v_pa z50.toNatClampNeg z49), i_61, i_62, i_58, i_54, ⟨by have zc_o_r : (0 : Int32).toInt = 0 := (by decide +kernel); omega, by have zc_o_r : (0 : Int32).toInt = 0 := (by decide +kernel); omega⟩, by omega, i_64, xj_pushJ i_43 (by omega) (by omega) (by omega) (Or.inr (by decide +kernel)), tj_0 (hj_pushJ i_43 i_44 (by omega) (by omega) (Or.inr (by decide +kernel)) (no31_le (e_j.2.1 (Or.inr rfl)) (by omega))) (by decide +kernel) (no31_push (no31_le (e_j.2.1 (Or.inr rfl)) (by omega)) (by omega) (by omega) (by decide +kernel)), by have w9 := (twt_0 (by decide +kernel) : twt (0 : Int32).toInt = 0); omega, rq_t (rq_jmp hRC hFD (Or.inr ⟨((tw_or e_tp hTK).mpr i_36), rfl, rfl⟩) (stl_c i_45 (by decide +kernel)) (toka_nx hTK i_65) (by omega) (by omega) (by omega) (by omega)) (by decide +kernel), rfl, rfl⟩), by rw [ht]; exact hP.sub [6, 7, 4, 5, 2, 3, 0, 1] rfl, hD.sub [6, 7, 4, 5, 2, 3, 0, 1] (by decide +kernel) rfl⟩, hS.F ht⟩) hS.2.2 dX12_behindTest_75
              ·
                exact absurd c_57 (by decide +kernel)
            ·
              exact absurd c_53 (by decide +kernel)
          ·
            exact absurd c_40 (by decide +kernel)
      ·
        have hJ9 := va_join (wr := [(b_tp, (arI G 400 v_tp)), (b_op, (arI G 400 v_op)), (b_ar, (arI G 400 v_ar)), (b_pi, (arI G 400 v_pi)), (b_pa, (arI G 400 v_pa)), (b_ws, (arJ G 8 v_ws)), (b_hw, (arJ G 4 v_hw))]) hP hD [7] [0, 1, 2, 3, 4, 5, 6] rfl rfl (by decide +kernel) (by decide +kernel) hk1 hFc hP1 hD1
        clear hP hD hPc hDc hFc ht hvm hz1 hk1 hP1 hD1
        obtain ⟨hP, hD⟩ := hJ9
        refine g5_rs [(b_tp, (arI G 400 v_tp)), (b_op, (arI G 400 v_op)), (b_ar, (arI G 400 v_ar)), (b_pi, (arI G 400 v_pi)), (b_pa, (arI G 400 v_pa)), (b_ws, (arJ G 8 v_ws)), (b_hw, (arJ G 4 v_hw)), (b_o, (oc12 u_th u_sa b_rf b_ro b_im b_ke u_fd b_tp u_td u_fr u_to u_so u_wo u_fa u_bd u_nc b_nl u_co b_op b_ar u_le b_pi b_pa u_pd u_od b_ws b_hw u_la b_se b_re u_bk u_va u_su u_ce u_ho u_wy u_bt u_ps b_pt u_tg u_sn b_ip u_ic b_ah b_be b_me u_wd b_tr b_ld u_st b_wn u_id))] hP hD ?_
        clear hP hD
        intro hP hD
        refine lv_if_eq (tgt := 76) hx hb dX12_behindTest_19 (by decide +kernel) (fun c_70 => ?_) (fun c_70 => ?_)
        ·
          refine lv_aload_n hx hb dX12_behindTest_76 rfl (lv_at hl 1 rfl) ?_
          obtain ⟨hPc, hDc, hFc⟩ := g5_sub3 (wc := [(b_o, (oc12 u_th u_sa b_rf b_ro b_im b_ke u_fd b_tp u_td u_fr u_to u_so u_wo u_fa u_bd u_nc b_nl u_co b_op b_ar u_le b_pi b_pa u_pd u_od b_ws b_hw u_la b_se b_re u_bk u_va u_su u_ce u_ho u_wy u_bt u_ps b_pt u_tg u_sn b_ip u_ic b_ah b_be b_me u_wd b_tr b_ld u_st b_wn u_id)), (b_pi, (arI G 400 v_pi)), (b_pa, (arI G 400 v_pa))]) hP hD hS hA [7, 3, 4] (by decide +kernel) rfl
          refine va_calli (va_runV (As := []) (rest := []) ⟨hx, hb, hml, hown, hts⟩ (n_innerX l G b_o b_pi b_pa b_rf b_ro b_im b_ke b_tp b_nl b_op b_ar b_ws b_hw b_se b_re b_pt b_ip b_ah b_be b_me b_tr b_ld b_wn H.size u_th u_sa u_fd u_td u_fr u_to u_so u_fa u_bd u_nc u_co u_le u_pd u_od u_la u_bk u_ce u_ho u_wy u_bt u_ps u_tg u_sn u_ic u_wd u_id u_wo u_va u_su u_st v_pi v_pa h_u_td h_u_fr h_u_to ⟨by omega, by omega⟩ h_u_nc h_u_co h_u_pd h_u_la h_u_bk h_u_ce h_u_ho h_u_wy h_u_bt h_u_ps h_u_ic h_u_id) (cwV 0 hts gV_X12_291 rfl rfl rfl hv_X12_inner ⟨Nat.le_of_ble_eq_true rfl, Nat.le_of_ble_eq_true rfl⟩) (g5_preV hPc hK hDc hN hT hS hFc (ci := 12) (q0 := 0) rfl rfl) rfl rfl hl.1 rfl (lv_room (Nat.le_of_ble_eq_true rfl)) dX12_behindTest_77 ⟨Nat.le_of_ble_eq_true rfl, Nat.le_of_ble_eq_true rfl⟩) hS (fun q _ h => hFc q h) hFc (fun r u t H locs ht hvm hw hB hz1 hk1 hS => ?_)
          obtain ⟨hP1, hD1⟩ := hB
          have hP1 := g5_ht ht hP1
          obtain ⟨z73, (i_71 : innP v_pi u_pd.toInt z73.toInt), (i_72 : z73.toInt = inr (plL v_pi v_pa u_pd.toInt.toNat)), y74, rfl⟩ := hw
          have hJ9 := va_join (wr := [(b_tp, (arI G 400 v_tp)), (b_op, (arI G 400 v_op)), (b_ar, (arI G 400 v_ar)), (b_ws, (arJ G 8 v_ws)), (b_hw, (arJ G 4 v_hw))]) hP hD [7, 3, 4] [0, 1, 2, 5, 6] rfl rfl (by decide +kernel) (by decide +kernel) hk1 hFc hP1 hD1
          clear hP hD hPc hDc hFc ht hvm hz1 hk1 hP1 hD1
          obtain ⟨hP, hD⟩ := hJ9
          refine g5_rs [(b_tp, (arI G 400 v_tp)), (b_op, (arI G 400 v_op)), (b_ar, (arI G 400 v_ar)), (b_ws, (arJ G 8 v_ws)), (b_hw, (arJ G 4 v_hw)), (b_o, (oc12 u_th u_sa b_rf b_ro b_im b_ke u_fd b_tp u_td u_fr u_to u_so u_wo u_fa u_bd u_nc b_nl u_co b_op b_ar u_le b_pi b_pa u_pd u_od b_ws b_hw u_la b_se b_re u_bk u_va u_su u_ce u_ho u_wy u_bt u_ps b_pt u_tg u_sn b_ip u_ic b_ah b_be b_me u_wd b_tr b_ld u_st b_wn u_id)), (b_pi, (arI G 400 v_pi)), (b_pa, (arI G 400 v_pa))] hP hD ?_
          clear hP hD
          intro hP hD
          refine g5_ti (v := z73) y74 ?_
          refine lv_iconst (v := (-1)) hx hb dX12_behindTest_80 (by decide +kernel) ?_
          refine lv_icmp_ne (tgt := 86) hx hb dX12_behindTest_81 (by decide +kernel) (fun c_75 => ?_) (fun c_75 => ?_)
          ·
            have n_75 : gNe (z73.toInt) ((-1)) := g5_ne (a := z73.toInt) (b := (-1)) rfl (by decide +kernel) c_75
            refine lv_aload_n hx hb dX12_behindTest_86 rfl (lv_at hl 1 rfl) ?_
            refine lv_aload_n hx hb dX12_behindTest_87 rfl (lv_at hl 1 rfl) ?_
            refine lv_bipush (v := 41) hx hb dX12_behindTest_88 (by decide +kernel) ?_
            obtain ⟨hPc, hDc, hFc⟩ := g5_sub3 (wc := [(b_o, (oc12 u_th u_sa b_rf b_ro b_im b_ke u_fd b_tp u_td u_fr u_to u_so u_wo u_fa u_bd u_nc b_nl u_co b_op b_ar u_le b_pi b_pa u_pd u_od b_ws b_hw u_la b_se b_re u_bk u_va u_su u_ce u_ho u_wy u_bt u_ps b_pt u_tg u_sn b_ip u_ic b_ah b_be b_me u_wd b_tr b_ld u_st b_wn u_id))]) hP hD hS hA [5] (by decide +kernel) rfl
            refine va_calli (va_runV (As := [.int 41]) (rest := [.ref b_o]) ⟨hx, hb, hml, hown, hts⟩ (n_isSignX41 l G b_o b_rf b_ro b_im b_ke b_tp b_nl b_op b_ar b_pi b_pa b_ws b_hw b_se b_re b_pt b_ip b_ah b_be b_me b_tr b_ld b_wn H.size u_th u_sa u_fd u_td u_fr u_to u_so u_fa u_bd u_nc u_co u_le u_pd u_od u_la u_bk u_ce u_ho u_wy u_bt u_ps u_tg u_sn u_ic u_wd u_id u_wo u_va u_su u_st h_u_td h_u_fr h_u_to ⟨by omega, by omega⟩ h_u_nc h_u_co h_u_pd h_u_la h_u_bk h_u_ce h_u_ho h_u_wy h_u_bt h_u_ps h_u_ic h_u_id) (cwV 1 hts gV_X12_267 rfl rfl rfl hv_X12_isSign ⟨Nat.le_of_ble_eq_true rfl, Nat.le_of_ble_eq_true rfl⟩) (g5_preV hPc hK hDc hN hT hS hFc (ci := 12) (q0 := 0) rfl rfl) rfl rfl hl.1 rfl (lv_room (Nat.le_of_ble_eq_true rfl)) dX12_behindTest_90 ⟨Nat.le_of_ble_eq_true rfl, Nat.le_of_ble_eq_true rfl⟩) hS (fun q _ h => hFc q h) hFc (fun r u t H locs ht hvm hw hB hz1 hk1 hS => ?_)
            obtain ⟨hP1, hD1⟩ := hB
            have hP1 := g5_ht ht hP1
            rcases hw with ⟨(i_76 : u_so.toInt = 3 ∧ u_wo.toInt = 41), rfl, rfl⟩ | ⟨(i_77 : ¬ (u_so.toInt = 3 ∧ u_wo.toInt = 41)), rfl, rfl⟩
            ·
              have hJ9 := va_join (wr := [(b_tp, (arI G 400 v_tp)), (b_op, (arI G 400 v_op)), (b_ar, (arI G 400 v_ar)), (b_ws, (arJ G 8 v_ws)), (b_hw, (arJ G 4 v_hw)), (b_pi, (arI G 400 v_pi)), (b_pa, (arI G 400 v_pa))]) hP hD [5] [0, 1, 2, 3, 4, 6, 7] rfl rfl (by decide +kernel) (by decide +kernel) hk1 hFc hP1 hD1
              clear hP hD hPc hDc hFc ht hvm hz1 hk1 hP1 hD1
              obtain ⟨hP, hD⟩ := hJ9
              refine g5_rs [(b_tp, (arI G 400 v_tp)), (b_op, (arI G 400 v_op)), (b_ar, (arI G 400 v_ar)), (b_ws, (arJ G 8 v_ws)), (b_hw, (arJ G 4 v_hw)), (b_pi, (arI G 400 v_pi)), (b_pa, (arI G 400 v_pa)), (b_o, (oc12 u_th u_sa b_rf b_ro b_im b_ke u_fd b_tp u_td u_fr u_to u_so u_wo u_fa u_bd u_nc b_nl u_co b_op b_ar u_le b_pi b_pa u_pd u_od b_ws b_hw u_la b_se b_re u_bk u_va u_su u_ce u_ho u_wy u_bt u_ps b_pt u_tg u_sn b_ip u_ic b_ah b_be b_me u_wd b_tr b_ld u_st b_wn u_id))] hP hD ?_
              clear hP hD
              intro hP hD
              have hlt9 : u_fr.toInt < u_to.toInt := tks_lt e_s (by omega)
              obtain ⟨hPc, hDc, hFc⟩ := g5_sub3 (wc := [(b_o, (oc12 u_th u_sa b_rf b_ro b_im b_ke u_fd b_tp u_td u_fr u_to u_so u_wo u_fa u_bd u_nc b_nl u_co b_op b_ar u_le b_pi b_pa u_pd u_od b_ws b_hw u_la b_se b_re u_bk u_va u_su u_ce u_ho u_wy u_bt u_ps b_pt u_tg u_sn b_ip u_ic b_ah b_be b_me u_wd b_tr b_ld u_st b_wn u_id)), (b_tp, (arI G 400 v_tp))]) hP hD hS hA [7, 0] (by decide +kernel) rfl
              refine va_callv (va_runV (As := [.int 1]) (rest := []) ⟨hx, hb, hml, hown, hts⟩ (n_must1X l G b_o b_tp b_rf b_ro b_im b_ke b_nl b_op b_ar b_pi b_pa b_ws b_hw b_se b_re b_pt b_ip b_ah b_be b_me b_tr b_ld b_wn H.size u_th u_sa u_fd u_td u_fr u_to u_so u_fa u_bd u_nc u_co u_le u_pd u_od u_la u_bk u_ce u_ho u_wy u_bt u_ps u_tg u_sn u_ic u_wd u_id u_wo u_va u_su u_st v_tp h_u_td h_u_fr h_u_to h_u_bd h_u_nc h_u_co h_u_pd h_u_la h_u_bk h_u_ce h_u_ho h_u_wy h_u_bt h_u_ps h_u_ic h_u_id (by omega)) (cwV 1 hts gV_X12_233 rfl rfl rfl hv_X12_must ⟨Nat.le_of_ble_eq_true rfl, Nat.le_of_ble_eq_true rfl⟩) (g5_preV hPc hK hDc hN hT hS hFc (ci := 12) (q0 := 0) rfl rfl) rfl rfl hl.1 rfl (lv_room (Nat.le_of_ble_eq_true rfl)) dX12_behindTest_93 ⟨Nat.le_of_ble_eq_true rfl, Nat.le_of_ble_eq_true rfl⟩) hS (fun q _ h => hFc q h) hFc (fun u t H locs ht hvm hw hB hz1 hk1 hS => ?_)
              obtain ⟨hP1, hD1⟩ := hB
              have hP1 := g5_ht ht hP1
              obtain ⟨z83, z84, z85, z86, (i_78 : 0 ≤ z83.toInt ∧ z83.toInt ≤ 400), (i_79 : 0 ≤ z84.toInt ∧ z84.toInt ≤ 400), (i_80 : u_to.toInt ≤ z83.toInt ∧ z83.toInt ≤ z84.toInt ∧ z84.toInt ≤ u_td.toInt), (i_81 : TKs z85.toInt z83.toInt z84.toInt), (i_82 : TOKA v_tp u_td.toInt.toNat (skT v_tp u_td.toInt.toNat u_to.toInt.toNat) z83 z84 z85 z86), rfl⟩ := hw
              have hJ9 := va_join (wr := [(b_op, (arI G 400 v_op)), (b_ar, (arI G 400 v_ar)), (b_ws, (arJ G 8 v_ws)), (b_hw, (arJ G 4 v_hw)), (b_pi, (arI G 400 v_pi)), (b_pa, (arI G 400 v_pa))]) hP hD [7, 0] [1, 2, 3, 4, 5, 6] rfl rfl (by decide +kernel) (by decide +kernel) hk1 hFc hP1 hD1
              clear hP hD hPc hDc hFc ht hvm hz1 hk1 hP1 hD1
              obtain ⟨hP, hD⟩ := hJ9
              refine g5_rs [(b_op, (arI G 400 v_op)), (b_ar, (arI G 400 v_ar)), (b_ws, (arJ G 8 v_ws)), (b_hw, (arJ G 4 v_hw)), (b_pi, (arI G 400 v_pi)), (b_pa, (arI G 400 v_pa)), (b_o, (oc12 u_th u_sa b_rf b_ro b_im b_ke u_fd b_tp u_td z83 z84 z85 z86 u_fa u_bd u_nc b_nl u_co b_op b_ar u_le b_pi b_pa u_pd u_od b_ws b_hw u_la b_se b_re u_bk u_va u_su u_ce u_ho u_wy u_bt u_ps b_pt u_tg u_sn b_ip u_ic b_ah b_be b_me u_wd b_tr b_ld u_st b_wn u_id)), (b_tp, (arI G 400 v_tp))] hP hD ?_
              clear hP hD
              intro hP hD
              refine lv_aload_n hx hb dX12_behindTest_96 rfl (lv_at hl 1 rfl) ?_
              refine va_get (D := G.1) (ci := 12) (v := .int u_bd) (C := RX12) (T := TX12) (N := 52) hx hb hts inG_X12 hown hK hP 6 rfl rfl 14 (by decide +kernel) (hts _ fl_X12_205) (fun _ h9 => h9) rfl dX12_behindTest_97 ?_
              refine lv_if_ne (tgt := 128) hx hb dX12_behindTest_100 (by decide +kernel) (fun c_87 => ?_) (fun c_87 => ?_)
              ·
                have i_87 : u_bd.toInt ≠ 0 := g5_ne (a := u_bd.toInt) (b := 0) rfl (by decide +kernel) c_87
                omega
              ·
                have i_87 : u_bd.toInt = 0 := g5_neN (a := u_bd.toInt) (b := 0) rfl (by decide +kernel) c_87
                have hE_88 : HJ v_op v_ar v_pi v_pa g_a.toInt u_co.toInt u_pd.toInt 1 := tj_d1 e_j (by decide +kernel)
                refine lv_aload_n hx hb dX12_behindTest_103 rfl (lv_at hl 1 rfl) ?_
                refine lv_iconst (v := 1) hx hb dX12_behindTest_104 (by decide +kernel) ?_
                obtain ⟨hPc, hDc, hFc⟩ := g5_sub3 (wc := [(b_o, (oc12 u_th u_sa b_rf b_ro b_im b_ke u_fd b_tp u_td z83 z84 z85 z86 u_fa u_bd u_nc b_nl u_co b_op b_ar u_le b_pi b_pa u_pd u_od b_ws b_hw u_la b_se b_re u_bk u_va u_su u_ce u_ho u_wy u_bt u_ps b_pt u_tg u_sn b_ip u_ic b_ah b_be b_me u_wd b_tr b_ld u_st b_wn u_id)), (b_op, (arI G 400 v_op)), (b_ar, (arI G 400 v_ar)), (b_pi, (arI G 400 v_pi)), (b_pa, (arI G 400 v_pa))]) hP hD hS hA [6, 0, 1, 4, 5] (by decide +kernel) rfl
                refine va_callv (va_runV (As := [.int 1]) (rest := []) ⟨hx, hb, hml, hown, hts⟩ (n_settleX l G b_o b_op b_ar b_pi b_pa b_rf b_ro b_im b_ke b_tp b_nl b_ws b_hw b_se b_re b_pt b_ip b_ah b_be b_me b_tr b_ld b_wn H.size u_th u_sa u_fd u_td z83 z84 z85 u_fa u_bd u_nc u_co u_le u_pd u_od u_la u_bk u_ce u_ho u_wy u_bt u_ps u_tg u_sn u_ic u_wd u_id 1 g_a u_fr z86 u_va u_su u_st v_op v_ar v_pi v_pa g_op g_ar h_u_td i_78 i_79 ⟨by omega, by omega⟩ h_u_nc h_u_co h_u_pd h_u_la h_u_bk h_u_ce h_u_ho h_u_wy h_u_bt h_u_ps h_u_ic h_u_id ⟨by decide, by decide⟩ (by omega) (e_x) (hE_88)) (cwV 1 hts gV_X12_288 rfl rfl rfl hv_X12_settle ⟨Nat.le_of_ble_eq_true rfl, Nat.le_of_ble_eq_true rfl⟩) (g5_preV hPc hK hDc hN hT hS hFc (ci := 12) (q0 := 0) rfl rfl) rfl rfl hl.1 rfl (lv_room (Nat.le_of_ble_eq_true rfl)) dX12_behindTest_105 ⟨Nat.le_of_ble_eq_true rfl, Nat.le_of_ble_eq_true rfl⟩) hS (fun q _ h => hFc q h) hFc (fun u t H locs ht hvm hw hB hz1 hk1 hS => ?_)
                obtain ⟨hP1, hD1⟩ := hB
                have hP1 := g5_ht ht hP1
                obtain ⟨z97, z98, z99, z100, (i_89 : 0 ≤ z97.toInt ∧ z97.toInt ≤ 400), (i_90 : 0 ≤ z98.toInt ∧ z98.toInt ≤ 400), (i_91 : XJ g_op g_ar z99 z100 v_pi v_pa g_a.toInt z97.toInt z98.toInt u_fr.toInt), (i_92 : HJ z99 z100 v_pi v_pa g_a.toInt z97.toInt z98.toInt 1), (i_93 : stl (1 : Int32).toInt (plL v_pi v_pa u_pd.toInt.toNat) (v_op, v_ar, u_co.toInt.toNat) = (plL v_pi v_pa z98.toInt.toNat, (z99, z100, z97.toInt.toNat))), (i_94 : S1 v_pi u_pd.toInt z98.toInt), (i_95 : S2 v_pi z98.toInt (1 : Int32).toInt), (i_96 : z98.toInt ≤ u_pd.toInt), rfl⟩ := hw
                have hJ9 := va_join (wr := [(b_ws, (arJ G 8 v_ws)), (b_hw, (arJ G 4 v_hw)), (b_tp, (arI G 400 v_tp))]) hP hD [6, 0, 1, 4, 5] [2, 3, 7] rfl rfl (by decide +kernel) (by decide +kernel) hk1 hFc hP1 hD1
                clear hP hD hPc hDc hFc ht hvm hz1 hk1 hP1 hD1
                obtain ⟨hP, hD⟩ := hJ9
                refine g5_rs [(b_ws, (arJ G 8 v_ws)), (b_hw, (arJ G 4 v_hw)), (b_tp, (arI G 400 v_tp)), (b_o, (oc12 u_th u_sa b_rf b_ro b_im b_ke u_fd b_tp u_td z83 z84 z85 z86 u_fa u_bd u_nc b_nl z97 b_op b_ar u_le b_pi b_pa z98 u_od b_ws b_hw u_la b_se b_re u_bk u_va u_su u_ce u_ho u_wy u_bt u_ps b_pt u_tg u_sn b_ip u_ic b_ah b_be b_me u_wd b_tr b_ld u_st b_wn u_id)), (b_op, (arI G 400 z99)), (b_ar, (arI G 400 z100)), (b_pi, (arI G 400 v_pi)), (b_pa, (arI G 400 v_pa))] hP hD ?_
                clear hP hD
                intro hP hD
                have htp := top_rd (q' := (z98 - 1)) i_71 n_75 (by decide +kernel) i_94 i_95
                have htp1 := htp.1
                refine lv_aload_n hx hb dX12_behindTest_108 rfl (lv_at hl 1 rfl) ?_
                refine W.eq (g2 := F0 m 109 ls [.ref b_o]) rfl ?_
                refine lv_dup hx hb dX12_behindTest_109 rfl ?_
                refine va_get (D := G.1) (ci := 12) (v := .int z98) (C := RX12) (T := TX12) (N := 52) hx hb hts inG_X12 hown hK hP 3 rfl rfl 23 (by decide +kernel) (hts _ fl_X12_240) (fun _ h9 => h9) rfl dX12_behindTest_110 ?_
                refine lv_iconst (v := 1) hx hb dX12_behindTest_113 (by decide +kernel) ?_
                refine lv_isub hx hb dX12_behindTest_114 ?_
                have t_101 : (z98 - 1).toInt = z98.toInt - 1 := g5_isub (a := z98.toInt) (b := 1) (by rfl) (by decide +kernel) (by omega) (by omega)
                refine va_put (D := G.1) (ci := 12) (v := .int (z98 - 1)) (ty := .int) (C := RX12) (T := TX12) (N := 52) hx hb hts inG_X12 tyX12 tyX12_ok nmX12 hown hK hP hD hS 3 rfl rfl 23 (by decide +kernel) (hts _ fl_X12_240) (fun _ h9 => h9) rfl (by decide +kernel) rfl rfl (Nat.le_of_ble_eq_true rfl) dX12_behindTest_115 ?_
                clear hP hD hS
                intro H locs hP hD hS
                refine g5_rs [(b_ws, (arJ G 8 v_ws)), (b_hw, (arJ G 4 v_hw)), (b_tp, (arI G 400 v_tp)), (b_o, (oc12 u_th u_sa b_rf b_ro b_im b_ke u_fd b_tp u_td z83 z84 z85 z86 u_fa u_bd u_nc b_nl z97 b_op b_ar u_le b_pi b_pa (z98 - 1) u_od b_ws b_hw u_la b_se b_re u_bk u_va u_su u_ce u_ho u_wy u_bt u_ps b_pt u_tg u_sn b_ip u_ic b_ah b_be b_me u_wd b_tr b_ld u_st b_wn u_id)), (b_op, (arI G 400 z99)), (b_ar, (arI G 400 z100)), (b_pi, (arI G 400 v_pi)), (b_pa, (arI G 400 v_pa))] hP hD ?_
                clear hP hD
                intro hP hD
                refine W.eq (g2 := F0 m 118 ls []) rfl ?_
                refine lv_aload_n hx hb dX12_behindTest_118 rfl (lv_at hl 1 rfl) ?_
                refine lv_dup hx hb dX12_behindTest_119 rfl ?_
                refine va_get (D := G.1) (ci := 12) (v := .int u_od) (C := RX12) (T := TX12) (N := 52) hx hb hts inG_X12 hown hK hP 3 rfl rfl 24 (by decide +kernel) (hts _ fl_X12_258) (fun _ h9 => h9) rfl dX12_behindTest_120 ?_
                refine lv_iconst (v := 1) hx hb dX12_behindTest_123 (by decide +kernel) ?_
                refine lv_isub hx hb dX12_behindTest_124 ?_
                have t_102 : (u_od - 1).toInt = u_od.toInt - 1 := g5_isub (a := u_od.toInt) (b := 1) (by rfl) (by decide +kernel) (by omega) (by omega)
                refine W.eq (g2 := F0 m 125 ls [.int (u_od - 1), .ref b_o]) rfl ?_
                refine va_put (D := G.1) (ci := 12) (v := .int (u_od - 1)) (ty := .int) (C := RX12) (T := TX12) (N := 52) hx hb hts inG_X12 tyX12 tyX12_ok nmX12 hown hK hP hD hS 3 rfl rfl 24 (by decide +kernel) (hts _ fl_X12_258) (fun _ h9 => h9) rfl (by decide +kernel) rfl rfl (Nat.le_of_ble_eq_true rfl) dX12_behindTest_125 ?_
                clear hP hD hS
                intro H locs hP hD hS
                refine g5_rs [(b_ws, (arJ G 8 v_ws)), (b_hw, (arJ G 4 v_hw)), (b_tp, (arI G 400 v_tp)), (b_o, (oc12 u_th u_sa b_rf b_ro b_im b_ke u_fd b_tp u_td z83 z84 z85 z86 u_fa u_bd u_nc b_nl z97 b_op b_ar u_le b_pi b_pa (z98 - 1) (u_od - 1) b_ws b_hw u_la b_se b_re u_bk u_va u_su u_ce u_ho u_wy u_bt u_ps b_pt u_tg u_sn b_ip u_ic b_ah b_be b_me u_wd b_tr b_ld u_st b_wn u_id)), (b_op, (arI G 400 z99)), (b_ar, (arI G 400 z100)), (b_pi, (arI G 400 v_pi)), (b_pa, (arI G 400 v_pa))] hP hD ?_
                clear hP hD
                intro hP hD
                refine lv_iconst (v := 2) hx hb dX12_behindTest_128 (by decide +kernel) ?_
                exact W.iret (v := 2) hx hb hr (fun t ht hW => ⟨⟨2, [(b_o, (oc12 u_th u_sa b_rf b_ro b_im b_ke u_fd b_tp u_td z83 z84 z85 z86 u_fa u_bd u_nc b_nl z97 b_op b_ar u_le b_pi b_pa (z98 - 1) (u_od - 1) b_ws b_hw u_la b_se b_re u_bk u_va u_su u_ce u_ho u_wy u_bt u_ps b_pt u_tg u_sn b_ip u_ic b_ah b_be b_me u_wd b_tr b_ld u_st b_wn u_id)), (b_tp, (arI G 400 v_tp)), (b_op, (arI G 400 z99)), (b_ar, (arI G 400 z100)), (b_pi, (arI G 400 v_pi)), (b_pa, (arI G 400 v_pa)), (b_ws, (arJ G 8 v_ws)), (b_hw, (arJ G 4 v_hw))], rfl, Or.inr (⟨2, z83, z84, z85, z86, z97, (z98 - 1), (u_od - 1), z99, z100, v_pi, v_pa, i_78, i_79, i_89, ⟨by omega, by omega⟩, ⟨by have zc_o_r : (2 : Int32).toInt = 2 := (by decide +kernel); omega, by have zc_o_r : (2 : Int32).toInt = 2 := (by decide +kernel); omega⟩, by omega, i_81, xj_up (xj_popB i_91 htp1 (by omega)) (by omega), tj_2 (hj_popB i_92 htp1 (by omega) (htp.2 (by omega))) (by decide +kernel) (no31_le (e_j.2.1 (Or.inr rfl)) (by omega)), by have w9 := (twt_2 (by decide +kernel) : twt (2 : Int32).toInt = 1); omega, rq_t (rq_rd hRC hFD ((tk_sign e_tp hTK (by decide +kernel) (by decide +kernel) (c := 41)).mpr i_76) (by rw [← i_72]; first | omega | (unfold gNe at *; omega)) (stl_c i_93 (by decide +kernel)) (toka_nx hTK i_82) (by omega) (by omega) (by omega) (by omega) (by omega)) (by decide +kernel), rfl, rfl⟩), by rw [ht]; exact hP.sub [3, 2, 4, 5, 6, 7, 0, 1] rfl, hD.sub [3, 2, 4, 5, 6, 7, 0, 1] (by decide +kernel) rfl⟩, hS.F ht⟩) hS.2.2 dX12_behindTest_129
            ·
              have hJ9 := va_join (wr := [(b_tp, (arI G 400 v_tp)), (b_op, (arI G 400 v_op)), (b_ar, (arI G 400 v_ar)), (b_ws, (arJ G 8 v_ws)), (b_hw, (arJ G 4 v_hw)), (b_pi, (arI G 400 v_pi)), (b_pa, (arI G 400 v_pa))]) hP hD [5] [0, 1, 2, 3, 4, 6, 7] rfl rfl (by decide +kernel) (by decide +kernel) hk1 hFc hP1 hD1
              clear hP hD hPc hDc hFc ht hvm hz1 hk1 hP1 hD1
              obtain ⟨hP, hD⟩ := hJ9
              refine g5_rs [(b_tp, (arI G 400 v_tp)), (b_op, (arI G 400 v_op)), (b_ar, (arI G 400 v_ar)), (b_ws, (arJ G 8 v_ws)), (b_hw, (arJ G 4 v_hw)), (b_pi, (arI G 400 v_pi)), (b_pa, (arI G 400 v_pa)), (b_o, (oc12 u_th u_sa b_rf b_ro b_im b_ke u_fd b_tp u_td u_fr u_to u_so u_wo u_fa u_bd u_nc b_nl u_co b_op b_ar u_le b_pi b_pa u_pd u_od b_ws b_hw u_la b_se b_re u_bk u_va u_su u_ce u_ho u_wy u_bt u_ps b_pt u_tg u_sn b_ip u_ic b_ah b_be b_me u_wd b_tr b_ld u_st b_wn u_id))] hP hD ?_
              clear hP hD
              intro hP hD
              obtain ⟨hPc, hDc, hFc⟩ := g5_sub3 (wc := [(b_o, (oc12 u_th u_sa b_rf b_ro b_im b_ke u_fd b_tp u_td u_fr u_to u_so u_wo u_fa u_bd u_nc b_nl u_co b_op b_ar u_le b_pi b_pa u_pd u_od b_ws b_hw u_la b_se b_re u_bk u_va u_su u_ce u_ho u_wy u_bt u_ps b_pt u_tg u_sn b_ip u_ic b_ah b_be b_me u_wd b_tr b_ld u_st b_wn u_id)), (b_tp, (arI G 400 v_tp))]) hP hD hS hA [7, 0] (by decide +kernel) rfl
              refine va_callv (va_runV (As := [.int 0]) (rest := []) ⟨hx, hb, hml, hown, hts⟩ (n_must0 l G b_o b_tp b_rf b_ro b_im b_ke b_nl b_op b_ar b_pi b_pa b_ws b_hw b_se b_re b_pt b_ip b_ah b_be b_me b_tr b_ld b_wn H.size u_th u_sa u_fd u_td u_fr u_to u_so u_fa u_bd u_nc u_co u_le u_pd u_od u_la u_bk u_ce u_ho u_wy u_bt u_ps u_tg u_sn u_ic u_wd u_id u_wo u_va u_su u_st v_tp h_u_td h_u_fr h_u_to h_u_bd h_u_nc h_u_co h_u_pd h_u_la h_u_bk h_u_ce h_u_ho h_u_wy h_u_bt h_u_ps h_u_ic h_u_id) (cwV 1 hts gV_X12_233 rfl rfl rfl hv_X12_must ⟨Nat.le_of_ble_eq_true rfl, Nat.le_of_ble_eq_true rfl⟩) (g5_preV hPc hK hDc hN hT hS hFc (ci := 12) (q0 := 0) rfl rfl) rfl rfl hl.1 rfl (lv_room (Nat.le_of_ble_eq_true rfl)) dX12_behindTest_93 ⟨Nat.le_of_ble_eq_true rfl, Nat.le_of_ble_eq_true rfl⟩) hS (fun q _ h => hFc q h) hFc (fun u t H locs ht hvm hw hB hz1 hk1 hS => ?_)
              obtain ⟨hP1, hD1⟩ := hB
              have hP1 := g5_ht ht hP1
              obtain rfl := hw
              have hJ9 := va_join (wr := [(b_op, (arI G 400 v_op)), (b_ar, (arI G 400 v_ar)), (b_ws, (arJ G 8 v_ws)), (b_hw, (arJ G 4 v_hw)), (b_pi, (arI G 400 v_pi)), (b_pa, (arI G 400 v_pa))]) hP hD [7, 0] [1, 2, 3, 4, 5, 6] rfl rfl (by decide +kernel) (by decide +kernel) hk1 hFc hP1 hD1
              clear hP hD hPc hDc hFc ht hvm hz1 hk1 hP1 hD1
              obtain ⟨hP, hD⟩ := hJ9
              refine g5_rs [(b_op, (arI G 400 v_op)), (b_ar, (arI G 400 v_ar)), (b_ws, (arJ G 8 v_ws)), (b_hw, (arJ G 4 v_hw)), (b_pi, (arI G 400 v_pi)), (b_pa, (arI G 400 v_pa)), (b_o, (oc12 u_th u_sa b_rf b_ro b_im b_ke u_fd b_tp u_td u_fr u_to u_so u_wo u_fr 1 u_nc b_nl u_co b_op b_ar u_le b_pi b_pa u_pd u_od b_ws b_hw u_la b_se b_re u_bk u_va u_su u_ce u_ho u_wy u_bt u_ps b_pt u_tg u_sn b_ip u_ic b_ah b_be b_me u_wd b_tr b_ld u_st b_wn u_id)), (b_tp, (arI G 400 v_tp))] hP hD ?_
              clear hP hD
              intro hP hD
              refine lv_aload_n hx hb dX12_behindTest_96 rfl (lv_at hl 1 rfl) ?_
              refine va_get (D := G.1) (ci := 12) (v := .int 1) (C := RX12) (T := TX12) (N := 52) hx hb hts inG_X12 hown hK hP 6 rfl rfl 14 (by decide +kernel) (hts _ fl_X12_205) (fun _ h9 => h9) rfl dX12_behindTest_97 ?_
              refine lv_if_ne (tgt := 128) hx hb dX12_behindTest_100 (by decide +kernel) (fun c_103 => ?_) (fun c_103 => ?_)
              ·
                refine lv_iconst (v := 2) hx hb dX12_behindTest_128 (by decide +kernel) ?_
                exact W.iret (v := 2) hx hb hr (fun t ht hW => ⟨⟨2, [(b_o, (oc12 u_th u_sa b_rf b_ro b_im b_ke u_fd b_tp u_td u_fr u_to u_so u_wo u_fr 1 u_nc b_nl u_co b_op b_ar u_le b_pi b_pa u_pd u_od b_ws b_hw u_la b_se b_re u_bk u_va u_su u_ce u_ho u_wy u_bt u_ps b_pt u_tg u_sn b_ip u_ic b_ah b_be b_me u_wd b_tr b_ld u_st b_wn u_id)), (b_tp, (arI G 400 v_tp)), (b_op, (arI G 400 v_op)), (b_ar, (arI G 400 v_ar)), (b_pi, (arI G 400 v_pi)), (b_pa, (arI G 400 v_pa)), (b_ws, (arJ G 8 v_ws)), (b_hw, (arJ G 4 v_hw))], rfl, Or.inl (⟨2, ⟨by have zc_o_r : (2 : Int32).toInt = 2 := (by decide +kernel); omega, by have zc_o_r : (2 : Int32).toInt = 2 := (by decide +kernel); omega⟩, rq_t (rq_rdB hRC hFD (fun q8 => i_2 ((tw_and e_tp hTK).mp q8)) (fun q8 => i_37 ((tw_or e_tp hTK).mp q8)) (fun q8 => i_77 ((tk_sign e_tp hTK (by decide +kernel) (by decide +kernel) (c := 41)).mp q8)) (by rw [← i_72]; first | omega | (unfold gNe at *; omega))) (by decide +kernel), rfl, rfl⟩), by rw [ht]; exact hP.sub [6, 7, 0, 1, 4, 5, 2, 3] rfl, hD.sub [6, 7, 0, 1, 4, 5, 2, 3] (by decide +kernel) rfl⟩, hS.F ht⟩) hS.2.2 dX12_behindTest_129
              ·
                exact absurd c_103 (by decide +kernel)
          ·
            have i_75 : z73.toInt = (-1) := g5_neN (a := z73.toInt) (b := (-1)) rfl (by decide +kernel) c_75
            refine lv_iconst (v := 4) hx hb dX12_behindTest_84 (by decide +kernel) ?_
            exact W.iret (v := 4) hx hb hr (fun t ht hW => ⟨⟨4, [(b_o, (oc12 u_th u_sa b_rf b_ro b_im b_ke u_fd b_tp u_td u_fr u_to u_so u_wo u_fa u_bd u_nc b_nl u_co b_op b_ar u_le b_pi b_pa u_pd u_od b_ws b_hw u_la b_se b_re u_bk u_va u_su u_ce u_ho u_wy u_bt u_ps b_pt u_tg u_sn b_ip u_ic b_ah b_be b_me u_wd b_tr b_ld u_st b_wn u_id)), (b_tp, (arI G 400 v_tp)), (b_op, (arI G 400 v_op)), (b_ar, (arI G 400 v_ar)), (b_pi, (arI G 400 v_pi)), (b_pa, (arI G 400 v_pa)), (b_ws, (arJ G 8 v_ws)), (b_hw, (arJ G 4 v_hw))], rfl, Or.inr (⟨4, u_fr, u_to, u_so, u_wo, u_co, u_pd, u_od, v_op, v_ar, v_pi, v_pa, h_u_fr, h_u_to, h_u_co, h_u_pd, ⟨by have zc_o_r : (4 : Int32).toInt = 4 := (by decide +kernel); omega, by have zc_o_r : (4 : Int32).toInt = 4 := (by decide +kernel); omega⟩, by omega, e_s, e_x, tj_4 (tj_d1 e_j (by decide +kernel)) (by decide +kernel) (inn_no30 i_71 (by omega)), by have w9 := (twt_0 (by decide +kernel) : twt (4 : Int32).toInt = 0); omega, rq_t (rq_tover hRC hFD (fun q8 => i_2 ((tw_and e_tp hTK).mp q8)) (fun q8 => i_37 ((tw_or e_tp hTK).mp q8)) (by rw [← i_72]; first | omega | (unfold gNe at *; omega))) (by decide +kernel), rfl, rfl⟩), by rw [ht]; exact hP.sub [5, 0, 1, 2, 6, 7, 3, 4] rfl, hD.sub [5, 0, 1, 2, 6, 7, 3, 4] (by decide +kernel) rfl⟩, hS.F ht⟩) hS.2.2 dX12_behindTest_85
        ·
          exact absurd c_70 (by decide +kernel)
set_option maxHeartbeats 4000000 in
set_option maxRecDepth 100000 in
theorem n_readExpressionX (l : Launch) (G : g5_G) (b_o b_tp b_op b_ar b_pi b_pa b_ws b_hw b_rf b_ro b_im b_ke b_nl b_se b_re b_pt b_ip b_ah b_be b_me b_tr b_ld b_wn : Nat) (sz : Nat) (u_th : Int32) (u_sa : Int32) (u_fd : Int32) (u_td : Int32) (u_fr : Int32) (u_to : Int32) (u_so : Int32) (u_fa : Int32) (u_bd : Int32) (u_nc : Int32) (u_co : Int32) (u_le : Int32) (u_pd : Int32) (u_od : Int32) (u_la : Int32) (u_bk : Int32) (u_ce : Int32) (u_ho : Int32) (u_wy : Int32) (u_bt : Int32) (u_ps : Int32) (u_tg : Int32) (u_sn : Int32) (u_ic : Int32) (u_wd : Int32) (u_id : Int32) (p_1 : Int32) (u_wo : Int64) (u_va : Int64) (u_su : Int64) (u_st : Int64) (v_tp : Nat → Int32) (v_op : Nat → Int32) (v_ar : Nat → Int32) (v_pi : Nat → Int32) (v_pa : Nat → Int32) (v_ws : Nat → Int64) (v_hw : Nat → Int64) (g_k : Nat) (h_u_td : 0 ≤ u_td.toInt ∧ u_td.toInt ≤ 400) (h_u_fr : 0 ≤ u_fr.toInt ∧ u_fr.toInt ≤ 400) (h_u_to : 0 ≤ u_to.toInt ∧ u_to.toInt ≤ 400) (h_u_bd : 0 ≤ u_bd.toInt ∧ u_bd.toInt ≤ 0) (h_u_nc : 0 ≤ u_nc.toInt ∧ u_nc.toInt ≤ 12) (h_u_co : 0 ≤ u_co.toInt ∧ u_co.toInt ≤ 400) (h_u_pd : 0 ≤ u_pd.toInt ∧ u_pd.toInt ≤ 400) (h_u_la : 0 ≤ u_la.toInt ∧ u_la.toInt ≤ 4840) (h_u_bk : 0 ≤ u_bk.toInt ∧ u_bk.toInt ≤ 1) (h_u_ce : 0 ≤ u_ce.toInt ∧ u_ce.toInt ≤ 63) (h_u_ho : 0 ≤ u_ho.toInt ∧ u_ho.toInt ≤ 23) (h_u_wy : 0 ≤ u_wy.toInt ∧ u_wy.toInt ≤ 3) (h_u_bt : 0 ≤ u_bt.toInt ∧ u_bt.toInt ≤ 1000000) (h_u_ps : 0 ≤ u_ps.toInt ∧ u_ps.toInt ≤ 200) (h_u_ic : 0 ≤ u_ic.toInt ∧ u_ic.toInt ≤ 1) (h_u_id : 0 ≤ u_id.toInt ∧ u_id.toInt ≤ 1) (h_p_1 : 0 ≤ p_1.toInt ∧ p_1.toInt ≤ 1) (e_t : u_fr.toInt ≤ u_to.toInt ∧ u_to.toInt ≤ u_td.toInt) (e_s : TKs u_so.toInt u_fr.toInt u_to.toInt) (e_c : u_co.toInt ≤ u_fr.toInt) (e_tp : TPI v_tp) (e_ws : WSI v_ws v_hw) (e_tk : TOKA v_tp u_td.toInt.toNat (pT v_tp u_td.toInt.toNat g_k) u_fr u_to u_so u_wo) (e_le : 0 ≤ u_le.toInt ∧ u_le.toInt ≤ 50) (e_kn : g_k ≤ u_td.toInt.toNat) (e_k1 : p_1.toInt = 1 → 1 ≤ g_k) (e_kc : u_co.toInt.toNat ≤ g_k) : Met l yX12_readExpression (wsG yX12_readExpression cX12_readExpression 3 none) ({ frames := 6, cells := 0, slots := 0, locals := 126 }) (va_Pc [.ref b_o, .int p_1] (g5_P G [(b_o, (oc12 u_th u_sa b_rf b_ro b_im b_ke u_fd b_tp u_td u_fr u_to u_so u_wo u_fa u_bd u_nc b_nl u_co b_op b_ar u_le b_pi b_pa u_pd u_od b_ws b_hw u_la b_se b_re u_bk u_va u_su u_ce u_ho u_wy u_bt u_ps b_pt u_tg u_sn b_ip u_ic b_ah b_be b_me u_wd b_tr b_ld u_st b_wn u_id)), (b_tp, (arI G 400 v_tp)), (b_op, (arI G 400 v_op)), (b_ar, (arI G 400 v_ar)), (b_pi, (arI G 400 v_pi)), (b_pa, (arI G 400 v_pa)), (b_ws, (arJ G 8 v_ws)), (b_hw, (arJ G 4 v_hw))] sz)) (va_Qv (fun (u : va_W) => (∃ (o_fr : Int32) (o_to : Int32) (o_so : Int32) (o_wo : Int64) (o_fa : Int32) (o_bd : Int32) (o_co : Int32) (o_le : Int32) (o_pd : Int32) (o_od : Int32) (o_op : Nat → Int32) (o_ar : Nat → Int32) (o_pi : Nat → Int32) (o_pa : Nat → Int32), (0 ≤ o_fr.toInt ∧ o_fr.toInt ≤ 400) ∧ (0 ≤ o_to.toInt ∧ o_to.toInt ≤ 400) ∧ (0 ≤ o_bd.toInt ∧ o_bd.toInt ≤ 1) ∧ (0 ≤ o_co.toInt ∧ o_co.toInt ≤ 400) ∧ (0 ≤ o_pd.toInt ∧ o_pd.toInt ≤ 400) ∧ (u_fr.toInt ≤ o_fr.toInt ∧ o_fr.toInt ≤ o_to.toInt ∧ o_to.toInt ≤ u_td.toInt) ∧ (TKs o_so.toInt o_fr.toInt o_to.toInt) ∧ (KP v_op v_ar o_op o_ar u_co.toInt) ∧ (u_co.toInt ≤ o_co.toInt ∧ o_co.toInt ≤ o_fr.toInt) ∧ (o_bd.toInt = 0 → cdN o_op o_ar u_co.toInt o_co.toInt) ∧ (EXR v_tp u_td p_1 g_k v_op v_ar u_co u_le o_bd o_fr o_to o_so o_wo o_op o_ar o_co o_le) ∧ (o_bd.toInt = 1 → o_fa = o_fr) ∧ (o_bd.toInt = 0 → o_fa = u_fa) ∧ (0 ≤ o_le.toInt ∧ o_le.toInt ≤ 50) ∧ (u = [(b_o, (oc12 u_th u_sa b_rf b_ro b_im b_ke u_fd b_tp u_td o_fr o_to o_so o_wo o_fa o_bd u_nc b_nl o_co b_op b_ar o_le b_pi b_pa o_pd o_od b_ws b_hw u_la b_se b_re u_bk u_va u_su u_ce u_ho u_wy u_bt u_ps b_pt u_tg u_sn b_ip u_ic b_ah b_be b_me u_wd b_tr b_ld u_st b_wn u_id)), (b_tp, (arI G 400 v_tp)), (b_op, (arI G 400 o_op)), (b_ar, (arI G 400 o_ar)), (b_pi, (arI G 400 o_pi)), (b_pa, (arI G 400 o_pa)), (b_ws, (arJ G 8 v_ws)), (b_hw, (arJ G 4 v_hw))]))) (g5_B G (va_A [(b_o, (oc12 u_th u_sa b_rf b_ro b_im b_ke u_fd b_tp u_td u_fr u_to u_so u_wo u_fa u_bd u_nc b_nl u_co b_op b_ar u_le b_pi b_pa u_pd u_od b_ws b_hw u_la b_se b_re u_bk u_va u_su u_ce u_ho u_wy u_bt u_ps b_pt u_tg u_sn b_ip u_ic b_ah b_be b_me u_wd b_tr b_ld u_st b_wn u_id)), (b_tp, (arI G 400 v_tp)), (b_op, (arI G 400 v_op)), (b_ar, (arI G 400 v_ar)), (b_pi, (arI G 400 v_pi)), (b_pa, (arI G 400 v_pa)), (b_ws, (arJ G 8 v_ws)), (b_hw, (arJ G 4 v_hw))] sz)) (va_A [(b_o, (oc12 u_th u_sa b_rf b_ro b_im b_ke u_fd b_tp u_td u_fr u_to u_so u_wo u_fa u_bd u_nc b_nl u_co b_op b_ar u_le b_pi b_pa u_pd u_od b_ws b_hw u_la b_se b_re u_bk u_va u_su u_ce u_ho u_wy u_bt u_ps b_pt u_tg u_sn b_ip u_ic b_ah b_be b_me u_wd b_tr b_ld u_st b_wn u_id)), (b_tp, (arI G 400 v_tp)), (b_op, (arI G 400 v_op)), (b_ar, (arI G 400 v_ar)), (b_pi, (arI G 400 v_pi)), (b_pa, (arI G 400 v_pa)), (b_ws, (arJ G 8 v_ws)), (b_hw, (arJ G 4 v_hw))] sz)) 0 0 (va_A [(b_o, (oc12 u_th u_sa b_rf b_ro b_im b_ke u_fd b_tp u_td u_fr u_to u_so u_wo u_fa u_bd u_nc b_nl u_co b_op b_ar u_le b_pi b_pa u_pd u_od b_ws b_hw u_la b_se b_re u_bk u_va u_su u_ce u_ho u_wy u_bt u_ps b_pt u_tg u_sn b_ip u_ic b_ah b_be b_me u_wd b_tr b_ld u_st b_wn u_id)), (b_tp, (arI G 400 v_tp)), (b_op, (arI G 400 v_op)), (b_ar, (arI G 400 v_ar)), (b_pi, (arI G 400 v_pi)), (b_pa, (arI G 400 v_pa)), (b_ws, (arJ G 8 v_ws)), (b_hw, (arJ G 4 v_hw))] sz) := by
  refine Met.ofW (cc := cX12_readExpression) (maxL := 3) (ret := none) (by decide +kernel) rfl ?_
  intro p e s m args below meth c s₁ B hml hv
  obtain ⟨rfl, hsz, hP, hK, hD0, hN, hT⟩ := hv
  have hx := B.exec
  have hb := B.bytes
  have hr := B.returns
  have hts : ∀ w ∈ tblG, w.before _ s = true := fun w h => atoms_spec (ws := (wsG yX12_readExpression cX12_readExpression 3 none)) B.pre w (List.mem_cons_of_mem _ h)
  have hown : s.vm.findClass RX12 = some m.cls := findClass_of_methodNamed B.named
  have hlocks := B.notSynchronized
  subst hsz
  have hD := hD0.self (sz := s.heap.size)
  generalize hAe : va_A [(b_o, (oc12 u_th u_sa b_rf b_ro b_im b_ke u_fd b_tp u_td u_fr u_to u_so u_wo u_fa u_bd u_nc b_nl u_co b_op b_ar u_le b_pi b_pa u_pd u_od b_ws b_hw u_la b_se b_re u_bk u_va u_su u_ce u_ho u_wy u_bt u_ps b_pt u_tg u_sn b_ip u_ic b_ah b_be b_me u_wd b_tr b_ld u_st b_wn u_id)), (b_tp, (arI G 400 v_tp)), (b_op, (arI G 400 v_op)), (b_ar, (arI G 400 v_ar)), (b_pi, (arI G 400 v_pi)), (b_pa, (arI G 400 v_pa)), (b_ws, (arJ G 8 v_ws)), (b_hw, (arJ G 4 v_hw))] s.heap.size = A at hD hT ⊢
  have hA : ∀ q : Nat, s.heap.size ≤ q → A q := fun q h => by rw [← hAe]; exact Or.inr h
  have hS : va_S A s.heap s.heap [] := va_S.rf
  replace hP : va_P G.1 vwCl [(b_o, (oc12 u_th u_sa b_rf b_ro b_im b_ke u_fd b_tp u_td u_fr u_to u_so u_wo u_fa u_bd u_nc b_nl u_co b_op b_ar u_le b_pi b_pa u_pd u_od b_ws b_hw u_la b_se b_re u_bk u_va u_su u_ce u_ho u_wy u_bt u_ps b_pt u_tg u_sn b_ip u_ic b_ah b_be b_me u_wd b_tr b_ld u_st b_wn u_id)), (b_tp, (arI G 400 v_tp)), (b_op, (arI G 400 v_op)), (b_ar, (arI G 400 v_ar)), (b_pi, (arI G 400 v_pi)), (b_pa, (arI G 400 v_pa)), (b_ws, (arJ G 8 v_ws)), (b_hw, (arJ G 4 v_hw))] s.heap := hP
  have hl := lv_entry ([.ref b_o, .int p_1]) (n := 3) (Nat.le_of_ble_eq_true rfl)
  rw [lg_entry_eq]
  generalize (lg_sl ([.ref b_o, .int p_1]) ++ List.replicate (3 - (lg_sl ([.ref b_o, .int p_1])).length) Slot.unset).toArray = ls at hl ⊢
  replace hl : lv_has ls 3 [(0, .ref b_o), (1, .int p_1)] := hl
  refine lv_aload_n hx hb dX12_readExpression_0 rfl (lv_at hl 0 rfl) ?_
  refine lv_iconst (v := 0) hx hb dX12_readExpression_1 (by decide +kernel) ?_
  refine va_put (D := G.1) (ci := 12) (v := .int 0) (ty := .int) (C := RX12) (T := TX12) (N := 52) hx hb hts inG_X12 tyX12 tyX12_ok nmX12 hown hK hP hD hS 0 rfl rfl 23 (by decide +kernel) (hts _ fl_X12_240) (fun _ h9 => h9) rfl (by decide +kernel) rfl rfl (Nat.le_of_ble_eq_true rfl) dX12_readExpression_2 ?_
  clear hP hD hS
  intro H locs hP hD hS
  refine g5_rs [(b_o, (oc12 u_th u_sa b_rf b_ro b_im b_ke u_fd b_tp u_td u_fr u_to u_so u_wo u_fa u_bd u_nc b_nl u_co b_op b_ar u_le b_pi b_pa 0 u_od b_ws b_hw u_la b_se b_re u_bk u_va u_su u_ce u_ho u_wy u_bt u_ps b_pt u_tg u_sn b_ip u_ic b_ah b_be b_me u_wd b_tr b_ld u_st b_wn u_id)), (b_tp, (arI G 400 v_tp)), (b_op, (arI G 400 v_op)), (b_ar, (arI G 400 v_ar)), (b_pi, (arI G 400 v_pi)), (b_pa, (arI G 400 v_pa)), (b_ws, (arJ G 8 v_ws)), (b_hw, (arJ G 4 v_hw))] hP hD ?_
  clear hP hD
  intro hP hD
  refine lv_aload_n hx hb dX12_readExpression_5 rfl (lv_at hl 0 rfl) ?_
  refine W.eq (g2 := F0 m 6 ls [.ref b_o]) rfl ?_
  refine lv_iconst (v := 0) hx hb dX12_readExpression_6 (by decide +kernel) ?_
  refine va_put (D := G.1) (ci := 12) (v := .int 0) (ty := .int) (C := RX12) (T := TX12) (N := 52) hx hb hts inG_X12 tyX12 tyX12_ok nmX12 hown hK hP hD hS 0 rfl rfl 24 (by decide +kernel) (hts _ fl_X12_258) (fun _ h9 => h9) rfl (by decide +kernel) rfl rfl (Nat.le_of_ble_eq_true rfl) dX12_readExpression_7 ?_
  clear hP hD hS
  intro H locs hP hD hS
  refine g5_rs [(b_o, (oc12 u_th u_sa b_rf b_ro b_im b_ke u_fd b_tp u_td u_fr u_to u_so u_wo u_fa u_bd u_nc b_nl u_co b_op b_ar u_le b_pi b_pa 0 0 b_ws b_hw u_la b_se b_re u_bk u_va u_su u_ce u_ho u_wy u_bt u_ps b_pt u_tg u_sn b_ip u_ic b_ah b_be b_me u_wd b_tr b_ld u_st b_wn u_id)), (b_tp, (arI G 400 v_tp)), (b_op, (arI G 400 v_op)), (b_ar, (arI G 400 v_ar)), (b_pi, (arI G 400 v_pi)), (b_pa, (arI G 400 v_pa)), (b_ws, (arJ G 8 v_ws)), (b_hw, (arJ G 4 v_hw))] hP hD ?_
  clear hP hD
  intro hP hD
  refine lv_iload_n hx hb dX12_readExpression_10 rfl (lv_at hl 1 rfl) ?_
  refine lv_if_eq (tgt := 18) hx hb dX12_readExpression_11 (by decide +kernel) (fun c_1 => ?_) (fun c_1 => ?_)
  ·
    have i_1 : p_1.toInt = 0 := g5_eq (a := p_1.toInt) (b := 0) rfl (by decide +kernel) c_1
    refine lv_iconst (v := 1) hx hb dX12_readExpression_18 (by decide +kernel) ?_
    refine lv_istore_n (lv' := [(2, .int 1), (0, .ref b_o), (1, .int p_1)]) hx hb dX12_readExpression_19 rfl hl (by decide +kernel) rfl ?_
    clear hl
    intro ls hl
    refine g5_loop (α := (Int32) × (Int32) × (Int32) × (Int32) × (Int64) × (Int32) × (Int32) × (Int32) × (Int32) × (Int32) × (Int32) × (Nat → Int32) × (Nat → Int32) × (Nat → Int32) × (Nat → Int32)) (fun (q : (Int32) × (Int32) × (Int32) × (Int32) × (Int64) × (Int32) × (Int32) × (Int32) × (Int32) × (Int32) × (Int32) × (Nat → Int32) × (Nat → Int32) × (Nat → Int32) × (Nat → Int32)) (ls : Array Slot) (H : Heap) (locs : List Loc) => match q with | (k20_2, k20_fr, k20_to, k20_so, k20_wo, k20_fa, k20_bd, k20_co, k20_le, k20_pd, k20_od, k20_op, k20_ar, k20_pi, k20_pa) => lv_has ls 3 [(2, .int k20_2), (0, .ref b_o), (1, .int p_1)] ∧ va_P G.1 vwCl [(b_o, (oc12 u_th u_sa b_rf b_ro b_im b_ke u_fd b_tp u_td k20_fr k20_to k20_so k20_wo k20_fa k20_bd u_nc b_nl k20_co b_op b_ar k20_le b_pi b_pa k20_pd k20_od b_ws b_hw u_la b_se b_re u_bk u_va u_su u_ce u_ho u_wy u_bt u_ps b_pt u_tg u_sn b_ip u_ic b_ah b_be b_me u_wd b_tr b_ld u_st b_wn u_id)), (b_tp, (arI G 400 v_tp)), (b_op, (arI G 400 k20_op)), (b_ar, (arI G 400 k20_ar)), (b_pi, (arI G 400 k20_pi)), (b_pa, (arI G 400 k20_pa)), (b_ws, (arJ G 8 v_ws)), (b_hw, (arJ G 4 v_hw))] H ∧ va_D A [(b_o, (oc12 u_th u_sa b_rf b_ro b_im b_ke u_fd b_tp u_td k20_fr k20_to k20_so k20_wo k20_fa k20_bd u_nc b_nl k20_co b_op b_ar k20_le b_pi b_pa k20_pd k20_od b_ws b_hw u_la b_se b_re u_bk u_va u_su u_ce u_ho u_wy u_bt u_ps b_pt u_tg u_sn b_ip u_ic b_ah b_be b_me u_wd b_tr b_ld u_st b_wn u_id)), (b_tp, (arI G 400 v_tp)), (b_op, (arI G 400 k20_op)), (b_ar, (arI G 400 k20_ar)), (b_pi, (arI G 400 k20_pi)), (b_pa, (arI G 400 k20_pa)), (b_ws, (arJ G 8 v_ws)), (b_hw, (arJ G 4 v_hw))] ∧ va_S A s.heap H locs ∧ (0 ≤ k20_2.toInt ∧ k20_2.toInt ≤ 4) ∧ (0 ≤ k20_fr.toInt ∧ k20_fr.toInt ≤ 400) ∧ (0 ≤ k20_to.toInt ∧ k20_to.toInt ≤ 400) ∧ (0 ≤ k20_bd.toInt ∧ k20_bd.toInt ≤ 1) ∧ (0 ≤ k20_co.toInt ∧ k20_co.toInt ≤ 400) ∧ (0 ≤ k20_pd.toInt ∧ k20_pd.toInt ≤ 400) ∧ (XJ v_op v_ar k20_op k20_ar k20_pi k20_pa u_co.toInt k20_co.toInt k20_pd.toInt k20_fr.toInt) ∧ (k20_bd.toInt = 0 → TJ k20_op k20_ar k20_pi k20_pa u_co.toInt k20_co.toInt k20_pd.toInt k20_2.toInt) ∧ (k20_fr.toInt ≤ k20_to.toInt ∧ k20_to.toInt ≤ u_td.toInt) ∧ (TKs k20_so.toInt k20_fr.toInt k20_to.toInt) ∧ (u_fr.toInt ≤ k20_fr.toInt) ∧ (RQ v_tp u_td p_1 (S0X p_1 g_k v_op v_ar u_co u_le) k20_2.toInt (decide (k20_bd.toInt = 1)) k20_fr k20_to k20_so k20_wo k20_op k20_ar k20_pi k20_pa k20_co k20_pd k20_od k20_le) ∧ (k20_bd.toInt = 1 → k20_fa = k20_fr) ∧ (k20_bd.toInt = 0 → k20_fa = u_fa)) (fun (q : (Int32) × (Int32) × (Int32) × (Int32) × (Int64) × (Int32) × (Int32) × (Int32) × (Int32) × (Int32) × (Int32) × (Nat → Int32) × (Nat → Int32) × (Nat → Int32) × (Nat → Int32)) => match q with | (k20_2, k20_fr, k20_to, k20_so, k20_wo, k20_fa, k20_bd, k20_co, k20_le, k20_pd, k20_od, k20_op, k20_ar, k20_pi, k20_pa) => Int.toNat (3 * (400 - k20_fr.toInt) + 3 * (1 - k20_bd.toInt) + twt k20_2.toInt)) (1, u_fr, u_to, u_so, u_wo, u_fa, u_bd, u_co, u_le, 0, 0, v_op, v_ar, v_pi, v_pa) ⟨lv_sub hl [0, 1, 2] rfl, hP, hD, hS, ⟨by decide, by decide⟩, h_u_fr, h_u_to, ⟨by omega, by omega⟩, h_u_co, ⟨by decide, by decide⟩, xj_0 (by decide +kernel) (by omega) (by omega), fun _ => tj_1 (hj_0 (by decide +kernel)) (by decide +kernel), by omega, e_s, Int.le_refl _, rq_b (rq_begin (t := (1 : Int32).toInt) (by rw [if_neg (by omega)]; decide) (by decide +kernel) (by decide +kernel) (by omega) e_le e_tk) (decide_eq_false (by omega)), fun q9 => absurd q9 (by omega), fun _ => rfl⟩ ?_
    rintro ⟨k20_2, k20_fr, k20_to, k20_so, k20_wo, k20_fa, k20_bd, k20_co, k20_le, k20_pd, k20_od, k20_op, k20_ar, k20_pi, k20_pa⟩ ls H locs ⟨hl, hP, hD, hS, (i_2 : 0 ≤ k20_2.toInt ∧ k20_2.toInt ≤ 4), (i_3 : 0 ≤ k20_fr.toInt ∧ k20_fr.toInt ≤ 400), (i_4 : 0 ≤ k20_to.toInt ∧ k20_to.toInt ≤ 400), (i_5 : 0 ≤ k20_bd.toInt ∧ k20_bd.toInt ≤ 1), (i_6 : 0 ≤ k20_co.toInt ∧ k20_co.toInt ≤ 400), (i_7 : 0 ≤ k20_pd.toInt ∧ k20_pd.toInt ≤ 400), (i_8 : XJ v_op v_ar k20_op k20_ar k20_pi k20_pa u_co.toInt k20_co.toInt k20_pd.toInt k20_fr.toInt), (i_9 : k20_bd.toInt = 0 → TJ k20_op k20_ar k20_pi k20_pa u_co.toInt k20_co.toInt k20_pd.toInt k20_2.toInt), (i_10 : k20_fr.toInt ≤ k20_to.toInt ∧ k20_to.toInt ≤ u_td.toInt), (i_11 : TKs k20_so.toInt k20_fr.toInt k20_to.toInt), (i_12 : u_fr.toInt ≤ k20_fr.toInt), (i_13 : RQ v_tp u_td p_1 (S0X p_1 g_k v_op v_ar u_co u_le) k20_2.toInt (decide (k20_bd.toInt = 1)) k20_fr k20_to k20_so k20_wo k20_op k20_ar k20_pi k20_pa k20_co k20_pd k20_od k20_le), (i_14 : k20_bd.toInt = 1 → k20_fa = k20_fr), (i_15 : k20_bd.toInt = 0 → k20_fa = u_fa)⟩ ih_20_16
    replace hl : lv_has ls 3 [(2, .int k20_2), (0, .ref b_o), (1, .int p_1)] := hl
    refine g5_rs [(b_o, (oc12 u_th u_sa b_rf b_ro b_im b_ke u_fd b_tp u_td k20_fr k20_to k20_so k20_wo k20_fa k20_bd u_nc b_nl k20_co b_op b_ar k20_le b_pi b_pa k20_pd k20_od b_ws b_hw u_la b_se b_re u_bk u_va u_su u_ce u_ho u_wy u_bt u_ps b_pt u_tg u_sn b_ip u_ic b_ah b_be b_me u_wd b_tr b_ld u_st b_wn u_id)), (b_tp, (arI G 400 v_tp)), (b_op, (arI G 400 k20_op)), (b_ar, (arI G 400 k20_ar)), (b_pi, (arI G 400 k20_pi)), (b_pa, (arI G 400 k20_pa)), (b_ws, (arJ G 8 v_ws)), (b_hw, (arJ G 4 v_hw))] hP hD ?_
    clear hP hD
    intro hP hD
    have w0 := twt_rg k20_2.toInt
    refine lv_aload_n hx hb dX12_readExpression_20 rfl (lv_at hl 1 rfl) ?_
    refine va_get (D := G.1) (ci := 12) (v := .int k20_bd) (C := RX12) (T := TX12) (N := 52) hx hb hts inG_X12 hown hK hP 0 rfl rfl 14 (by decide +kernel) (hts _ fl_X12_205) (fun _ h9 => h9) rfl dX12_readExpression_21 ?_
    refine lv_if_ne (tgt := 76) hx hb dX12_readExpression_24 (by decide +kernel) (fun c_17 => ?_) (fun c_17 => ?_)
    ·
      have n_17 : gNe (k20_bd.toInt) (0) := g5_ne (a := k20_bd.toInt) (b := 0) rfl (by decide +kernel) c_17
      have i_17 : k20_bd.toInt ≥ 1 := by have z := g5_ne (a := k20_bd.toInt) (b := 0) (by rfl) (by decide +kernel) c_17; omega
      refine lv_aload_n hx hb dX12_readExpression_76 rfl (lv_at hl 1 rfl) ?_
      refine lv_iconst (v := 1) hx hb dX12_readExpression_77 (by decide +kernel) ?_
      obtain ⟨hPc, hDc, hFc⟩ := g5_sub3 (wc := [(b_o, (oc12 u_th u_sa b_rf b_ro b_im b_ke u_fd b_tp u_td k20_fr k20_to k20_so k20_wo k20_fa k20_bd u_nc b_nl k20_co b_op b_ar k20_le b_pi b_pa k20_pd k20_od b_ws b_hw u_la b_se b_re u_bk u_va u_su u_ce u_ho u_wy u_bt u_ps b_pt u_tg u_sn b_ip u_ic b_ah b_be b_me u_wd b_tr b_ld u_st b_wn u_id)), (b_op, (arI G 400 k20_op)), (b_ar, (arI G 400 k20_ar)), (b_pi, (arI G 400 k20_pi)), (b_pa, (arI G 400 k20_pa))]) hP hD hS hA [0, 2, 3, 4, 5] (by decide +kernel) rfl
      refine va_callv (va_runV (As := [.int 1]) (rest := []) ⟨hx, hb, hml, hown, hts⟩ (n_settleB l G b_o b_op b_ar b_pi b_pa b_rf b_ro b_im b_ke b_tp b_nl b_ws b_hw b_se b_re b_pt b_ip b_ah b_be b_me b_tr b_ld b_wn H.size u_th u_sa u_fd u_td k20_fr k20_to k20_so k20_fa k20_bd u_nc k20_co k20_le k20_pd k20_od u_la u_bk u_ce u_ho u_wy u_bt u_ps u_tg u_sn u_ic u_wd u_id 1 u_co k20_fr k20_wo u_va u_su u_st k20_op k20_ar k20_pi k20_pa v_op v_ar h_u_td i_3 i_4 i_5 h_u_nc i_6 i_7 h_u_la h_u_bk h_u_ce h_u_ho h_u_wy h_u_bt h_u_ps h_u_ic h_u_id ⟨by decide, by decide⟩ (by omega) (i_8)) (cwV 1 hts gV_X12_288 rfl rfl rfl hv_X12_settle ⟨Nat.le_of_ble_eq_true rfl, Nat.le_of_ble_eq_true rfl⟩) (g5_preV hPc hK hDc hN hT hS hFc (ci := 12) (q0 := 0) rfl rfl) rfl rfl hl.1 rfl (lv_room (Nat.le_of_ble_eq_true rfl)) dX12_readExpression_78 ⟨Nat.le_of_ble_eq_true rfl, Nat.le_of_ble_eq_true rfl⟩) hS (fun q _ h => hFc q h) hFc (fun u t H locs ht hvm hw hB hz1 hk1 hS => ?_)
      obtain ⟨hP1, hD1⟩ := hB
      have hP1 := g5_ht ht hP1
      obtain ⟨z24, z25, z26, z27, (i_18 : 0 ≤ z24.toInt ∧ z24.toInt ≤ 400), (i_19 : 0 ≤ z25.toInt ∧ z25.toInt ≤ 400), (i_20 : XJ v_op v_ar z26 z27 k20_pi k20_pa u_co.toInt z24.toInt z25.toInt k20_fr.toInt), (i_21 : S1 k20_pi k20_pd.toInt z25.toInt), (i_22 : S2 k20_pi z25.toInt (1 : Int32).toInt), (i_23 : z25.toInt ≤ k20_pd.toInt), rfl⟩ := hw
      have hJ9 := va_join (wr := [(b_tp, (arI G 400 v_tp)), (b_ws, (arJ G 8 v_ws)), (b_hw, (arJ G 4 v_hw))]) hP hD [0, 2, 3, 4, 5] [1, 6, 7] rfl rfl (by decide +kernel) (by decide +kernel) hk1 hFc hP1 hD1
      clear hP hD hPc hDc hFc ht hvm hz1 hk1 hP1 hD1
      obtain ⟨hP, hD⟩ := hJ9
      refine g5_rs [(b_tp, (arI G 400 v_tp)), (b_ws, (arJ G 8 v_ws)), (b_hw, (arJ G 4 v_hw)), (b_o, (oc12 u_th u_sa b_rf b_ro b_im b_ke u_fd b_tp u_td k20_fr k20_to k20_so k20_wo k20_fa k20_bd u_nc b_nl z24 b_op b_ar k20_le b_pi b_pa z25 k20_od b_ws b_hw u_la b_se b_re u_bk u_va u_su u_ce u_ho u_wy u_bt u_ps b_pt u_tg u_sn b_ip u_ic b_ah b_be b_me u_wd b_tr b_ld u_st b_wn u_id)), (b_op, (arI G 400 z26)), (b_ar, (arI G 400 z27)), (b_pi, (arI G 400 k20_pi)), (b_pa, (arI G 400 k20_pa))] hP hD ?_
      clear hP hD
      intro hP hD
      have hmf7 := xj_mf i_20
      exact W.vret hx hb hr (fun t ht hW => ⟨⟨[(b_o, (oc12 u_th u_sa b_rf b_ro b_im b_ke u_fd b_tp u_td k20_fr k20_to k20_so k20_wo k20_fa k20_bd u_nc b_nl z24 b_op b_ar k20_le b_pi b_pa z25 k20_od b_ws b_hw u_la b_se b_re u_bk u_va u_su u_ce u_ho u_wy u_bt u_ps b_pt u_tg u_sn b_ip u_ic b_ah b_be b_me u_wd b_tr b_ld u_st b_wn u_id)), (b_tp, (arI G 400 v_tp)), (b_op, (arI G 400 z26)), (b_ar, (arI G 400 z27)), (b_pi, (arI G 400 k20_pi)), (b_pa, (arI G 400 k20_pa)), (b_ws, (arJ G 8 v_ws)), (b_hw, (arJ G 4 v_hw))], rfl, ⟨k20_fr, k20_to, k20_so, k20_wo, k20_fa, k20_bd, z24, k20_le, z25, k20_od, z26, z27, k20_pi, k20_pa, i_3, i_4, i_5, i_18, i_19, by omega, i_11, xj_kp i_20, by omega, fun q9 => absurd q9 (by omega), rq_endB (by omega) e_kn e_k1 e_kc (by omega) (rq_b i_13 (decide_eq_true (by omega)).symm), i_14, i_15, rq_le i_13, rfl⟩, by rw [ht]; exact hP.sub [3, 0, 4, 5, 6, 7, 1, 2] rfl, hD.sub [3, 0, 4, 5, 6, 7, 1, 2] (by decide +kernel) rfl⟩, hS.F ht⟩) hS.2.2 dX12_readExpression_81
    ·
      have i_17 : k20_bd.toInt = 0 := g5_neN (a := k20_bd.toInt) (b := 0) rfl (by decide +kernel) c_17
      refine lv_iload_n hx hb dX12_readExpression_27 rfl (lv_at hl 0 rfl) ?_
      refine lv_iconst (v := 4) hx hb dX12_readExpression_28 (by decide +kernel) ?_
      refine lv_icmp_eq (tgt := 76) hx hb dX12_readExpression_29 (by decide +kernel) (fun c_28 => ?_) (fun c_28 => ?_)
      ·
        have i_28 : k20_2.toInt = 4 := g5_eq (a := k20_2.toInt) (b := 4) rfl (by decide +kernel) c_28
        have hE_29 : HJ k20_op k20_ar k20_pi k20_pa u_co.toInt k20_co.toInt k20_pd.toInt 1 := tj_d1 (i_9 (by omega)) (by omega)
        refine lv_aload_n hx hb dX12_readExpression_76 rfl (lv_at hl 1 rfl) ?_
        refine lv_iconst (v := 1) hx hb dX12_readExpression_77 (by decide +kernel) ?_
        obtain ⟨hPc, hDc, hFc⟩ := g5_sub3 (wc := [(b_o, (oc12 u_th u_sa b_rf b_ro b_im b_ke u_fd b_tp u_td k20_fr k20_to k20_so k20_wo k20_fa k20_bd u_nc b_nl k20_co b_op b_ar k20_le b_pi b_pa k20_pd k20_od b_ws b_hw u_la b_se b_re u_bk u_va u_su u_ce u_ho u_wy u_bt u_ps b_pt u_tg u_sn b_ip u_ic b_ah b_be b_me u_wd b_tr b_ld u_st b_wn u_id)), (b_op, (arI G 400 k20_op)), (b_ar, (arI G 400 k20_ar)), (b_pi, (arI G 400 k20_pi)), (b_pa, (arI G 400 k20_pa))]) hP hD hS hA [0, 2, 3, 4, 5] (by decide +kernel) rfl
        refine va_callv (va_runV (As := [.int 1]) (rest := []) ⟨hx, hb, hml, hown, hts⟩ (n_settleX l G b_o b_op b_ar b_pi b_pa b_rf b_ro b_im b_ke b_tp b_nl b_ws b_hw b_se b_re b_pt b_ip b_ah b_be b_me b_tr b_ld b_wn H.size u_th u_sa u_fd u_td k20_fr k20_to k20_so k20_fa k20_bd u_nc k20_co k20_le k20_pd k20_od u_la u_bk u_ce u_ho u_wy u_bt u_ps u_tg u_sn u_ic u_wd u_id 1 u_co k20_fr k20_wo u_va u_su u_st k20_op k20_ar k20_pi k20_pa v_op v_ar h_u_td i_3 i_4 i_5 h_u_nc i_6 i_7 h_u_la h_u_bk h_u_ce h_u_ho h_u_wy h_u_bt h_u_ps h_u_ic h_u_id ⟨by decide, by decide⟩ (by omega) (i_8) (hE_29)) (cwV 1 hts gV_X12_288 rfl rfl rfl hv_X12_settle ⟨Nat.le_of_ble_eq_true rfl, Nat.le_of_ble_eq_true rfl⟩) (g5_preV hPc hK hDc hN hT hS hFc (ci := 12) (q0 := 0) rfl rfl) rfl rfl hl.1 rfl (lv_room (Nat.le_of_ble_eq_true rfl)) dX12_readExpression_78 ⟨Nat.le_of_ble_eq_true rfl, Nat.le_of_ble_eq_true rfl⟩) hS (fun q _ h => hFc q h) hFc (fun u t H locs ht hvm hw hB hz1 hk1 hS => ?_)
        obtain ⟨hP1, hD1⟩ := hB
        have hP1 := g5_ht ht hP1
        obtain ⟨z38, z39, z40, z41, (i_30 : 0 ≤ z38.toInt ∧ z38.toInt ≤ 400), (i_31 : 0 ≤ z39.toInt ∧ z39.toInt ≤ 400), (i_32 : XJ v_op v_ar z40 z41 k20_pi k20_pa u_co.toInt z38.toInt z39.toInt k20_fr.toInt), (i_33 : HJ z40 z41 k20_pi k20_pa u_co.toInt z38.toInt z39.toInt 1), (i_34 : stl (1 : Int32).toInt (plL k20_pi k20_pa k20_pd.toInt.toNat) (k20_op, k20_ar, k20_co.toInt.toNat) = (plL k20_pi k20_pa z39.toInt.toNat, (z40, z41, z38.toInt.toNat))), (i_35 : S1 k20_pi k20_pd.toInt z39.toInt), (i_36 : S2 k20_pi z39.toInt (1 : Int32).toInt), (i_37 : z39.toInt ≤ k20_pd.toInt), rfl⟩ := hw
        have hJ9 := va_join (wr := [(b_tp, (arI G 400 v_tp)), (b_ws, (arJ G 8 v_ws)), (b_hw, (arJ G 4 v_hw))]) hP hD [0, 2, 3, 4, 5] [1, 6, 7] rfl rfl (by decide +kernel) (by decide +kernel) hk1 hFc hP1 hD1
        clear hP hD hPc hDc hFc ht hvm hz1 hk1 hP1 hD1
        obtain ⟨hP, hD⟩ := hJ9
        refine g5_rs [(b_tp, (arI G 400 v_tp)), (b_ws, (arJ G 8 v_ws)), (b_hw, (arJ G 4 v_hw)), (b_o, (oc12 u_th u_sa b_rf b_ro b_im b_ke u_fd b_tp u_td k20_fr k20_to k20_so k20_wo k20_fa k20_bd u_nc b_nl z38 b_op b_ar k20_le b_pi b_pa z39 k20_od b_ws b_hw u_la b_se b_re u_bk u_va u_su u_ce u_ho u_wy u_bt u_ps b_pt u_tg u_sn b_ip u_ic b_ah b_be b_me u_wd b_tr b_ld u_st b_wn u_id)), (b_op, (arI G 400 z40)), (b_ar, (arI G 400 z41)), (b_pi, (arI G 400 k20_pi)), (b_pa, (arI G 400 k20_pa))] hP hD ?_
        clear hP hD
        intro hP hD
        have hmf7 := xj_mf i_32
        exact W.vret hx hb hr (fun t ht hW => ⟨⟨[(b_o, (oc12 u_th u_sa b_rf b_ro b_im b_ke u_fd b_tp u_td k20_fr k20_to k20_so k20_wo k20_fa k20_bd u_nc b_nl z38 b_op b_ar k20_le b_pi b_pa z39 k20_od b_ws b_hw u_la b_se b_re u_bk u_va u_su u_ce u_ho u_wy u_bt u_ps b_pt u_tg u_sn b_ip u_ic b_ah b_be b_me u_wd b_tr b_ld u_st b_wn u_id)), (b_tp, (arI G 400 v_tp)), (b_op, (arI G 400 z40)), (b_ar, (arI G 400 z41)), (b_pi, (arI G 400 k20_pi)), (b_pa, (arI G 400 k20_pa)), (b_ws, (arJ G 8 v_ws)), (b_hw, (arJ G 4 v_hw))], rfl, ⟨k20_fr, k20_to, k20_so, k20_wo, k20_fa, k20_bd, z38, k20_le, z39, k20_od, z40, z41, k20_pi, k20_pa, i_3, i_4, i_5, i_30, i_31, by omega, i_11, xj_kp i_32, by omega, fun _ => cdN_of i_33 (end_0 ((i_9 (by omega)).2.2 (by omega)) (by omega) (by omega) (by decide +kernel) i_36) (by omega), rq_end (by omega) e_kn e_k1 e_kc (by omega) (by omega) (by omega) (rq_b (rq_t i_13 (by omega)) (decide_eq_false (by omega)).symm) (stl_c i_34 (by decide +kernel)), i_14, i_15, rq_le i_13, rfl⟩, by rw [ht]; exact hP.sub [3, 0, 4, 5, 6, 7, 1, 2] rfl, hD.sub [3, 0, 4, 5, 6, 7, 1, 2] (by decide +kernel) rfl⟩, hS.F ht⟩) hS.2.2 dX12_readExpression_81
      ·
        have n_28 : gNe (k20_2.toInt) (4) := g5_eqN (a := k20_2.toInt) (b := 4) rfl (by decide +kernel) c_28
        have i_28 : k20_2.toInt ≤ 3 := by have z := g5_eqN (a := k20_2.toInt) (b := 4) (by rfl) (by decide +kernel) c_28; omega
        refine lv_iload_n hx hb dX12_readExpression_32 rfl (lv_at hl 0 rfl) ?_
        refine lv_if_ne (tgt := 43) hx hb dX12_readExpression_33 (by decide +kernel) (fun c_42 => ?_) (fun c_42 => ?_)
        ·
          have n_42 : gNe (k20_2.toInt) (0) := g5_ne (a := k20_2.toInt) (b := 0) rfl (by decide +kernel) c_42
          have i_42 : k20_2.toInt ≥ 1 := by have z := g5_ne (a := k20_2.toInt) (b := 0) (by rfl) (by decide +kernel) c_42; omega
          refine lv_iload_n hx hb dX12_readExpression_43 rfl (lv_at hl 0 rfl) ?_
          refine lv_iconst (v := 1) hx hb dX12_readExpression_44 (by decide +kernel) ?_
          refine lv_icmp_ne (tgt := 55) hx hb dX12_readExpression_45 (by decide +kernel) (fun c_43 => ?_) (fun c_43 => ?_)
          ·
            have n_43 : gNe (k20_2.toInt) (1) := g5_ne (a := k20_2.toInt) (b := 1) rfl (by decide +kernel) c_43
            have i_43 : k20_2.toInt ≥ 2 := by have z := g5_ne (a := k20_2.toInt) (b := 1) (by rfl) (by decide +kernel) c_43; omega
            refine lv_iload_n hx hb dX12_readExpression_55 rfl (lv_at hl 0 rfl) ?_
            refine lv_iconst (v := 3) hx hb dX12_readExpression_56 (by decide +kernel) ?_
            refine lv_icmp_ne (tgt := 68) hx hb dX12_readExpression_57 (by decide +kernel) (fun c_44 => ?_) (fun c_44 => ?_)
            ·
              have n_44 : gNe (k20_2.toInt) (3) := g5_ne (a := k20_2.toInt) (b := 3) rfl (by decide +kernel) c_44
              have i_44 : k20_2.toInt ≤ 2 := by have z := g5_ne (a := k20_2.toInt) (b := 3) (by rfl) (by decide +kernel) c_44; omega
              have w2 : twt k20_2.toInt = 1 := twt_2 (by omega)
              have hE_45 : TJ k20_op k20_ar k20_pi k20_pa u_co.toInt k20_co.toInt k20_pd.toInt 2 := by have q9 := i_9 (by omega); rw [show k20_2.toInt = 2 by omega] at q9; exact q9
              have hE_46 : RQ v_tp u_td p_1 (S0X p_1 g_k v_op v_ar u_co u_le) 2 false k20_fr k20_to k20_so k20_wo k20_op k20_ar k20_pi k20_pa k20_co k20_pd k20_od k20_le := rq_b (rq_t i_13 (by omega)) (decide_eq_false (by omega)).symm
              refine lv_aload_n hx hb dX12_readExpression_68 rfl (lv_at hl 1 rfl) ?_
              obtain ⟨hPc, hDc, hFc⟩ := g5_sub3 (wc := [(b_o, (oc12 u_th u_sa b_rf b_ro b_im b_ke u_fd b_tp u_td k20_fr k20_to k20_so k20_wo k20_fa k20_bd u_nc b_nl k20_co b_op b_ar k20_le b_pi b_pa k20_pd k20_od b_ws b_hw u_la b_se b_re u_bk u_va u_su u_ce u_ho u_wy u_bt u_ps b_pt u_tg u_sn b_ip u_ic b_ah b_be b_me u_wd b_tr b_ld u_st b_wn u_id)), (b_tp, (arI G 400 v_tp)), (b_op, (arI G 400 k20_op)), (b_ar, (arI G 400 k20_ar)), (b_pi, (arI G 400 k20_pi)), (b_pa, (arI G 400 k20_pa)), (b_ws, (arJ G 8 v_ws)), (b_hw, (arJ G 4 v_hw))]) hP hD hS hA [0, 1, 2, 3, 4, 5, 6, 7] (by decide +kernel) rfl
              refine va_calli (va_runV (As := []) (rest := []) ⟨hx, hb, hml, hown, hts⟩ (n_behindTestX l G b_o b_tp b_op b_ar b_pi b_pa b_ws b_hw b_rf b_ro b_im b_ke b_nl b_se b_re b_pt b_ip b_ah b_be b_me b_tr b_ld b_wn H.size u_th u_sa u_fd u_td k20_fr k20_to k20_so k20_fa k20_bd u_nc k20_co k20_le k20_pd k20_od u_la u_bk u_ce u_ho u_wy u_bt u_ps u_tg u_sn u_ic u_wd u_id u_co p_1 u_le k20_wo u_va u_su u_st v_tp k20_op k20_ar k20_pi k20_pa v_ws v_hw v_op v_ar g_k h_u_td i_3 i_4 ⟨by omega, by omega⟩ h_u_nc i_6 i_7 h_u_la h_u_bk h_u_ce h_u_ho h_u_wy h_u_bt h_u_ps h_u_ic h_u_id (i_10) (i_11) (i_8) (hE_45) (e_tp) (e_ws) (hE_46)) (cwV 0 hts gV_X12_309 rfl rfl rfl hv_X12_behindTest ⟨Nat.le_of_ble_eq_true rfl, Nat.le_of_ble_eq_true rfl⟩) (g5_preV hPc hK hDc hN hT hS hFc (ci := 12) (q0 := 0) rfl rfl) rfl rfl hl.1 rfl (lv_room (Nat.le_of_ble_eq_true rfl)) dX12_readExpression_69 ⟨Nat.le_of_ble_eq_true rfl, Nat.le_of_ble_eq_true rfl⟩) hS (fun q _ h => hFc q h) hFc (fun r u t H locs ht hvm hw hB hz1 hk1 hS => ?_)
              obtain ⟨hP1, hD1⟩ := hB
              have hP1 := g5_ht ht hP1
              rcases hw with ⟨z49, (i_47 : 0 ≤ z49.toInt ∧ z49.toInt ≤ 4), (i_48 : RQ v_tp u_td p_1 (S0X p_1 g_k v_op v_ar u_co u_le) z49.toInt true k20_fr k20_to k20_so k20_wo k20_op k20_ar k20_pi k20_pa k20_co k20_pd k20_od k20_le), y50, rfl⟩ | ⟨z62, z63, z64, z65, z66, z67, z68, z69, z70, z71, z72, z73, (i_51 : 0 ≤ z63.toInt ∧ z63.toInt ≤ 400), (i_52 : 0 ≤ z64.toInt ∧ z64.toInt ≤ 400), (i_53 : 0 ≤ z67.toInt ∧ z67.toInt ≤ 400), (i_54 : 0 ≤ z68.toInt ∧ z68.toInt ≤ 400), (i_55 : 0 ≤ z62.toInt ∧ z62.toInt ≤ 4), (i_56 : k20_fr.toInt ≤ z63.toInt ∧ z63.toInt ≤ z64.toInt ∧ z64.toInt ≤ u_td.toInt), (i_57 : TKs z65.toInt z63.toInt z64.toInt), (i_58 : XJ v_op v_ar z70 z71 z72 z73 u_co.toInt z67.toInt z68.toInt z63.toInt), (i_59 : TJ z70 z71 z72 z73 u_co.toInt z67.toInt z68.toInt z62.toInt), (i_60 : twt z62.toInt + 1 ≤ 1 + 3 * (z63.toInt - k20_fr.toInt)), (i_61 : RQ v_tp u_td p_1 (S0X p_1 g_k v_op v_ar u_co u_le) z62.toInt false z63 z64 z65 z66 z70 z71 z72 z73 z67 z68 z69 k20_le), y74, rfl⟩
              ·
                have hJ9 := va_join (wr := []) hP hD [0, 1, 2, 3, 4, 5, 6, 7] [] rfl rfl (by decide +kernel) (by decide +kernel) hk1 hFc hP1 hD1
                clear hP hD hPc hDc hFc ht hvm hz1 hk1 hP1 hD1
                obtain ⟨hP, hD⟩ := hJ9
                refine g5_rs [(b_o, (oc12 u_th u_sa b_rf b_ro b_im b_ke u_fd b_tp u_td k20_fr k20_to k20_so k20_wo k20_fr 1 u_nc b_nl k20_co b_op b_ar k20_le b_pi b_pa k20_pd k20_od b_ws b_hw u_la b_se b_re u_bk u_va u_su u_ce u_ho u_wy u_bt u_ps b_pt u_tg u_sn b_ip u_ic b_ah b_be b_me u_wd b_tr b_ld u_st b_wn u_id)), (b_tp, (arI G 400 v_tp)), (b_op, (arI G 400 k20_op)), (b_ar, (arI G 400 k20_ar)), (b_pi, (arI G 400 k20_pi)), (b_pa, (arI G 400 k20_pa)), (b_ws, (arJ G 8 v_ws)), (b_hw, (arJ G 4 v_hw))] hP hD ?_
                clear hP hD
                intro hP hD
                refine g5_ti (v := z49) y50 ?_
                have w1 := twt_rg z49.toInt
                refine lv_istore_n (lv' := [(2, .int z49), (0, .ref b_o), (1, .int p_1)]) hx hb dX12_readExpression_72 rfl hl (by decide +kernel) rfl ?_
                clear hl
                intro ls hl
                refine lv_goto (tgt := 20) hx hb dX12_readExpression_73 (by decide +kernel) ?_
                exact ih_20_16 (z49, k20_fr, k20_to, k20_so, k20_wo, k20_fr, 1, k20_co, k20_le, k20_pd, k20_od, k20_op, k20_ar, k20_pi, k20_pa) ls H locs (show Int.toNat (3 * (400 - k20_fr.toInt) + 3 * (1 - (1 : Int32).toInt) + twt z49.toInt) < Int.toNat (3 * (400 - k20_fr.toInt) + 3 * (1 - k20_bd.toInt) + twt k20_2.toInt) by have zc_k20_bd : (1 : Int32).toInt = 1 := (by decide +kernel); omega) ⟨lv_sub hl [0, 1, 2] rfl, hP, hD, hS, i_47, i_3, i_4, ⟨by decide, by decide⟩, i_6, i_7, i_8, fun q9 => absurd q9 (by decide +kernel), by omega, i_11, by omega, rq_b i_48 (by decide +kernel), fun _ => rfl, fun q9 => absurd q9 (by decide +kernel)⟩
              ·
                have hJ9 := va_join (wr := []) hP hD [0, 1, 2, 3, 4, 5, 6, 7] [] rfl rfl (by decide +kernel) (by decide +kernel) hk1 hFc hP1 hD1
                clear hP hD hPc hDc hFc ht hvm hz1 hk1 hP1 hD1
                obtain ⟨hP, hD⟩ := hJ9
                refine g5_rs [(b_o, (oc12 u_th u_sa b_rf b_ro b_im b_ke u_fd b_tp u_td z63 z64 z65 z66 k20_fa k20_bd u_nc b_nl z67 b_op b_ar k20_le b_pi b_pa z68 z69 b_ws b_hw u_la b_se b_re u_bk u_va u_su u_ce u_ho u_wy u_bt u_ps b_pt u_tg u_sn b_ip u_ic b_ah b_be b_me u_wd b_tr b_ld u_st b_wn u_id)), (b_tp, (arI G 400 v_tp)), (b_op, (arI G 400 z70)), (b_ar, (arI G 400 z71)), (b_pi, (arI G 400 z72)), (b_pa, (arI G 400 z73)), (b_ws, (arJ G 8 v_ws)), (b_hw, (arJ G 4 v_hw))] hP hD ?_
                clear hP hD
                intro hP hD
                refine g5_ti (v := z62) y74 ?_
                have w1 := twt_rg z62.toInt
                refine lv_istore_n (lv' := [(2, .int z62), (0, .ref b_o), (1, .int p_1)]) hx hb dX12_readExpression_72 rfl hl (by decide +kernel) rfl ?_
                clear hl
                intro ls hl
                refine lv_goto (tgt := 20) hx hb dX12_readExpression_73 (by decide +kernel) ?_
                exact ih_20_16 (z62, z63, z64, z65, z66, k20_fa, k20_bd, z67, k20_le, z68, z69, z70, z71, z72, z73) ls H locs (show Int.toNat (3 * (400 - z63.toInt) + 3 * (1 - k20_bd.toInt) + twt z62.toInt) < Int.toNat (3 * (400 - k20_fr.toInt) + 3 * (1 - k20_bd.toInt) + twt k20_2.toInt) by omega) ⟨lv_sub hl [0, 1, 2] rfl, hP, hD, hS, i_55, i_51, i_52, i_5, i_53, i_54, i_58, fun _ => i_59, by omega, i_57, by omega, rq_b i_61 (decide_eq_false (by omega)), fun q9 => absurd q9 (by omega), fun _ => i_15 (by omega)⟩
            ·
              have i_44 : k20_2.toInt = 3 := g5_neN (a := k20_2.toInt) (b := 3) rfl (by decide +kernel) c_44
              have w2 : twt k20_2.toInt = 2 := twt_3 (by omega)
              have hE_75 : TJ k20_op k20_ar k20_pi k20_pa u_co.toInt k20_co.toInt k20_pd.toInt 3 := by have q9 := i_9 (by omega); rw [show k20_2.toInt = 3 by omega] at q9; exact q9
              have hE_76 : RQ v_tp u_td p_1 (S0X p_1 g_k v_op v_ar u_co u_le) 3 false k20_fr k20_to k20_so k20_wo k20_op k20_ar k20_pi k20_pa k20_co k20_pd k20_od k20_le := rq_b (rq_t i_13 (by omega)) (decide_eq_false (by omega)).symm
              refine lv_aload_n hx hb dX12_readExpression_60 rfl (lv_at hl 1 rfl) ?_
              refine lv_iload_n hx hb dX12_readExpression_61 rfl (lv_at hl 2 rfl) ?_
              obtain ⟨hPc, hDc, hFc⟩ := g5_sub3 (wc := [(b_o, (oc12 u_th u_sa b_rf b_ro b_im b_ke u_fd b_tp u_td k20_fr k20_to k20_so k20_wo k20_fa k20_bd u_nc b_nl k20_co b_op b_ar k20_le b_pi b_pa k20_pd k20_od b_ws b_hw u_la b_se b_re u_bk u_va u_su u_ce u_ho u_wy u_bt u_ps b_pt u_tg u_sn b_ip u_ic b_ah b_be b_me u_wd b_tr b_ld u_st b_wn u_id)), (b_tp, (arI G 400 v_tp)), (b_op, (arI G 400 k20_op)), (b_ar, (arI G 400 k20_ar)), (b_pi, (arI G 400 k20_pi)), (b_pa, (arI G 400 k20_pa)), (b_ws, (arJ G 8 v_ws)), (b_hw, (arJ G 4 v_hw))]) hP hD hS hA [0, 1, 2, 3, 4, 5, 6, 7] (by decide +kernel) rfl
              refine va_calli (va_runV (As := [.int p_1]) (rest := []) ⟨hx, hb, hml, hown, hts⟩ (n_behindSumX l G b_o b_tp b_op b_ar b_pi b_pa b_ws b_hw b_rf b_ro b_im b_ke b_nl b_se b_re b_pt b_ip b_ah b_be b_me b_tr b_ld b_wn H.size u_th u_sa u_fd u_td k20_fr k20_to k20_so k20_fa k20_bd u_nc k20_co k20_le k20_pd k20_od u_la u_bk u_ce u_ho u_wy u_bt u_ps u_tg u_sn u_ic u_wd u_id p_1 u_co p_1 u_le k20_wo u_va u_su u_st v_tp k20_op k20_ar k20_pi k20_pa v_ws v_hw v_op v_ar g_k h_u_td i_3 i_4 ⟨by omega, by omega⟩ h_u_nc i_6 i_7 h_u_la h_u_bk h_u_ce h_u_ho h_u_wy h_u_bt h_u_ps h_u_ic h_u_id h_p_1 (i_10) (i_11) (i_8) (hE_75) (e_tp) (e_ws) (hE_76) (by omega)) (cwV 1 hts gV_X12_305 rfl rfl rfl hv_X12_behindSum ⟨Nat.le_of_ble_eq_true rfl, Nat.le_of_ble_eq_true rfl⟩) (g5_preV hPc hK hDc hN hT hS hFc (ci := 12) (q0 := 0) rfl rfl) rfl rfl hl.1 rfl (lv_room (Nat.le_of_ble_eq_true rfl)) dX12_readExpression_62 ⟨Nat.le_of_ble_eq_true rfl, Nat.le_of_ble_eq_true rfl⟩) hS (fun q _ h => hFc q h) hFc (fun r u t H locs ht hvm hw hB hz1 hk1 hS => ?_)
              obtain ⟨hP1, hD1⟩ := hB
              have hP1 := g5_ht ht hP1
              rcases hw with ⟨z79, (i_77 : 0 ≤ z79.toInt ∧ z79.toInt ≤ 4), (i_78 : RQ v_tp u_td p_1 (S0X p_1 g_k v_op v_ar u_co u_le) z79.toInt true k20_fr k20_to k20_so k20_wo k20_op k20_ar k20_pi k20_pa k20_co k20_pd k20_od k20_le), y80, rfl⟩ | ⟨z92, z93, z94, z95, z96, z97, z98, z99, z100, z101, z102, z103, (i_81 : 0 ≤ z93.toInt ∧ z93.toInt ≤ 400), (i_82 : 0 ≤ z94.toInt ∧ z94.toInt ≤ 400), (i_83 : 0 ≤ z97.toInt ∧ z97.toInt ≤ 400), (i_84 : 0 ≤ z98.toInt ∧ z98.toInt ≤ 400), (i_85 : 0 ≤ z92.toInt ∧ z92.toInt ≤ 4), (i_86 : k20_fr.toInt ≤ z93.toInt ∧ z93.toInt ≤ z94.toInt ∧ z94.toInt ≤ u_td.toInt), (i_87 : TKs z95.toInt z93.toInt z94.toInt), (i_88 : XJ v_op v_ar z100 z101 z102 z103 u_co.toInt z97.toInt z98.toInt z93.toInt), (i_89 : TJ z100 z101 z102 z103 u_co.toInt z97.toInt z98.toInt z92.toInt), (i_90 : twt z92.toInt + 1 ≤ 2 + 3 * (z93.toInt - k20_fr.toInt)), (i_91 : RQ v_tp u_td p_1 (S0X p_1 g_k v_op v_ar u_co u_le) z92.toInt false z93 z94 z95 z96 z100 z101 z102 z103 z97 z98 z99 k20_le), y104, rfl⟩
              ·
                have hJ9 := va_join (wr := []) hP hD [0, 1, 2, 3, 4, 5, 6, 7] [] rfl rfl (by decide +kernel) (by decide +kernel) hk1 hFc hP1 hD1
                clear hP hD hPc hDc hFc ht hvm hz1 hk1 hP1 hD1
                obtain ⟨hP, hD⟩ := hJ9
                refine g5_rs [(b_o, (oc12 u_th u_sa b_rf b_ro b_im b_ke u_fd b_tp u_td k20_fr k20_to k20_so k20_wo k20_fr 1 u_nc b_nl k20_co b_op b_ar k20_le b_pi b_pa k20_pd k20_od b_ws b_hw u_la b_se b_re u_bk u_va u_su u_ce u_ho u_wy u_bt u_ps b_pt u_tg u_sn b_ip u_ic b_ah b_be b_me u_wd b_tr b_ld u_st b_wn u_id)), (b_tp, (arI G 400 v_tp)), (b_op, (arI G 400 k20_op)), (b_ar, (arI G 400 k20_ar)), (b_pi, (arI G 400 k20_pi)), (b_pa, (arI G 400 k20_pa)), (b_ws, (arJ G 8 v_ws)), (b_hw, (arJ G 4 v_hw))] hP hD ?_
                clear hP hD
                intro hP hD
                refine g5_ti (v := z79) y80 ?_
                refine lv_goto (tgt := 72) hx hb dX12_readExpression_65 (by decide +kernel) ?_
                have w1 := twt_rg z79.toInt
                refine lv_istore_n (lv' := [(2, .int z79), (0, .ref b_o), (1, .int p_1)]) hx hb dX12_readExpression_72 rfl hl (by decide +kernel) rfl ?_
                clear hl
                intro ls hl
                refine lv_goto (tgt := 20) hx hb dX12_readExpression_73 (by decide +kernel) ?_
                exact ih_20_16 (z79, k20_fr, k20_to, k20_so, k20_wo, k20_fr, 1, k20_co, k20_le, k20_pd, k20_od, k20_op, k20_ar, k20_pi, k20_pa) ls H locs (show Int.toNat (3 * (400 - k20_fr.toInt) + 3 * (1 - (1 : Int32).toInt) + twt z79.toInt) < Int.toNat (3 * (400 - k20_fr.toInt) + 3 * (1 - k20_bd.toInt) + twt k20_2.toInt) by have zc_k20_bd : (1 : Int32).toInt = 1 := (by decide +kernel); omega) ⟨lv_sub hl [0, 1, 2] rfl, hP, hD, hS, i_77, i_3, i_4, ⟨by decide, by decide⟩, i_6, i_7, i_8, fun q9 => absurd q9 (by decide +kernel), by omega, i_11, by omega, rq_b i_78 (by decide +kernel), fun _ => rfl, fun q9 => absurd q9 (by decide +kernel)⟩
              ·
                have hJ9 := va_join (wr := []) hP hD [0, 1, 2, 3, 4, 5, 6, 7] [] rfl rfl (by decide +kernel) (by decide +kernel) hk1 hFc hP1 hD1
                clear hP hD hPc hDc hFc ht hvm hz1 hk1 hP1 hD1
                obtain ⟨hP, hD⟩ := hJ9
                refine g5_rs [(b_o, (oc12 u_th u_sa b_rf b_ro b_im b_ke u_fd b_tp u_td z93 z94 z95 z96 k20_fa k20_bd u_nc b_nl z97 b_op b_ar k20_le b_pi b_pa z98 z99 b_ws b_hw u_la b_se b_re u_bk u_va u_su u_ce u_ho u_wy u_bt u_ps b_pt u_tg u_sn b_ip u_ic b_ah b_be b_me u_wd b_tr b_ld u_st b_wn u_id)), (b_tp, (arI G 400 v_tp)), (b_op, (arI G 400 z100)), (b_ar, (arI G 400 z101)), (b_pi, (arI G 400 z102)), (b_pa, (arI G 400 z103)), (b_ws, (arJ G 8 v_ws)), (b_hw, (arJ G 4 v_hw))] hP hD ?_
                clear hP hD
                intro hP hD
                refine g5_ti (v := z92) y104 ?_
                refine lv_goto (tgt := 72) hx hb dX12_readExpression_65 (by decide +kernel) ?_
                have w1 := twt_rg z92.toInt
                refine lv_istore_n (lv' := [(2, .int z92), (0, .ref b_o), (1, .int p_1)]) hx hb dX12_readExpression_72 rfl hl (by decide +kernel) rfl ?_
                clear hl
                intro ls hl
                refine lv_goto (tgt := 20) hx hb dX12_readExpression_73 (by decide +kernel) ?_
                exact ih_20_16 (z92, z93, z94, z95, z96, k20_fa, k20_bd, z97, k20_le, z98, z99, z100, z101, z102, z103) ls H locs (show Int.toNat (3 * (400 - z93.toInt) + 3 * (1 - k20_bd.toInt) + twt z92.toInt) < Int.toNat (3 * (400 - k20_fr.toInt) + 3 * (1 - k20_bd.toInt) + twt k20_2.toInt) by omega) ⟨lv_sub hl [0, 1, 2] rfl, hP, hD, hS, i_85, i_81, i_82, i_5, i_83, i_84, i_88, fun _ => i_89, by omega, i_87, by omega, rq_b i_91 (decide_eq_false (by omega)), fun q9 => absurd q9 (by omega), fun _ => i_15 (by omega)⟩
          ·
            have i_43 : k20_2.toInt = 1 := g5_neN (a := k20_2.toInt) (b := 1) rfl (by decide +kernel) c_43
            have w2 : twt k20_2.toInt = 0 := twt_0 (Or.inr (Or.inl (by omega)))
            have hE_105 : TJ k20_op k20_ar k20_pi k20_pa u_co.toInt k20_co.toInt k20_pd.toInt 1 := by have q9 := i_9 (by omega); rw [show k20_2.toInt = 1 by omega] at q9; exact q9
            have hE_106 : RQ1 v_tp u_td p_1 (S0X p_1 g_k v_op v_ar u_co u_le) k20_fr k20_to k20_so k20_wo k20_op k20_ar k20_pi k20_pa k20_co k20_pd k20_od k20_le := rq_1 (rq_b (rq_t i_13 (by omega)) (decide_eq_false (by omega)).symm)
            refine lv_aload_n hx hb dX12_readExpression_48 rfl (lv_at hl 1 rfl) ?_
            obtain ⟨hPc, hDc, hFc⟩ := g5_sub3 (wc := [(b_o, (oc12 u_th u_sa b_rf b_ro b_im b_ke u_fd b_tp u_td k20_fr k20_to k20_so k20_wo k20_fa k20_bd u_nc b_nl k20_co b_op b_ar k20_le b_pi b_pa k20_pd k20_od b_ws b_hw u_la b_se b_re u_bk u_va u_su u_ce u_ho u_wy u_bt u_ps b_pt u_tg u_sn b_ip u_ic b_ah b_be b_me u_wd b_tr b_ld u_st b_wn u_id)), (b_tp, (arI G 400 v_tp)), (b_op, (arI G 400 k20_op)), (b_ar, (arI G 400 k20_ar)), (b_pi, (arI G 400 k20_pi)), (b_pa, (arI G 400 k20_pa)), (b_ws, (arJ G 8 v_ws)), (b_hw, (arJ G 4 v_hw))]) hP hD hS hA [0, 1, 2, 3, 4, 5, 6, 7] (by decide +kernel) rfl
            refine va_calli (va_runV (As := []) (rest := []) ⟨hx, hb, hml, hown, hts⟩ (n_readPartX l G b_o b_tp b_op b_ar b_pi b_pa b_ws b_hw b_rf b_ro b_im b_ke b_nl b_se b_re b_pt b_ip b_ah b_be b_me b_tr b_ld b_wn H.size u_th u_sa u_fd u_td k20_fr k20_to k20_so k20_fa k20_bd u_nc k20_co k20_le k20_pd k20_od u_la u_bk u_ce u_ho u_wy u_bt u_ps u_tg u_sn u_ic u_wd u_id u_co p_1 u_le k20_wo u_va u_su u_st v_tp k20_op k20_ar k20_pi k20_pa v_ws v_hw v_op v_ar g_k h_u_td i_3 i_4 ⟨by omega, by omega⟩ h_u_nc i_6 i_7 h_u_la h_u_bk h_u_ce h_u_ho h_u_wy h_u_bt h_u_ps h_u_ic h_u_id (i_10) (i_11) (i_8) (hE_105) (e_tp) (e_ws) (hE_106)) (cwV 0 hts gV_X12_285 rfl rfl rfl hv_X12_readPart ⟨Nat.le_of_ble_eq_true rfl, Nat.le_of_ble_eq_true rfl⟩) (g5_preV hPc hK hDc hN hT hS hFc (ci := 12) (q0 := 0) rfl rfl) rfl rfl hl.1 rfl (lv_room (Nat.le_of_ble_eq_true rfl)) dX12_readExpression_49 ⟨Nat.le_of_ble_eq_true rfl, Nat.le_of_ble_eq_true rfl⟩) hS (fun q _ h => hFc q h) hFc (fun r u t H locs ht hvm hw hB hz1 hk1 hS => ?_)
            obtain ⟨hP1, hD1⟩ := hB
            have hP1 := g5_ht ht hP1
            rcases hw with ⟨z109, (i_107 : 0 ≤ z109.toInt ∧ z109.toInt ≤ 4), (i_108 : RQ v_tp u_td p_1 (S0X p_1 g_k v_op v_ar u_co u_le) z109.toInt true k20_fr k20_to k20_so k20_wo k20_op k20_ar k20_pi k20_pa k20_co k20_pd k20_od k20_le), y110, rfl⟩ | ⟨z122, z123, z124, z125, z126, z127, z128, z129, z130, z131, z132, z133, z134, (i_111 : 0 ≤ z123.toInt ∧ z123.toInt ≤ 400), (i_112 : 0 ≤ z124.toInt ∧ z124.toInt ≤ 400), (i_113 : 0 ≤ z127.toInt ∧ z127.toInt ≤ 400), (i_114 : 0 ≤ z129.toInt ∧ z129.toInt ≤ 400), (i_115 : 0 ≤ z122.toInt ∧ z122.toInt ≤ 4), (i_116 : k20_fr.toInt ≤ z123.toInt ∧ z123.toInt ≤ z124.toInt ∧ z124.toInt ≤ u_td.toInt), (i_117 : TKs z125.toInt z123.toInt z124.toInt), (i_118 : XJ v_op v_ar z131 z132 z133 z134 u_co.toInt z127.toInt z129.toInt z123.toInt), (i_119 : TJ z131 z132 z133 z134 u_co.toInt z127.toInt z129.toInt z122.toInt), (i_120 : twt z122.toInt + 1 ≤ 0 + 3 * (z123.toInt - k20_fr.toInt)), (i_121 : RQ v_tp u_td p_1 (S0X p_1 g_k v_op v_ar u_co u_le) z122.toInt false z123 z124 z125 z126 z131 z132 z133 z134 z127 z129 z130 z128), y135, rfl⟩
            ·
              have hJ9 := va_join (wr := []) hP hD [0, 1, 2, 3, 4, 5, 6, 7] [] rfl rfl (by decide +kernel) (by decide +kernel) hk1 hFc hP1 hD1
              clear hP hD hPc hDc hFc ht hvm hz1 hk1 hP1 hD1
              obtain ⟨hP, hD⟩ := hJ9
              refine g5_rs [(b_o, (oc12 u_th u_sa b_rf b_ro b_im b_ke u_fd b_tp u_td k20_fr k20_to k20_so k20_wo k20_fr 1 u_nc b_nl k20_co b_op b_ar k20_le b_pi b_pa k20_pd k20_od b_ws b_hw u_la b_se b_re u_bk u_va u_su u_ce u_ho u_wy u_bt u_ps b_pt u_tg u_sn b_ip u_ic b_ah b_be b_me u_wd b_tr b_ld u_st b_wn u_id)), (b_tp, (arI G 400 v_tp)), (b_op, (arI G 400 k20_op)), (b_ar, (arI G 400 k20_ar)), (b_pi, (arI G 400 k20_pi)), (b_pa, (arI G 400 k20_pa)), (b_ws, (arJ G 8 v_ws)), (b_hw, (arJ G 4 v_hw))] hP hD ?_
              clear hP hD
              intro hP hD
              refine g5_ti (v := z109) y110 ?_
              refine lv_goto (tgt := 72) hx hb dX12_readExpression_52 (by decide +kernel) ?_
              have w1 := twt_rg z109.toInt
              refine lv_istore_n (lv' := [(2, .int z109), (0, .ref b_o), (1, .int p_1)]) hx hb dX12_readExpression_72 rfl hl (by decide +kernel) rfl ?_
              clear hl
              intro ls hl
              refine lv_goto (tgt := 20) hx hb dX12_readExpression_73 (by decide +kernel) ?_
              exact ih_20_16 (z109, k20_fr, k20_to, k20_so, k20_wo, k20_fr, 1, k20_co, k20_le, k20_pd, k20_od, k20_op, k20_ar, k20_pi, k20_pa) ls H locs (show Int.toNat (3 * (400 - k20_fr.toInt) + 3 * (1 - (1 : Int32).toInt) + twt z109.toInt) < Int.toNat (3 * (400 - k20_fr.toInt) + 3 * (1 - k20_bd.toInt) + twt k20_2.toInt) by have zc_k20_bd : (1 : Int32).toInt = 1 := (by decide +kernel); omega) ⟨lv_sub hl [0, 1, 2] rfl, hP, hD, hS, i_107, i_3, i_4, ⟨by decide, by decide⟩, i_6, i_7, i_8, fun q9 => absurd q9 (by decide +kernel), by omega, i_11, by omega, rq_b i_108 (by decide +kernel), fun _ => rfl, fun q9 => absurd q9 (by decide +kernel)⟩
            ·
              have hJ9 := va_join (wr := []) hP hD [0, 1, 2, 3, 4, 5, 6, 7] [] rfl rfl (by decide +kernel) (by decide +kernel) hk1 hFc hP1 hD1
              clear hP hD hPc hDc hFc ht hvm hz1 hk1 hP1 hD1
              obtain ⟨hP, hD⟩ := hJ9
              refine g5_rs [(b_o, (oc12 u_th u_sa b_rf b_ro b_im b_ke u_fd b_tp u_td z123 z124 z125 z126 k20_fa k20_bd u_nc b_nl z127 b_op b_ar z128 b_pi b_pa z129 z130 b_ws b_hw u_la b_se b_re u_bk u_va u_su u_ce u_ho u_wy u_bt u_ps b_pt u_tg u_sn b_ip u_ic b_ah b_be b_me u_wd b_tr b_ld u_st b_wn u_id)), (b_tp, (arI G 400 v_tp)), (b_op, (arI G 400 z131)), (b_ar, (arI G 400 z132)), (b_pi, (arI G 400 z133)), (b_pa, (arI G 400 z134)), (b_ws, (arJ G 8 v_ws)), (b_hw, (arJ G 4 v_hw))] hP hD ?_
              clear hP hD
              intro hP hD
              refine g5_ti (v := z122) y135 ?_
              refine lv_goto (tgt := 72) hx hb dX12_readExpression_52 (by decide +kernel) ?_
              have w1 := twt_rg z122.toInt
              refine lv_istore_n (lv' := [(2, .int z122), (0, .ref b_o), (1, .int p_1)]) hx hb dX12_readExpression_72 rfl hl (by decide +kernel) rfl ?_
              clear hl
              intro ls hl
              refine lv_goto (tgt := 20) hx hb dX12_readExpression_73 (by decide +kernel) ?_
              exact ih_20_16 (z122, z123, z124, z125, z126, k20_fa, k20_bd, z127, z128, z129, z130, z131, z132, z133, z134) ls H locs (show Int.toNat (3 * (400 - z123.toInt) + 3 * (1 - k20_bd.toInt) + twt z122.toInt) < Int.toNat (3 * (400 - k20_fr.toInt) + 3 * (1 - k20_bd.toInt) + twt k20_2.toInt) by omega) ⟨lv_sub hl [0, 1, 2] rfl, hP, hD, hS, i_115, i_111, i_112, i_5, i_113, i_114, i_118, fun _ => i_119, by omega, i_117, by omega, rq_b i_121 (decide_eq_false (by omega)), fun q9 => absurd q9 (by omega), fun _ => i_15 (by omega)⟩
        ·
          have i_42 : k20_2.toInt = 0 := g5_neN (a := k20_2.toInt) (b := 0) rfl (by decide +kernel) c_42
          have w2 : twt k20_2.toInt = 0 := twt_0 (Or.inl (by omega))
          have hE_136 : TJ k20_op k20_ar k20_pi k20_pa u_co.toInt k20_co.toInt k20_pd.toInt 0 := by have q9 := i_9 (by omega); rw [show k20_2.toInt = 0 by omega] at q9; exact q9
          have hE_137 : RQ v_tp u_td p_1 (S0X p_1 g_k v_op v_ar u_co u_le) 0 false k20_fr k20_to k20_so k20_wo k20_op k20_ar k20_pi k20_pa k20_co k20_pd k20_od k20_le := rq_b (rq_t i_13 (by omega)) (decide_eq_false (by omega)).symm
          refine lv_aload_n hx hb dX12_readExpression_36 rfl (lv_at hl 1 rfl) ?_
          obtain ⟨hPc, hDc, hFc⟩ := g5_sub3 (wc := [(b_o, (oc12 u_th u_sa b_rf b_ro b_im b_ke u_fd b_tp u_td k20_fr k20_to k20_so k20_wo k20_fa k20_bd u_nc b_nl k20_co b_op b_ar k20_le b_pi b_pa k20_pd k20_od b_ws b_hw u_la b_se b_re u_bk u_va u_su u_ce u_ho u_wy u_bt u_ps b_pt u_tg u_sn b_ip u_ic b_ah b_be b_me u_wd b_tr b_ld u_st b_wn u_id)), (b_tp, (arI G 400 v_tp)), (b_op, (arI G 400 k20_op)), (b_ar, (arI G 400 k20_ar)), (b_pi, (arI G 400 k20_pi)), (b_pa, (arI G 400 k20_pa)), (b_ws, (arJ G 8 v_ws)), (b_hw, (arJ G 4 v_hw))]) hP hD hS hA [0, 1, 2, 3, 4, 5, 6, 7] (by decide +kernel) rfl
          refine va_calli (va_runV (As := []) (rest := []) ⟨hx, hb, hml, hown, hts⟩ (n_readPlainX l G b_o b_tp b_op b_ar b_pi b_pa b_ws b_hw b_rf b_ro b_im b_ke b_nl b_se b_re b_pt b_ip b_ah b_be b_me b_tr b_ld b_wn H.size u_th u_sa u_fd u_td k20_fr k20_to k20_so k20_fa k20_bd u_nc k20_co k20_le k20_pd k20_od u_la u_bk u_ce u_ho u_wy u_bt u_ps u_tg u_sn u_ic u_wd u_id u_co p_1 u_le k20_wo u_va u_su u_st v_tp k20_op k20_ar k20_pi k20_pa v_ws v_hw v_op v_ar g_k h_u_td i_3 i_4 ⟨by omega, by omega⟩ h_u_nc i_6 i_7 h_u_la h_u_bk h_u_ce h_u_ho h_u_wy h_u_bt h_u_ps h_u_ic h_u_id (i_10) (i_11) (i_8) (hE_136) (e_tp) (e_ws) (hE_137)) (cwV 0 hts gV_X12_302 rfl rfl rfl hv_X12_readPlain ⟨Nat.le_of_ble_eq_true rfl, Nat.le_of_ble_eq_true rfl⟩) (g5_preV hPc hK hDc hN hT hS hFc (ci := 12) (q0 := 0) rfl rfl) rfl rfl hl.1 rfl (lv_room (Nat.le_of_ble_eq_true rfl)) dX12_readExpression_37 ⟨Nat.le_of_ble_eq_true rfl, Nat.le_of_ble_eq_true rfl⟩) hS (fun q _ h => hFc q h) hFc (fun r u t H locs ht hvm hw hB hz1 hk1 hS => ?_)
          obtain ⟨hP1, hD1⟩ := hB
          have hP1 := g5_ht ht hP1
          rcases hw with ⟨z140, (i_138 : 0 ≤ z140.toInt ∧ z140.toInt ≤ 4), (i_139 : RQ v_tp u_td p_1 (S0X p_1 g_k v_op v_ar u_co u_le) z140.toInt true k20_fr k20_to k20_so k20_wo k20_op k20_ar k20_pi k20_pa k20_co k20_pd k20_od k20_le), y141, rfl⟩ | ⟨z153, z154, z155, z156, z157, z158, z159, z160, z161, z162, z163, z164, z165, (i_142 : 0 ≤ z154.toInt ∧ z154.toInt ≤ 400), (i_143 : 0 ≤ z155.toInt ∧ z155.toInt ≤ 400), (i_144 : 0 ≤ z158.toInt ∧ z158.toInt ≤ 400), (i_145 : 0 ≤ z160.toInt ∧ z160.toInt ≤ 400), (i_146 : 0 ≤ z153.toInt ∧ z153.toInt ≤ 4), (i_147 : k20_fr.toInt ≤ z154.toInt ∧ z154.toInt ≤ z155.toInt ∧ z155.toInt ≤ u_td.toInt), (i_148 : TKs z156.toInt z154.toInt z155.toInt), (i_149 : XJ v_op v_ar z162 z163 z164 z165 u_co.toInt z158.toInt z160.toInt z154.toInt), (i_150 : TJ z162 z163 z164 z165 u_co.toInt z158.toInt z160.toInt z153.toInt), (i_151 : twt z153.toInt + 1 ≤ 0 + 3 * (z154.toInt - k20_fr.toInt)), (i_152 : RQ v_tp u_td p_1 (S0X p_1 g_k v_op v_ar u_co u_le) z153.toInt false z154 z155 z156 z157 z162 z163 z164 z165 z158 z160 z161 z159), y166, rfl⟩
          ·
            have hJ9 := va_join (wr := []) hP hD [0, 1, 2, 3, 4, 5, 6, 7] [] rfl rfl (by decide +kernel) (by decide +kernel) hk1 hFc hP1 hD1
            clear hP hD hPc hDc hFc ht hvm hz1 hk1 hP1 hD1
            obtain ⟨hP, hD⟩ := hJ9
            refine g5_rs [(b_o, (oc12 u_th u_sa b_rf b_ro b_im b_ke u_fd b_tp u_td k20_fr k20_to k20_so k20_wo k20_fr 1 u_nc b_nl k20_co b_op b_ar k20_le b_pi b_pa k20_pd k20_od b_ws b_hw u_la b_se b_re u_bk u_va u_su u_ce u_ho u_wy u_bt u_ps b_pt u_tg u_sn b_ip u_ic b_ah b_be b_me u_wd b_tr b_ld u_st b_wn u_id)), (b_tp, (arI G 400 v_tp)), (b_op, (arI G 400 k20_op)), (b_ar, (arI G 400 k20_ar)), (b_pi, (arI G 400 k20_pi)), (b_pa, (arI G 400 k20_pa)), (b_ws, (arJ G 8 v_ws)), (b_hw, (arJ G 4 v_hw))] hP hD ?_
            clear hP hD
            intro hP hD
            refine g5_ti (v := z140) y141 ?_
            refine lv_goto (tgt := 72) hx hb dX12_readExpression_40 (by decide +kernel) ?_
            have w1 := twt_rg z140.toInt
            refine lv_istore_n (lv' := [(2, .int z140), (0, .ref b_o), (1, .int p_1)]) hx hb dX12_readExpression_72 rfl hl (by decide +kernel) rfl ?_
            clear hl
            intro ls hl
            refine lv_goto (tgt := 20) hx hb dX12_readExpression_73 (by decide +kernel) ?_
            exact ih_20_16 (z140, k20_fr, k20_to, k20_so, k20_wo, k20_fr, 1, k20_co, k20_le, k20_pd, k20_od, k20_op, k20_ar, k20_pi, k20_pa) ls H locs (show Int.toNat (3 * (400 - k20_fr.toInt) + 3 * (1 - (1 : Int32).toInt) + twt z140.toInt) < Int.toNat (3 * (400 - k20_fr.toInt) + 3 * (1 - k20_bd.toInt) + twt k20_2.toInt) by have zc_k20_bd : (1 : Int32).toInt = 1 := (by decide +kernel); omega) ⟨lv_sub hl [0, 1, 2] rfl, hP, hD, hS, i_138, i_3, i_4, ⟨by decide, by decide⟩, i_6, i_7, i_8, fun q9 => absurd q9 (by decide +kernel), by omega, i_11, by omega, rq_b i_139 (by decide +kernel), fun _ => rfl, fun q9 => absurd q9 (by decide +kernel)⟩
          ·
            have hJ9 := va_join (wr := []) hP hD [0, 1, 2, 3, 4, 5, 6, 7] [] rfl rfl (by decide +kernel) (by decide +kernel) hk1 hFc hP1 hD1
            clear hP hD hPc hDc hFc ht hvm hz1 hk1 hP1 hD1
            obtain ⟨hP, hD⟩ := hJ9
            refine g5_rs [(b_o, (oc12 u_th u_sa b_rf b_ro b_im b_ke u_fd b_tp u_td z154 z155 z156 z157 k20_fa k20_bd u_nc b_nl z158 b_op b_ar z159 b_pi b_pa z160 z161 b_ws b_hw u_la b_se b_re u_bk u_va u_su u_ce u_ho u_wy u_bt u_ps b_pt u_tg u_sn b_ip u_ic b_ah b_be b_me u_wd b_tr b_ld u_st b_wn u_id)), (b_tp, (arI G 400 v_tp)), (b_op, (arI G 400 z162)), (b_ar, (arI G 400 z163)), (b_pi, (arI G 400 z164)), (b_pa, (arI G 400 z165)), (b_ws, (arJ G 8 v_ws)), (b_hw, (arJ G 4 v_hw))] hP hD ?_
            clear hP hD
            intro hP hD
            refine g5_ti (v := z153) y166 ?_
            refine lv_goto (tgt := 72) hx hb dX12_readExpression_40 (by decide +kernel) ?_
            have w1 := twt_rg z153.toInt
            refine lv_istore_n (lv' := [(2, .int z153), (0, .ref b_o), (1, .int p_1)]) hx hb dX12_readExpression_72 rfl hl (by decide +kernel) rfl ?_
            clear hl
            intro ls hl
            refine lv_goto (tgt := 20) hx hb dX12_readExpression_73 (by decide +kernel) ?_
            exact ih_20_16 (z153, z154, z155, z156, z157, k20_fa, k20_bd, z158, z159, z160, z161, z162, z163, z164, z165) ls H locs (show Int.toNat (3 * (400 - z154.toInt) + 3 * (1 - k20_bd.toInt) + twt z153.toInt) < Int.toNat (3 * (400 - k20_fr.toInt) + 3 * (1 - k20_bd.toInt) + twt k20_2.toInt) by omega) ⟨lv_sub hl [0, 1, 2] rfl, hP, hD, hS, i_146, i_142, i_143, i_5, i_144, i_145, i_149, fun _ => i_150, by omega, i_148, by omega, rq_b i_152 (decide_eq_false (by omega)), fun q9 => absurd q9 (by omega), fun _ => i_15 (by omega)⟩
  ·
    have n_1 : gNe (p_1.toInt) (0) := g5_eqN (a := p_1.toInt) (b := 0) rfl (by decide +kernel) c_1
    have i_1 : p_1.toInt ≥ 1 := by have z := g5_eqN (a := p_1.toInt) (b := 0) (by rfl) (by decide +kernel) c_1; omega
    refine lv_iconst (v := 0) hx hb dX12_readExpression_14 (by decide +kernel) ?_
    refine lv_goto (tgt := 19) hx hb dX12_readExpression_15 (by decide +kernel) ?_
    refine lv_istore_n (lv' := [(2, .int 0), (0, .ref b_o), (1, .int p_1)]) hx hb dX12_readExpression_19 rfl hl (by decide +kernel) rfl ?_
    clear hl
    intro ls hl
    refine g5_loop (α := (Int32) × (Int32) × (Int32) × (Int32) × (Int64) × (Int32) × (Int32) × (Int32) × (Int32) × (Int32) × (Int32) × (Nat → Int32) × (Nat → Int32) × (Nat → Int32) × (Nat → Int32)) (fun (q : (Int32) × (Int32) × (Int32) × (Int32) × (Int64) × (Int32) × (Int32) × (Int32) × (Int32) × (Int32) × (Int32) × (Nat → Int32) × (Nat → Int32) × (Nat → Int32) × (Nat → Int32)) (ls : Array Slot) (H : Heap) (locs : List Loc) => match q with | (k20_2, k20_fr, k20_to, k20_so, k20_wo, k20_fa, k20_bd, k20_co, k20_le, k20_pd, k20_od, k20_op, k20_ar, k20_pi, k20_pa) => lv_has ls 3 [(2, .int k20_2), (0, .ref b_o), (1, .int p_1)] ∧ va_P G.1 vwCl [(b_o, (oc12 u_th u_sa b_rf b_ro b_im b_ke u_fd b_tp u_td k20_fr k20_to k20_so k20_wo k20_fa k20_bd u_nc b_nl k20_co b_op b_ar k20_le b_pi b_pa k20_pd k20_od b_ws b_hw u_la b_se b_re u_bk u_va u_su u_ce u_ho u_wy u_bt u_ps b_pt u_tg u_sn b_ip u_ic b_ah b_be b_me u_wd b_tr b_ld u_st b_wn u_id)), (b_tp, (arI G 400 v_tp)), (b_op, (arI G 400 k20_op)), (b_ar, (arI G 400 k20_ar)), (b_pi, (arI G 400 k20_pi)), (b_pa, (arI G 400 k20_pa)), (b_ws, (arJ G 8 v_ws)), (b_hw, (arJ G 4 v_hw))] H ∧ va_D A [(b_o, (oc12 u_th u_sa b_rf b_ro b_im b_ke u_fd b_tp u_td k20_fr k20_to k20_so k20_wo k20_fa k20_bd u_nc b_nl k20_co b_op b_ar k20_le b_pi b_pa k20_pd k20_od b_ws b_hw u_la b_se b_re u_bk u_va u_su u_ce u_ho u_wy u_bt u_ps b_pt u_tg u_sn b_ip u_ic b_ah b_be b_me u_wd b_tr b_ld u_st b_wn u_id)), (b_tp, (arI G 400 v_tp)), (b_op, (arI G 400 k20_op)), (b_ar, (arI G 400 k20_ar)), (b_pi, (arI G 400 k20_pi)), (b_pa, (arI G 400 k20_pa)), (b_ws, (arJ G 8 v_ws)), (b_hw, (arJ G 4 v_hw))] ∧ va_S A s.heap H locs ∧ (0 ≤ k20_2.toInt ∧ k20_2.toInt ≤ 4) ∧ (0 ≤ k20_fr.toInt ∧ k20_fr.toInt ≤ 400) ∧ (0 ≤ k20_to.toInt ∧ k20_to.toInt ≤ 400) ∧ (0 ≤ k20_bd.toInt ∧ k20_bd.toInt ≤ 1) ∧ (0 ≤ k20_co.toInt ∧ k20_co.toInt ≤ 400) ∧ (0 ≤ k20_pd.toInt ∧ k20_pd.toInt ≤ 400) ∧ (XJ v_op v_ar k20_op k20_ar k20_pi k20_pa u_co.toInt k20_co.toInt k20_pd.toInt k20_fr.toInt) ∧ (k20_bd.toInt = 0 → TJ k20_op k20_ar k20_pi k20_pa u_co.toInt k20_co.toInt k20_pd.toInt k20_2.toInt) ∧ (k20_fr.toInt ≤ k20_to.toInt ∧ k20_to.toInt ≤ u_td.toInt) ∧ (TKs k20_so.toInt k20_fr.toInt k20_to.toInt) ∧ (u_fr.toInt ≤ k20_fr.toInt) ∧ (RQ v_tp u_td p_1 (S0X p_1 g_k v_op v_ar u_co u_le) k20_2.toInt (decide (k20_bd.toInt = 1)) k20_fr k20_to k20_so k20_wo k20_op k20_ar k20_pi k20_pa k20_co k20_pd k20_od k20_le) ∧ (k20_bd.toInt = 1 → k20_fa = k20_fr) ∧ (k20_bd.toInt = 0 → k20_fa = u_fa)) (fun (q : (Int32) × (Int32) × (Int32) × (Int32) × (Int64) × (Int32) × (Int32) × (Int32) × (Int32) × (Int32) × (Int32) × (Nat → Int32) × (Nat → Int32) × (Nat → Int32) × (Nat → Int32)) => match q with | (k20_2, k20_fr, k20_to, k20_so, k20_wo, k20_fa, k20_bd, k20_co, k20_le, k20_pd, k20_od, k20_op, k20_ar, k20_pi, k20_pa) => Int.toNat (3 * (400 - k20_fr.toInt) + 3 * (1 - k20_bd.toInt) + twt k20_2.toInt)) (0, u_fr, u_to, u_so, u_wo, u_fa, u_bd, u_co, u_le, 0, 0, v_op, v_ar, v_pi, v_pa) ⟨lv_sub hl [0, 1, 2] rfl, hP, hD, hS, ⟨by decide, by decide⟩, h_u_fr, h_u_to, ⟨by omega, by omega⟩, h_u_co, ⟨by decide, by decide⟩, xj_0 (by decide +kernel) (by omega) (by omega), fun _ => tj_0 (hj_0 (by decide +kernel)) (by decide +kernel) (no31_0 (by decide +kernel)), by omega, e_s, Int.le_refl _, rq_b (rq_begin (t := (0 : Int32).toInt) (by rw [if_pos (by omega)]; decide) (by decide +kernel) (by decide +kernel) (by omega) e_le e_tk) (decide_eq_false (by omega)), fun q9 => absurd q9 (by omega), fun _ => rfl⟩ ?_
    rintro ⟨k20_2, k20_fr, k20_to, k20_so, k20_wo, k20_fa, k20_bd, k20_co, k20_le, k20_pd, k20_od, k20_op, k20_ar, k20_pi, k20_pa⟩ ls H locs ⟨hl, hP, hD, hS, (i_167 : 0 ≤ k20_2.toInt ∧ k20_2.toInt ≤ 4), (i_168 : 0 ≤ k20_fr.toInt ∧ k20_fr.toInt ≤ 400), (i_169 : 0 ≤ k20_to.toInt ∧ k20_to.toInt ≤ 400), (i_170 : 0 ≤ k20_bd.toInt ∧ k20_bd.toInt ≤ 1), (i_171 : 0 ≤ k20_co.toInt ∧ k20_co.toInt ≤ 400), (i_172 : 0 ≤ k20_pd.toInt ∧ k20_pd.toInt ≤ 400), (i_173 : XJ v_op v_ar k20_op k20_ar k20_pi k20_pa u_co.toInt k20_co.toInt k20_pd.toInt k20_fr.toInt), (i_174 : k20_bd.toInt = 0 → TJ k20_op k20_ar k20_pi k20_pa u_co.toInt k20_co.toInt k20_pd.toInt k20_2.toInt), (i_175 : k20_fr.toInt ≤ k20_to.toInt ∧ k20_to.toInt ≤ u_td.toInt), (i_176 : TKs k20_so.toInt k20_fr.toInt k20_to.toInt), (i_177 : u_fr.toInt ≤ k20_fr.toInt), (i_178 : RQ v_tp u_td p_1 (S0X p_1 g_k v_op v_ar u_co u_le) k20_2.toInt (decide (k20_bd.toInt = 1)) k20_fr k20_to k20_so k20_wo k20_op k20_ar k20_pi k20_pa k20_co k20_pd k20_od k20_le), (i_179 : k20_bd.toInt = 1 → k20_fa = k20_fr), (i_180 : k20_bd.toInt = 0 → k20_fa = u_fa)⟩ ih_20_181
    replace hl : lv_has ls 3 [(2, .int k20_2), (0, .ref b_o), (1, .int p_1)] := hl
    refine g5_rs [(b_o, (oc12 u_th u_sa b_rf b_ro b_im b_ke u_fd b_tp u_td k20_fr k20_to k20_so k20_wo k20_fa k20_bd u_nc b_nl k20_co b_op b_ar k20_le b_pi b_pa k20_pd k20_od b_ws b_hw u_la b_se b_re u_bk u_va u_su u_ce u_ho u_wy u_bt u_ps b_pt u_tg u_sn b_ip u_ic b_ah b_be b_me u_wd b_tr b_ld u_st b_wn u_id)), (b_tp, (arI G 400 v_tp)), (b_op, (arI G 400 k20_op)), (b_ar, (arI G 400 k20_ar)), (b_pi, (arI G 400 k20_pi)), (b_pa, (arI G 400 k20_pa)), (b_ws, (arJ G 8 v_ws)), (b_hw, (arJ G 4 v_hw))] hP hD ?_
    clear hP hD
    intro hP hD
    have w0 := twt_rg k20_2.toInt
    refine lv_aload_n hx hb dX12_readExpression_20 rfl (lv_at hl 1 rfl) ?_
    refine va_get (D := G.1) (ci := 12) (v := .int k20_bd) (C := RX12) (T := TX12) (N := 52) hx hb hts inG_X12 hown hK hP 0 rfl rfl 14 (by decide +kernel) (hts _ fl_X12_205) (fun _ h9 => h9) rfl dX12_readExpression_21 ?_
    refine lv_if_ne (tgt := 76) hx hb dX12_readExpression_24 (by decide +kernel) (fun c_182 => ?_) (fun c_182 => ?_)
    ·
      have n_182 : gNe (k20_bd.toInt) (0) := g5_ne (a := k20_bd.toInt) (b := 0) rfl (by decide +kernel) c_182
      have i_182 : k20_bd.toInt ≥ 1 := by have z := g5_ne (a := k20_bd.toInt) (b := 0) (by rfl) (by decide +kernel) c_182; omega
      refine lv_aload_n hx hb dX12_readExpression_76 rfl (lv_at hl 1 rfl) ?_
      refine lv_iconst (v := 1) hx hb dX12_readExpression_77 (by decide +kernel) ?_
      obtain ⟨hPc, hDc, hFc⟩ := g5_sub3 (wc := [(b_o, (oc12 u_th u_sa b_rf b_ro b_im b_ke u_fd b_tp u_td k20_fr k20_to k20_so k20_wo k20_fa k20_bd u_nc b_nl k20_co b_op b_ar k20_le b_pi b_pa k20_pd k20_od b_ws b_hw u_la b_se b_re u_bk u_va u_su u_ce u_ho u_wy u_bt u_ps b_pt u_tg u_sn b_ip u_ic b_ah b_be b_me u_wd b_tr b_ld u_st b_wn u_id)), (b_op, (arI G 400 k20_op)), (b_ar, (arI G 400 k20_ar)), (b_pi, (arI G 400 k20_pi)), (b_pa, (arI G 400 k20_pa))]) hP hD hS hA [0, 2, 3, 4, 5] (by decide +kernel) rfl
      refine va_callv (va_runV (As := [.int 1]) (rest := []) ⟨hx, hb, hml, hown, hts⟩ (n_settleB l G b_o b_op b_ar b_pi b_pa b_rf b_ro b_im b_ke b_tp b_nl b_ws b_hw b_se b_re b_pt b_ip b_ah b_be b_me b_tr b_ld b_wn H.size u_th u_sa u_fd u_td k20_fr k20_to k20_so k20_fa k20_bd u_nc k20_co k20_le k20_pd k20_od u_la u_bk u_ce u_ho u_wy u_bt u_ps u_tg u_sn u_ic u_wd u_id 1 u_co k20_fr k20_wo u_va u_su u_st k20_op k20_ar k20_pi k20_pa v_op v_ar h_u_td i_168 i_169 i_170 h_u_nc i_171 i_172 h_u_la h_u_bk h_u_ce h_u_ho h_u_wy h_u_bt h_u_ps h_u_ic h_u_id ⟨by decide, by decide⟩ (by omega) (i_173)) (cwV 1 hts gV_X12_288 rfl rfl rfl hv_X12_settle ⟨Nat.le_of_ble_eq_true rfl, Nat.le_of_ble_eq_true rfl⟩) (g5_preV hPc hK hDc hN hT hS hFc (ci := 12) (q0 := 0) rfl rfl) rfl rfl hl.1 rfl (lv_room (Nat.le_of_ble_eq_true rfl)) dX12_readExpression_78 ⟨Nat.le_of_ble_eq_true rfl, Nat.le_of_ble_eq_true rfl⟩) hS (fun q _ h => hFc q h) hFc (fun u t H locs ht hvm hw hB hz1 hk1 hS => ?_)
      obtain ⟨hP1, hD1⟩ := hB
      have hP1 := g5_ht ht hP1
      obtain ⟨z189, z190, z191, z192, (i_183 : 0 ≤ z189.toInt ∧ z189.toInt ≤ 400), (i_184 : 0 ≤ z190.toInt ∧ z190.toInt ≤ 400), (i_185 : XJ v_op v_ar z191 z192 k20_pi k20_pa u_co.toInt z189.toInt z190.toInt k20_fr.toInt), (i_186 : S1 k20_pi k20_pd.toInt z190.toInt), (i_187 : S2 k20_pi z190.toInt (1 : Int32).toInt), (i_188 : z190.toInt ≤ k20_pd.toInt), rfl⟩ := hw
      have hJ9 := va_join (wr := [(b_tp, (arI G 400 v_tp)), (b_ws, (arJ G 8 v_ws)), (b_hw, (arJ G 4 v_hw))]) hP hD [0, 2, 3, 4, 5] [1, 6, 7] rfl rfl (by decide +kernel) (by decide +kernel) hk1 hFc hP1 hD1
      clear hP hD hPc hDc hFc ht hvm hz1 hk1 hP1 hD1
      obtain ⟨hP, hD⟩ := hJ9
      refine g5_rs [(b_tp, (arI G 400 v_tp)), (b_ws, (arJ G 8 v_ws)), (b_hw, (arJ G 4 v_hw)), (b_o, (oc12 u_th u_sa b_rf b_ro b_im b_ke u_fd b_tp u_td k20_fr k20_to k20_so k20_wo k20_fa k20_bd u_nc b_nl z189 b_op b_ar k20_le b_pi b_pa z190 k20_od b_ws b_hw u_la b_se b_re u_bk u_va u_su u_ce u_ho u_wy u_bt u_ps b_pt u_tg u_sn b_ip u_ic b_ah b_be b_me u_wd b_tr b_ld u_st b_wn u_id)), (b_op, (arI G 400 z191)), (b_ar, (arI G 400 z192)), (b_pi, (arI G 400 k20_pi)), (b_pa, (arI G 400 k20_pa))] hP hD ?_
      clear hP hD
      intro hP hD
      have hmf7 := xj_mf i_185
      exact W.vret hx hb hr (fun t ht hW => ⟨⟨[(b_o, (oc12 u_th u_sa b_rf b_ro b_im b_ke u_fd b_tp u_td k20_fr k20_to k20_so k20_wo k20_fa k20_bd u_nc b_nl z189 b_op b_ar k20_le b_pi b_pa z190 k20_od b_ws b_hw u_la b_se b_re u_bk u_va u_su u_ce u_ho u_wy u_bt u_ps b_pt u_tg u_sn b_ip u_ic b_ah b_be b_me u_wd b_tr b_ld u_st b_wn u_id)), (b_tp, (arI G 400 v_tp)), (b_op, (arI G 400 z191)), (b_ar, (arI G 400 z192)), (b_pi, (arI G 400 k20_pi)), (b_pa, (arI G 400 k20_pa)), (b_ws, (arJ G 8 v_ws)), (b_hw, (arJ G 4 v_hw))], rfl, ⟨k20_fr, k20_to, k20_so, k20_wo, k20_fa, k20_bd, z189, k20_le, z190, k20_od, z191, z192, k20_pi, k20_pa, i_168, i_169, i_170, i_183, i_184, by omega, i_176, xj_kp i_185, by omega, fun q9 => absurd q9 (by omega), rq_endB (by omega) e_kn e_k1 e_kc (by omega) (rq_b i_178 (decide_eq_true (by omega)).symm), i_179, i_180, rq_le i_178, rfl⟩, by rw [ht]; exact hP.sub [3, 0, 4, 5, 6, 7, 1, 2] rfl, hD.sub [3, 0, 4, 5, 6, 7, 1, 2] (by decide +kernel) rfl⟩, hS.F ht⟩) hS.2.2 dX12_readExpression_81
    ·
      have i_182 : k20_bd.toInt = 0 := g5_neN (a := k20_bd.toInt) (b := 0) rfl (by decide +kernel) c_182
      refine lv_iload_n hx hb dX12_readExpression_27 rfl (lv_at hl 0 rfl) ?_
      refine lv_iconst (v := 4) hx hb dX12_readExpression_28 (by decide +kernel) ?_
      refine lv_icmp_eq (tgt := 76) hx hb dX12_readExpression_29 (by decide +kernel) (fun c_193 => ?_) (fun c_193 => ?_)
      ·
        have i_193 : k20_2.toInt = 4 := g5_eq (a := k20_2.toInt) (b := 4) rfl (by decide +kernel) c_193
        have hE_194 : HJ k20_op k20_ar k20_pi k20_pa u_co.toInt k20_co.toInt k20_pd.toInt 1 := tj_d1 (i_174 (by omega)) (by omega)
        refine lv_aload_n hx hb dX12_readExpression_76 rfl (lv_at hl 1 rfl) ?_
        refine lv_iconst (v := 1) hx hb dX12_readExpression_77 (by decide +kernel) ?_
        obtain ⟨hPc, hDc, hFc⟩ := g5_sub3 (wc := [(b_o, (oc12 u_th u_sa b_rf b_ro b_im b_ke u_fd b_tp u_td k20_fr k20_to k20_so k20_wo k20_fa k20_bd u_nc b_nl k20_co b_op b_ar k20_le b_pi b_pa k20_pd k20_od b_ws b_hw u_la b_se b_re u_bk u_va u_su u_ce u_ho u_wy u_bt u_ps b_pt u_tg u_sn b_ip u_ic b_ah b_be b_me u_wd b_tr b_ld u_st b_wn u_id)), (b_op, (arI G 400 k20_op)), (b_ar, (arI G 400 k20_ar)), (b_pi, (arI G 400 k20_pi)), (b_pa, (arI G 400 k20_pa))]) hP hD hS hA [0, 2, 3, 4, 5] (by decide +kernel) rfl
        refine va_callv (va_runV (As := [.int 1]) (rest := []) ⟨hx, hb, hml, hown, hts⟩ (n_settleX l G b_o b_op b_ar b_pi b_pa b_rf b_ro b_im b_ke b_tp b_nl b_ws b_hw b_se b_re b_pt b_ip b_ah b_be b_me b_tr b_ld b_wn H.size u_th u_sa u_fd u_td k20_fr k20_to k20_so k20_fa k20_bd u_nc k20_co k20_le k20_pd k20_od u_la u_bk u_ce u_ho u_wy u_bt u_ps u_tg u_sn u_ic u_wd u_id 1 u_co k20_fr k20_wo u_va u_su u_st k20_op k20_ar k20_pi k20_pa v_op v_ar h_u_td i_168 i_169 i_170 h_u_nc i_171 i_172 h_u_la h_u_bk h_u_ce h_u_ho h_u_wy h_u_bt h_u_ps h_u_ic h_u_id ⟨by decide, by decide⟩ (by omega) (i_173) (hE_194)) (cwV 1 hts gV_X12_288 rfl rfl rfl hv_X12_settle ⟨Nat.le_of_ble_eq_true rfl, Nat.le_of_ble_eq_true rfl⟩) (g5_preV hPc hK hDc hN hT hS hFc (ci := 12) (q0 := 0) rfl rfl) rfl rfl hl.1 rfl (lv_room (Nat.le_of_ble_eq_true rfl)) dX12_readExpression_78 ⟨Nat.le_of_ble_eq_true rfl, Nat.le_of_ble_eq_true rfl⟩) hS (fun q _ h => hFc q h) hFc (fun u t H locs ht hvm hw hB hz1 hk1 hS => ?_)
        obtain ⟨hP1, hD1⟩ := hB
        have hP1 := g5_ht ht hP1
        obtain ⟨z203, z204, z205, z206, (i_195 : 0 ≤ z203.toInt ∧ z203.toInt ≤ 400), (i_196 : 0 ≤ z204.toInt ∧ z204.toInt ≤ 400), (i_197 : XJ v_op v_ar z205 z206 k20_pi k20_pa u_co.toInt z203.toInt z204.toInt k20_fr.toInt), (i_198 : HJ z205 z206 k20_pi k20_pa u_co.toInt z203.toInt z204.toInt 1), (i_199 : stl (1 : Int32).toInt (plL k20_pi k20_pa k20_pd.toInt.toNat) (k20_op, k20_ar, k20_co.toInt.toNat) = (plL k20_pi k20_pa z204.toInt.toNat, (z205, z206, z203.toInt.toNat))), (i_200 : S1 k20_pi k20_pd.toInt z204.toInt), (i_201 : S2 k20_pi z204.toInt (1 : Int32).toInt), (i_202 : z204.toInt ≤ k20_pd.toInt), rfl⟩ := hw
        have hJ9 := va_join (wr := [(b_tp, (arI G 400 v_tp)), (b_ws, (arJ G 8 v_ws)), (b_hw, (arJ G 4 v_hw))]) hP hD [0, 2, 3, 4, 5] [1, 6, 7] rfl rfl (by decide +kernel) (by decide +kernel) hk1 hFc hP1 hD1
        clear hP hD hPc hDc hFc ht hvm hz1 hk1 hP1 hD1
        obtain ⟨hP, hD⟩ := hJ9
        refine g5_rs [(b_tp, (arI G 400 v_tp)), (b_ws, (arJ G 8 v_ws)), (b_hw, (arJ G 4 v_hw)), (b_o, (oc12 u_th u_sa b_rf b_ro b_im b_ke u_fd b_tp u_td k20_fr k20_to k20_so k20_wo k20_fa k20_bd u_nc b_nl z203 b_op b_ar k20_le b_pi b_pa z204 k20_od b_ws b_hw u_la b_se b_re u_bk u_va u_su u_ce u_ho u_wy u_bt u_ps b_pt u_tg u_sn b_ip u_ic b_ah b_be b_me u_wd b_tr b_ld u_st b_wn u_id)), (b_op, (arI G 400 z205)), (b_ar, (arI G 400 z206)), (b_pi, (arI G 400 k20_pi)), (b_pa, (arI G 400 k20_pa))] hP hD ?_
        clear hP hD
        intro hP hD
        have hmf7 := xj_mf i_197
        exact W.vret hx hb hr (fun t ht hW => ⟨⟨[(b_o, (oc12 u_th u_sa b_rf b_ro b_im b_ke u_fd b_tp u_td k20_fr k20_to k20_so k20_wo k20_fa k20_bd u_nc b_nl z203 b_op b_ar k20_le b_pi b_pa z204 k20_od b_ws b_hw u_la b_se b_re u_bk u_va u_su u_ce u_ho u_wy u_bt u_ps b_pt u_tg u_sn b_ip u_ic b_ah b_be b_me u_wd b_tr b_ld u_st b_wn u_id)), (b_tp, (arI G 400 v_tp)), (b_op, (arI G 400 z205)), (b_ar, (arI G 400 z206)), (b_pi, (arI G 400 k20_pi)), (b_pa, (arI G 400 k20_pa)), (b_ws, (arJ G 8 v_ws)), (b_hw, (arJ G 4 v_hw))], rfl, ⟨k20_fr, k20_to, k20_so, k20_wo, k20_fa, k20_bd, z203, k20_le, z204, k20_od, z205, z206, k20_pi, k20_pa, i_168, i_169, i_170, i_195, i_196, by omega, i_176, xj_kp i_197, by omega, fun _ => cdN_of i_198 (end_0 ((i_174 (by omega)).2.2 (by omega)) (by omega) (by omega) (by decide +kernel) i_201) (by omega), rq_end (by omega) e_kn e_k1 e_kc (by omega) (by omega) (by omega) (rq_b (rq_t i_178 (by omega)) (decide_eq_false (by omega)).symm) (stl_c i_199 (by decide +kernel)), i_179, i_180, rq_le i_178, rfl⟩, by rw [ht]; exact hP.sub [3, 0, 4, 5, 6, 7, 1, 2] rfl, hD.sub [3, 0, 4, 5, 6, 7, 1, 2] (by decide +kernel) rfl⟩, hS.F ht⟩) hS.2.2 dX12_readExpression_81
      ·
        have n_193 : gNe (k20_2.toInt) (4) := g5_eqN (a := k20_2.toInt) (b := 4) rfl (by decide +kernel) c_193
        have i_193 : k20_2.toInt ≤ 3 := by have z := g5_eqN (a := k20_2.toInt) (b := 4) (by rfl) (by decide +kernel) c_193; omega
        refine lv_iload_n hx hb dX12_readExpression_32 rfl (lv_at hl 0 rfl) ?_
        refine lv_if_ne (tgt := 43) hx hb dX12_readExpression_33 (by decide +kernel) (fun c_207 => ?_) (fun c_207 => ?_)
        ·
          have n_207 : gNe (k20_2.toInt) (0) := g5_ne (a := k20_2.toInt) (b := 0) rfl (by decide +kernel) c_207
          have i_207 : k20_2.toInt ≥ 1 := by have z := g5_ne (a := k20_2.toInt) (b := 0) (by rfl) (by decide +kernel) c_207; omega
          refine lv_iload_n hx hb dX12_readExpression_43 rfl (lv_at hl 0 rfl) ?_
          refine lv_iconst (v := 1) hx hb dX12_readExpression_44 (by decide +kernel) ?_
          refine lv_icmp_ne (tgt := 55) hx hb dX12_readExpression_45 (by decide +kernel) (fun c_208 => ?_) (fun c_208 => ?_)
          ·
            have n_208 : gNe (k20_2.toInt) (1) := g5_ne (a := k20_2.toInt) (b := 1) rfl (by decide +kernel) c_208
            have i_208 : k20_2.toInt ≥ 2 := by have z := g5_ne (a := k20_2.toInt) (b := 1) (by rfl) (by decide +kernel) c_208; omega
            refine lv_iload_n hx hb dX12_readExpression_55 rfl (lv_at hl 0 rfl) ?_
            refine lv_iconst (v := 3) hx hb dX12_readExpression_56 (by decide +kernel) ?_
            refine lv_icmp_ne (tgt := 68) hx hb dX12_readExpression_57 (by decide +kernel) (fun c_209 => ?_) (fun c_209 => ?_)
            ·
              have n_209 : gNe (k20_2.toInt) (3) := g5_ne (a := k20_2.toInt) (b := 3) rfl (by decide +kernel) c_209
              have i_209 : k20_2.toInt ≤ 2 := by have z := g5_ne (a := k20_2.toInt) (b := 3) (by rfl) (by decide +kernel) c_209; omega
              have w2 : twt k20_2.toInt = 1 := twt_2 (by omega)
              have hE_210 : TJ k20_op k20_ar k20_pi k20_pa u_co.toInt k20_co.toInt k20_pd.toInt 2 := by have q9 := i_174 (by omega); rw [show k20_2.toInt = 2 by omega] at q9; exact q9
              have hE_211 : RQ v_tp u_td p_1 (S0X p_1 g_k v_op v_ar u_co u_le) 2 false k20_fr k20_to k20_so k20_wo k20_op k20_ar k20_pi k20_pa k20_co k20_pd k20_od k20_le := rq_b (rq_t i_178 (by omega)) (decide_eq_false (by omega)).symm
              refine lv_aload_n hx hb dX12_readExpression_68 rfl (lv_at hl 1 rfl) ?_
              obtain ⟨hPc, hDc, hFc⟩ := g5_sub3 (wc := [(b_o, (oc12 u_th u_sa b_rf b_ro b_im b_ke u_fd b_tp u_td k20_fr k20_to k20_so k20_wo k20_fa k20_bd u_nc b_nl k20_co b_op b_ar k20_le b_pi b_pa k20_pd k20_od b_ws b_hw u_la b_se b_re u_bk u_va u_su u_ce u_ho u_wy u_bt u_ps b_pt u_tg u_sn b_ip u_ic b_ah b_be b_me u_wd b_tr b_ld u_st b_wn u_id)), (b_tp, (arI G 400 v_tp)), (b_op, (arI G 400 k20_op)), (b_ar, (arI G 400 k20_ar)), (b_pi, (arI G 400 k20_pi)), (b_pa, (arI G 400 k20_pa)), (b_ws, (arJ G 8 v_ws)), (b_hw, (arJ G 4 v_hw))]) hP hD hS hA [0, 1, 2, 3, 4, 5, 6, 7] (by decide +kernel) rfl
              refine va_calli (va_runV (As := []) (rest := []) ⟨hx, hb, hml, hown, hts⟩ (n_behindTestX l G b_o b_tp b_op b_ar b_pi b_pa b_ws b_hw b_rf b_ro b_im b_ke b_nl b_se b_re b_pt b_ip b_ah b_be b_me b_tr b_ld b_wn H.size u_th u_sa u_fd u_td k20_fr k20_to k20_so k20_fa k20_bd u_nc k20_co k20_le k20_pd k20_od u_la u_bk u_ce u_ho u_wy u_bt u_ps u_tg u_sn u_ic u_wd u_id u_co p_1 u_le k20_wo u_va u_su u_st v_tp k20_op k20_ar k20_pi k20_pa v_ws v_hw v_op v_ar g_k h_u_td i_168 i_169 ⟨by omega, by omega⟩ h_u_nc i_171 i_172 h_u_la h_u_bk h_u_ce h_u_ho h_u_wy h_u_bt h_u_ps h_u_ic h_u_id (i_175) (i_176) (i_173) (hE_210) (e_tp) (e_ws) (hE_211)) (cwV 0 hts gV_X12_309 rfl rfl rfl hv_X12_behindTest ⟨Nat.le_of_ble_eq_true rfl, Nat.le_of_ble_eq_true rfl⟩) (g5_preV hPc hK hDc hN hT hS hFc (ci := 12) (q0 := 0) rfl rfl) rfl rfl hl.1 rfl (lv_room (Nat.le_of_ble_eq_true rfl)) dX12_readExpression_69 ⟨Nat.le_of_ble_eq_true rfl, Nat.le_of_ble_eq_true rfl⟩) hS (fun q _ h => hFc q h) hFc (fun r u t H locs ht hvm hw hB hz1 hk1 hS => ?_)
              obtain ⟨hP1, hD1⟩ := hB
              have hP1 := g5_ht ht hP1
              rcases hw with ⟨z214, (i_212 : 0 ≤ z214.toInt ∧ z214.toInt ≤ 4), (i_213 : RQ v_tp u_td p_1 (S0X p_1 g_k v_op v_ar u_co u_le) z214.toInt true k20_fr k20_to k20_so k20_wo k20_op k20_ar k20_pi k20_pa k20_co k20_pd k20_od k20_le), y215, rfl⟩ | ⟨z227, z228, z229, z230, z231, z232, z233, z234, z235, z236, z237, z238, (i_216 : 0 ≤ z228.toInt ∧ z228.toInt ≤ 400), (i_217 : 0 ≤ z229.toInt ∧ z229.toInt ≤ 400), (i_218 : 0 ≤ z232.toInt ∧ z232.toInt ≤ 400), (i_219 : 0 ≤ z233.toInt ∧ z233.toInt ≤ 400), (i_220 : 0 ≤ z227.toInt ∧ z227.toInt ≤ 4), (i_221 : k20_fr.toInt ≤ z228.toInt ∧ z228.toInt ≤ z229.toInt ∧ z229.toInt ≤ u_td.toInt), (i_222 : TKs z230.toInt z228.toInt z229.toInt), (i_223 : XJ v_op v_ar z235 z236 z237 z238 u_co.toInt z232.toInt z233.toInt z228.toInt), (i_224 : TJ z235 z236 z237 z238 u_co.toInt z232.toInt z233.toInt z227.toInt), (i_225 : twt z227.toInt + 1 ≤ 1 + 3 * (z228.toInt - k20_fr.toInt)), (i_226 : RQ v_tp u_td p_1 (S0X p_1 g_k v_op v_ar u_co u_le) z227.toInt false z228 z229 z230 z231 z235 z236 z237 z238 z232 z233 z234 k20_le), y239, rfl⟩
              ·
                have hJ9 := va_join (wr := []) hP hD [0, 1, 2, 3, 4, 5, 6, 7] [] rfl rfl (by decide +kernel) (by decide +kernel) hk1 hFc hP1 hD1
                clear hP hD hPc hDc hFc ht hvm hz1 hk1 hP1 hD1
                obtain ⟨hP, hD⟩ := hJ9
                refine g5_rs [(b_o, (oc12 u_th u_sa b_rf b_ro b_im b_ke u_fd b_tp u_td k20_fr k20_to k20_so k20_wo k20_fr 1 u_nc b_nl k20_co b_op b_ar k20_le b_pi b_pa k20_pd k20_od b_ws b_hw u_la b_se b_re u_bk u_va u_su u_ce u_ho u_wy u_bt u_ps b_pt u_tg u_sn b_ip u_ic b_ah b_be b_me u_wd b_tr b_ld u_st b_wn u_id)), (b_tp, (arI G 400 v_tp)), (b_op, (arI G 400 k20_op)), (b_ar, (arI G 400 k20_ar)), (b_pi, (arI G 400 k20_pi)), (b_pa, (arI G 400 k20_pa)), (b_ws, (arJ G 8 v_ws)), (b_hw, (arJ G 4 v_hw))] hP hD ?_
                clear hP hD
                intro hP hD
                refine g5_ti (v := z214) y215 ?_
                have w1 := twt_rg z214.toInt
                refine lv_istore_n (lv' := [(2, .int z214), (0, .ref b_o), (1, .int p_1)]) hx hb dX12_readExpression_72 rfl hl (by decide +kernel) rfl ?_
                clear hl
                intro ls hl
                refine lv_goto (tgt := 20) hx hb dX12_readExpression_73 (by decide +kernel) ?_
                exact ih_20_181 (z214, k20_fr, k20_to, k20_so, k20_wo, k20_fr, 1, k20_co, k20_le, k20_pd, k20_od, k20_op, k20_ar, k20_pi, k20_pa) ls H locs (show Int.toNat (3 * (400 - k20_fr.toInt) + 3 * (1 - (1 : Int32).toInt) + twt z214.toInt) < Int.toNat (3 * (400 - k20_fr.toInt) + 3 * (1 - k20_bd.toInt) + twt k20_2.toInt) by have zc_k20_bd : (1 : Int32).toInt = 1 := (by decide +kernel); omega) ⟨lv_sub hl [0, 1, 2] rfl, hP, hD, hS, i_212, i_168, i_169, ⟨by decide, by decide⟩, i_171, i_172, i_173, fun q9 => absurd q9 (by decide +kernel), by omega, i_176, by omega, rq_b i_213 (by decide +kernel), fun _ => rfl, fun q9 => absurd q9 (by decide +kernel)⟩
              ·
                have hJ9 := va_join (wr := []) hP hD [0, 1, 2, 3, 4, 5, 6, 7] [] rfl rfl (by decide +kernel) (by decide +kernel) hk1 hFc hP1 hD1
                clear hP hD hPc hDc hFc ht hvm hz1 hk1 hP1 hD1
                obtain ⟨hP, hD⟩ := hJ9
                refine g5_rs [(b_o, (oc12 u_th u_sa b_rf b_ro b_im b_ke u_fd b_tp u_td z228 z229 z230 z231 k20_fa k20_bd u_nc b_nl z232 b_op b_ar k20_le b_pi b_pa z233 z234 b_ws b_hw u_la b_se b_re u_bk u_va u_su u_ce u_ho u_wy u_bt u_ps b_pt u_tg u_sn b_ip u_ic b_ah b_be b_me u_wd b_tr b_ld u_st b_wn u_id)), (b_tp, (arI G 400 v_tp)), (b_op, (arI G 400 z235)), (b_ar, (arI G 400 z236)), (b_pi, (arI G 400 z237)), (b_pa, (arI G 400 z238)), (b_ws, (arJ G 8 v_ws)), (b_hw, (arJ G 4 v_hw))] hP hD ?_
                clear hP hD
                intro hP hD
                refine g5_ti (v := z227) y239 ?_
                have w1 := twt_rg z227.toInt
                refine lv_istore_n (lv' := [(2, .int z227), (0, .ref b_o), (1, .int p_1)]) hx hb dX12_readExpression_72 rfl hl (by decide +kernel) rfl ?_
                clear hl
                intro ls hl
                refine lv_goto (tgt := 20) hx hb dX12_readExpression_73 (by decide +kernel) ?_
                exact ih_20_181 (z227, z228, z229, z230, z231, k20_fa, k20_bd, z232, k20_le, z233, z234, z235, z236, z237, z238) ls H locs (show Int.toNat (3 * (400 - z228.toInt) + 3 * (1 - k20_bd.toInt) + twt z227.toInt) < Int.toNat (3 * (400 - k20_fr.toInt) + 3 * (1 - k20_bd.toInt) + twt k20_2.toInt) by omega) ⟨lv_sub hl [0, 1, 2] rfl, hP, hD, hS, i_220, i_216, i_217, i_170, i_218, i_219, i_223, fun _ => i_224, by omega, i_222, by omega, rq_b i_226 (decide_eq_false (by omega)), fun q9 => absurd q9 (by omega), fun _ => i_180 (by omega)⟩
            ·
              have i_209 : k20_2.toInt = 3 := g5_neN (a := k20_2.toInt) (b := 3) rfl (by decide +kernel) c_209
              have w2 : twt k20_2.toInt = 2 := twt_3 (by omega)
              have hE_240 : TJ k20_op k20_ar k20_pi k20_pa u_co.toInt k20_co.toInt k20_pd.toInt 3 := by have q9 := i_174 (by omega); rw [show k20_2.toInt = 3 by omega] at q9; exact q9
              have hE_241 : RQ v_tp u_td p_1 (S0X p_1 g_k v_op v_ar u_co u_le) 3 false k20_fr k20_to k20_so k20_wo k20_op k20_ar k20_pi k20_pa k20_co k20_pd k20_od k20_le := rq_b (rq_t i_178 (by omega)) (decide_eq_false (by omega)).symm
              refine lv_aload_n hx hb dX12_readExpression_60 rfl (lv_at hl 1 rfl) ?_
              refine lv_iload_n hx hb dX12_readExpression_61 rfl (lv_at hl 2 rfl) ?_
              obtain ⟨hPc, hDc, hFc⟩ := g5_sub3 (wc := [(b_o, (oc12 u_th u_sa b_rf b_ro b_im b_ke u_fd b_tp u_td k20_fr k20_to k20_so k20_wo k20_fa k20_bd u_nc b_nl k20_co b_op b_ar k20_le b_pi b_pa k20_pd k20_od b_ws b_hw u_la b_se b_re u_bk u_va u_su u_ce u_ho u_wy u_bt u_ps b_pt u_tg u_sn b_ip u_ic b_ah b_be b_me u_wd b_tr b_ld u_st b_wn u_id)), (b_tp, (arI G 400 v_tp)), (b_op, (arI G 400 k20_op)), (b_ar, (arI G 400 k20_ar)), (b_pi, (arI G 400 k20_pi)), (b_pa, (arI G 400 k20_pa)), (b_ws, (arJ G 8 v_ws)), (b_hw, (arJ G 4 v_hw))]) hP hD hS hA [0, 1, 2, 3, 4, 5, 6, 7] (by decide +kernel) rfl
              refine va_calli (va_runV (As := [.int p_1]) (rest := []) ⟨hx, hb, hml, hown, hts⟩ (n_behindSumX l G b_o b_tp b_op b_ar b_pi b_pa b_ws b_hw b_rf b_ro b_im b_ke b_nl b_se b_re b_pt b_ip b_ah b_be b_me b_tr b_ld b_wn H.size u_th u_sa u_fd u_td k20_fr k20_to k20_so k20_fa k20_bd u_nc k20_co k20_le k20_pd k20_od u_la u_bk u_ce u_ho u_wy u_bt u_ps u_tg u_sn u_ic u_wd u_id p_1 u_co p_1 u_le k20_wo u_va u_su u_st v_tp k20_op k20_ar k20_pi k20_pa v_ws v_hw v_op v_ar g_k h_u_td i_168 i_169 ⟨by omega, by omega⟩ h_u_nc i_171 i_172 h_u_la h_u_bk h_u_ce h_u_ho h_u_wy h_u_bt h_u_ps h_u_ic h_u_id h_p_1 (i_175) (i_176) (i_173) (hE_240) (e_tp) (e_ws) (hE_241) (by omega)) (cwV 1 hts gV_X12_305 rfl rfl rfl hv_X12_behindSum ⟨Nat.le_of_ble_eq_true rfl, Nat.le_of_ble_eq_true rfl⟩) (g5_preV hPc hK hDc hN hT hS hFc (ci := 12) (q0 := 0) rfl rfl) rfl rfl hl.1 rfl (lv_room (Nat.le_of_ble_eq_true rfl)) dX12_readExpression_62 ⟨Nat.le_of_ble_eq_true rfl, Nat.le_of_ble_eq_true rfl⟩) hS (fun q _ h => hFc q h) hFc (fun r u t H locs ht hvm hw hB hz1 hk1 hS => ?_)
              obtain ⟨hP1, hD1⟩ := hB
              have hP1 := g5_ht ht hP1
              rcases hw with ⟨z244, (i_242 : 0 ≤ z244.toInt ∧ z244.toInt ≤ 4), (i_243 : RQ v_tp u_td p_1 (S0X p_1 g_k v_op v_ar u_co u_le) z244.toInt true k20_fr k20_to k20_so k20_wo k20_op k20_ar k20_pi k20_pa k20_co k20_pd k20_od k20_le), y245, rfl⟩ | ⟨z257, z258, z259, z260, z261, z262, z263, z264, z265, z266, z267, z268, (i_246 : 0 ≤ z258.toInt ∧ z258.toInt ≤ 400), (i_247 : 0 ≤ z259.toInt ∧ z259.toInt ≤ 400), (i_248 : 0 ≤ z262.toInt ∧ z262.toInt ≤ 400), (i_249 : 0 ≤ z263.toInt ∧ z263.toInt ≤ 400), (i_250 : 0 ≤ z257.toInt ∧ z257.toInt ≤ 4), (i_251 : k20_fr.toInt ≤ z258.toInt ∧ z258.toInt ≤ z259.toInt ∧ z259.toInt ≤ u_td.toInt), (i_252 : TKs z260.toInt z258.toInt z259.toInt), (i_253 : XJ v_op v_ar z265 z266 z267 z268 u_co.toInt z262.toInt z263.toInt z258.toInt), (i_254 : TJ z265 z266 z267 z268 u_co.toInt z262.toInt z263.toInt z257.toInt), (i_255 : twt z257.toInt + 1 ≤ 2 + 3 * (z258.toInt - k20_fr.toInt)), (i_256 : RQ v_tp u_td p_1 (S0X p_1 g_k v_op v_ar u_co u_le) z257.toInt false z258 z259 z260 z261 z265 z266 z267 z268 z262 z263 z264 k20_le), y269, rfl⟩
              ·
                have hJ9 := va_join (wr := []) hP hD [0, 1, 2, 3, 4, 5, 6, 7] [] rfl rfl (by decide +kernel) (by decide +kernel) hk1 hFc hP1 hD1
                clear hP hD hPc hDc hFc ht hvm hz1 hk1 hP1 hD1
                obtain ⟨hP, hD⟩ := hJ9
                refine g5_rs [(b_o, (oc12 u_th u_sa b_rf b_ro b_im b_ke u_fd b_tp u_td k20_fr k20_to k20_so k20_wo k20_fr 1 u_nc b_nl k20_co b_op b_ar k20_le b_pi b_pa k20_pd k20_od b_ws b_hw u_la b_se b_re u_bk u_va u_su u_ce u_ho u_wy u_bt u_ps b_pt u_tg u_sn b_ip u_ic b_ah b_be b_me u_wd b_tr b_ld u_st b_wn u_id)), (b_tp, (arI G 400 v_tp)), (b_op, (arI G 400 k20_op)), (b_ar, (arI G 400 k20_ar)), (b_pi, (arI G 400 k20_pi)), (b_pa, (arI G 400 k20_pa)), (b_ws, (arJ G 8 v_ws)), (b_hw, (arJ G 4 v_hw))] hP hD ?_
                clear hP hD
                intro hP hD
                refine g5_ti (v := z244) y245 ?_
                refine lv_goto (tgt := 72) hx hb dX12_readExpression_65 (by decide +kernel) ?_
                have w1 := twt_rg z244.toInt
                refine lv_istore_n (lv' := [(2, .int z244), (0, .ref b_o), (1, .int p_1)]) hx hb dX12_readExpression_72 rfl hl (by decide +kernel) rfl ?_
                clear hl
                intro ls hl
                refine lv_goto (tgt := 20) hx hb dX12_readExpression_73 (by decide +kernel) ?_
                exact ih_20_181 (z244, k20_fr, k20_to, k20_so, k20_wo, k20_fr, 1, k20_co, k20_le, k20_pd, k20_od, k20_op, k20_ar, k20_pi, k20_pa) ls H locs (show Int.toNat (3 * (400 - k20_fr.toInt) + 3 * (1 - (1 : Int32).toInt) + twt z244.toInt) < Int.toNat (3 * (400 - k20_fr.toInt) + 3 * (1 - k20_bd.toInt) + twt k20_2.toInt) by have zc_k20_bd : (1 : Int32).toInt = 1 := (by decide +kernel); omega) ⟨lv_sub hl [0, 1, 2] rfl, hP, hD, hS, i_242, i_168, i_169, ⟨by decide, by decide⟩, i_171, i_172, i_173, fun q9 => absurd q9 (by decide +kernel), by omega, i_176, by omega, rq_b i_243 (by decide +kernel), fun _ => rfl, fun q9 => absurd q9 (by decide +kernel)⟩
              ·
                have hJ9 := va_join (wr := []) hP hD [0, 1, 2, 3, 4, 5, 6, 7] [] rfl rfl (by decide +kernel) (by decide +kernel) hk1 hFc hP1 hD1
                clear hP hD hPc hDc hFc ht hvm hz1 hk1 hP1 hD1
                obtain ⟨hP, hD⟩ := hJ9
                refine g5_rs [(b_o, (oc12 u_th u_sa b_rf b_ro b_im b_ke u_fd b_tp u_td z258 z259 z260 z261 k20_fa k20_bd u_nc b_nl z262 b_op b_ar k20_le b_pi b_pa z263 z264 b_ws b_hw u_la b_se b_re u_bk u_va u_su u_ce u_ho u_wy u_bt u_ps b_pt u_tg u_sn b_ip u_ic b_ah b_be b_me u_wd b_tr b_ld u_st b_wn u_id)), (b_tp, (arI G 400 v_tp)), (b_op, (arI G 400 z265)), (b_ar, (arI G 400 z266)), (b_pi, (arI G 400 z267)), (b_pa, (arI G 400 z268)), (b_ws, (arJ G 8 v_ws)), (b_hw, (arJ G 4 v_hw))] hP hD ?_
                clear hP hD
                intro hP hD
                refine g5_ti (v := z257) y269 ?_
                refine lv_goto (tgt := 72) hx hb dX12_readExpression_65 (by decide +kernel) ?_
                have w1 := twt_rg z257.toInt
                refine lv_istore_n (lv' := [(2, .int z257), (0, .ref b_o), (1, .int p_1)]) hx hb dX12_readExpression_72 rfl hl (by decide +kernel) rfl ?_
                clear hl
                intro ls hl
                refine lv_goto (tgt := 20) hx hb dX12_readExpression_73 (by decide +kernel) ?_
                exact ih_20_181 (z257, z258, z259, z260, z261, k20_fa, k20_bd, z262, k20_le, z263, z264, z265, z266, z267, z268) ls H locs (show Int.toNat (3 * (400 - z258.toInt) + 3 * (1 - k20_bd.toInt) + twt z257.toInt) < Int.toNat (3 * (400 - k20_fr.toInt) + 3 * (1 - k20_bd.toInt) + twt k20_2.toInt) by omega) ⟨lv_sub hl [0, 1, 2] rfl, hP, hD, hS, i_250, i_246, i_247, i_170, i_248, i_249, i_253, fun _ => i_254, by omega, i_252, by omega, rq_b i_256 (decide_eq_false (by omega)), fun q9 => absurd q9 (by omega), fun _ => i_180 (by omega)⟩
          ·
            have i_208 : k20_2.toInt = 1 := g5_neN (a := k20_2.toInt) (b := 1) rfl (by decide +kernel) c_208
            have w2 : twt k20_2.toInt = 0 := twt_0 (Or.inr (Or.inl (by omega)))
            have hE_270 : TJ k20_op k20_ar k20_pi k20_pa u_co.toInt k20_co.toInt k20_pd.toInt 1 := by have q9 := i_174 (by omega); rw [show k20_2.toInt = 1 by omega] at q9; exact q9
            have hE_271 : RQ1 v_tp u_td p_1 (S0X p_1 g_k v_op v_ar u_co u_le) k20_fr k20_to k20_so k20_wo k20_op k20_ar k20_pi k20_pa k20_co k20_pd k20_od k20_le := rq_1 (rq_b (rq_t i_178 (by omega)) (decide_eq_false (by omega)).symm)
            refine lv_aload_n hx hb dX12_readExpression_48 rfl (lv_at hl 1 rfl) ?_
            obtain ⟨hPc, hDc, hFc⟩ := g5_sub3 (wc := [(b_o, (oc12 u_th u_sa b_rf b_ro b_im b_ke u_fd b_tp u_td k20_fr k20_to k20_so k20_wo k20_fa k20_bd u_nc b_nl k20_co b_op b_ar k20_le b_pi b_pa k20_pd k20_od b_ws b_hw u_la b_se b_re u_bk u_va u_su u_ce u_ho u_wy u_bt u_ps b_pt u_tg u_sn b_ip u_ic b_ah b_be b_me u_wd b_tr b_ld u_st b_wn u_id)), (b_tp, (arI G 400 v_tp)), (b_op, (arI G 400 k20_op)), (b_ar, (arI G 400 k20_ar)), (b_pi, (arI G 400 k20_pi)), (b_pa, (arI G 400 k20_pa)), (b_ws, (arJ G 8 v_ws)), (b_hw, (arJ G 4 v_hw))]) hP hD hS hA [0, 1, 2, 3, 4, 5, 6, 7] (by decide +kernel) rfl
            refine va_calli (va_runV (As := []) (rest := []) ⟨hx, hb, hml, hown, hts⟩ (n_readPartX l G b_o b_tp b_op b_ar b_pi b_pa b_ws b_hw b_rf b_ro b_im b_ke b_nl b_se b_re b_pt b_ip b_ah b_be b_me b_tr b_ld b_wn H.size u_th u_sa u_fd u_td k20_fr k20_to k20_so k20_fa k20_bd u_nc k20_co k20_le k20_pd k20_od u_la u_bk u_ce u_ho u_wy u_bt u_ps u_tg u_sn u_ic u_wd u_id u_co p_1 u_le k20_wo u_va u_su u_st v_tp k20_op k20_ar k20_pi k20_pa v_ws v_hw v_op v_ar g_k h_u_td i_168 i_169 ⟨by omega, by omega⟩ h_u_nc i_171 i_172 h_u_la h_u_bk h_u_ce h_u_ho h_u_wy h_u_bt h_u_ps h_u_ic h_u_id (i_175) (i_176) (i_173) (hE_270) (e_tp) (e_ws) (hE_271)) (cwV 0 hts gV_X12_285 rfl rfl rfl hv_X12_readPart ⟨Nat.le_of_ble_eq_true rfl, Nat.le_of_ble_eq_true rfl⟩) (g5_preV hPc hK hDc hN hT hS hFc (ci := 12) (q0 := 0) rfl rfl) rfl rfl hl.1 rfl (lv_room (Nat.le_of_ble_eq_true rfl)) dX12_readExpression_49 ⟨Nat.le_of_ble_eq_true rfl, Nat.le_of_ble_eq_true rfl⟩) hS (fun q _ h => hFc q h) hFc (fun r u t H locs ht hvm hw hB hz1 hk1 hS => ?_)
            obtain ⟨hP1, hD1⟩ := hB
            have hP1 := g5_ht ht hP1
            rcases hw with ⟨z274, (i_272 : 0 ≤ z274.toInt ∧ z274.toInt ≤ 4), (i_273 : RQ v_tp u_td p_1 (S0X p_1 g_k v_op v_ar u_co u_le) z274.toInt true k20_fr k20_to k20_so k20_wo k20_op k20_ar k20_pi k20_pa k20_co k20_pd k20_od k20_le), y275, rfl⟩ | ⟨z287, z288, z289, z290, z291, z292, z293, z294, z295, z296, z297, z298, z299, (i_276 : 0 ≤ z288.toInt ∧ z288.toInt ≤ 400), (i_277 : 0 ≤ z289.toInt ∧ z289.toInt ≤ 400), (i_278 : 0 ≤ z292.toInt ∧ z292.toInt ≤ 400), (i_279 : 0 ≤ z294.toInt ∧ z294.toInt ≤ 400), (i_280 : 0 ≤ z287.toInt ∧ z287.toInt ≤ 4), (i_281 : k20_fr.toInt ≤ z288.toInt ∧ z288.toInt ≤ z289.toInt ∧ z289.toInt ≤ u_td.toInt), (i_282 : TKs z290.toInt z288.toInt z289.toInt), (i_283 : XJ v_op v_ar z296 z297 z298 z299 u_co.toInt z292.toInt z294.toInt z288.toInt), (i_284 : TJ z296 z297 z298 z299 u_co.toInt z292.toInt z294.toInt z287.toInt), (i_285 : twt z287.toInt + 1 ≤ 0 + 3 * (z288.toInt - k20_fr.toInt)), (i_286 : RQ v_tp u_td p_1 (S0X p_1 g_k v_op v_ar u_co u_le) z287.toInt false z288 z289 z290 z291 z296 z297 z298 z299 z292 z294 z295 z293), y300, rfl⟩
            ·
              have hJ9 := va_join (wr := []) hP hD [0, 1, 2, 3, 4, 5, 6, 7] [] rfl rfl (by decide +kernel) (by decide +kernel) hk1 hFc hP1 hD1
              clear hP hD hPc hDc hFc ht hvm hz1 hk1 hP1 hD1
              obtain ⟨hP, hD⟩ := hJ9
              refine g5_rs [(b_o, (oc12 u_th u_sa b_rf b_ro b_im b_ke u_fd b_tp u_td k20_fr k20_to k20_so k20_wo k20_fr 1 u_nc b_nl k20_co b_op b_ar k20_le b_pi b_pa k20_pd k20_od b_ws b_hw u_la b_se b_re u_bk u_va u_su u_ce u_ho u_wy u_bt u_ps b_pt u_tg u_sn b_ip u_ic b_ah b_be b_me u_wd b_tr b_ld u_st b_wn u_id)), (b_tp, (arI G 400 v_tp)), (b_op, (arI G 400 k20_op)), (b_ar, (arI G 400 k20_ar)), (b_pi, (arI G 400 k20_pi)), (b_pa, (arI G 400 k20_pa)), (b_ws, (arJ G 8 v_ws)), (b_hw, (arJ G 4 v_hw))] hP hD ?_
              clear hP hD
              intro hP hD
              refine g5_ti (v := z274) y275 ?_
              refine lv_goto (tgt := 72) hx hb dX12_readExpression_52 (by decide +kernel) ?_
              have w1 := twt_rg z274.toInt
              refine lv_istore_n (lv' := [(2, .int z274), (0, .ref b_o), (1, .int p_1)]) hx hb dX12_readExpression_72 rfl hl (by decide +kernel) rfl ?_
              clear hl
              intro ls hl
              refine lv_goto (tgt := 20) hx hb dX12_readExpression_73 (by decide +kernel) ?_
              exact ih_20_181 (z274, k20_fr, k20_to, k20_so, k20_wo, k20_fr, 1, k20_co, k20_le, k20_pd, k20_od, k20_op, k20_ar, k20_pi, k20_pa) ls H locs (show Int.toNat (3 * (400 - k20_fr.toInt) + 3 * (1 - (1 : Int32).toInt) + twt z274.toInt) < Int.toNat (3 * (400 - k20_fr.toInt) + 3 * (1 - k20_bd.toInt) + twt k20_2.toInt) by have zc_k20_bd : (1 : Int32).toInt = 1 := (by decide +kernel); omega) ⟨lv_sub hl [0, 1, 2] rfl, hP, hD, hS, i_272, i_168, i_169, ⟨by decide, by decide⟩, i_171, i_172, i_173, fun q9 => absurd q9 (by decide +kernel), by omega, i_176, by omega, rq_b i_273 (by decide +kernel), fun _ => rfl, fun q9 => absurd q9 (by decide +kernel)⟩
            ·
              have hJ9 := va_join (wr := []) hP hD [0, 1, 2, 3, 4, 5, 6, 7] [] rfl rfl (by decide +kernel) (by decide +kernel) hk1 hFc hP1 hD1
              clear hP hD hPc hDc hFc ht hvm hz1 hk1 hP1 hD1
              obtain ⟨hP, hD⟩ := hJ9
              refine g5_rs [(b_o, (oc12 u_th u_sa b_rf b_ro b_im b_ke u_fd b_tp u_td z288 z289 z290 z291 k20_fa k20_bd u_nc b_nl z292 b_op b_ar z293 b_pi b_pa z294 z295 b_ws b_hw u_la b_se b_re u_bk u_va u_su u_ce u_ho u_wy u_bt u_ps b_pt u_tg u_sn b_ip u_ic b_ah b_be b_me u_wd b_tr b_ld u_st b_wn u_id)), (b_tp, (arI G 400 v_tp)), (b_op, (arI G 400 z296)), (b_ar, (arI G 400 z297)), (b_pi, (arI G 400 z298)), (b_pa, (arI G 400 z299)), (b_ws, (arJ G 8 v_ws)), (b_hw, (arJ G 4 v_hw))] hP hD ?_
              clear hP hD
              intro hP hD
              refine g5_ti (v := z287) y300 ?_
              refine lv_goto (tgt := 72) hx hb dX12_readExpression_52 (by decide +kernel) ?_
              have w1 := twt_rg z287.toInt
              refine lv_istore_n (lv' := [(2, .int z287), (0, .ref b_o), (1, .int p_1)]) hx hb dX12_readExpression_72 rfl hl (by decide +kernel) rfl ?_
              clear hl
              intro ls hl
              refine lv_goto (tgt := 20) hx hb dX12_readExpression_73 (by decide +kernel) ?_
              exact ih_20_181 (z287, z288, z289, z290, z291, k20_fa, k20_bd, z292, z293, z294, z295, z296, z297, z298, z299) ls H locs (show Int.toNat (3 * (400 - z288.toInt) + 3 * (1 - k20_bd.toInt) + twt z287.toInt) < Int.toNat (3 * (400 - k20_fr.toInt) + 3 * (1 - k20_bd.toInt) + twt k20_2.toInt) by omega) ⟨lv_sub hl [0, 1, 2] rfl, hP, hD, hS, i_280, i_276, i_277, i_170, i_278, i_279, i_283, fun _ => i_284, by omega, i_282, by omega, rq_b i_286 (decide_eq_false (by omega)), fun q9 => absurd q9 (by omega), fun _ => i_180 (by omega)⟩
        ·
          have i_207 : k20_2.toInt = 0 := g5_neN (a := k20_2.toInt) (b := 0) rfl (by decide +kernel) c_207
          have w2 : twt k20_2.toInt = 0 := twt_0 (Or.inl (by omega))
          have hE_301 : TJ k20_op k20_ar k20_pi k20_pa u_co.toInt k20_co.toInt k20_pd.toInt 0 := by have q9 := i_174 (by omega); rw [show k20_2.toInt = 0 by omega] at q9; exact q9
          have hE_302 : RQ v_tp u_td p_1 (S0X p_1 g_k v_op v_ar u_co u_le) 0 false k20_fr k20_to k20_so k20_wo k20_op k20_ar k20_pi k20_pa k20_co k20_pd k20_od k20_le := rq_b (rq_t i_178 (by omega)) (decide_eq_false (by omega)).symm
          refine lv_aload_n hx hb dX12_readExpression_36 rfl (lv_at hl 1 rfl) ?_
          obtain ⟨hPc, hDc, hFc⟩ := g5_sub3 (wc := [(b_o, (oc12 u_th u_sa b_rf b_ro b_im b_ke u_fd b_tp u_td k20_fr k20_to k20_so k20_wo k20_fa k20_bd u_nc b_nl k20_co b_op b_ar k20_le b_pi b_pa k20_pd k20_od b_ws b_hw u_la b_se b_re u_bk u_va u_su u_ce u_ho u_wy u_bt u_ps b_pt u_tg u_sn b_ip u_ic b_ah b_be b_me u_wd b_tr b_ld u_st b_wn u_id)), (b_tp, (arI G 400 v_tp)), (b_op, (arI G 400 k20_op)), (b_ar, (arI G 400 k20_ar)), (b_pi, (arI G 400 k20_pi)), (b_pa, (arI G 400 k20_pa)), (b_ws, (arJ G 8 v_ws)), (b_hw, (arJ G 4 v_hw))]) hP hD hS hA [0, 1, 2, 3, 4, 5, 6, 7] (by decide +kernel) rfl
          refine va_calli (va_runV (As := []) (rest := []) ⟨hx, hb, hml, hown, hts⟩ (n_readPlainX l G b_o b_tp b_op b_ar b_pi b_pa b_ws b_hw b_rf b_ro b_im b_ke b_nl b_se b_re b_pt b_ip b_ah b_be b_me b_tr b_ld b_wn H.size u_th u_sa u_fd u_td k20_fr k20_to k20_so k20_fa k20_bd u_nc k20_co k20_le k20_pd k20_od u_la u_bk u_ce u_ho u_wy u_bt u_ps u_tg u_sn u_ic u_wd u_id u_co p_1 u_le k20_wo u_va u_su u_st v_tp k20_op k20_ar k20_pi k20_pa v_ws v_hw v_op v_ar g_k h_u_td i_168 i_169 ⟨by omega, by omega⟩ h_u_nc i_171 i_172 h_u_la h_u_bk h_u_ce h_u_ho h_u_wy h_u_bt h_u_ps h_u_ic h_u_id (i_175) (i_176) (i_173) (hE_301) (e_tp) (e_ws) (hE_302)) (cwV 0 hts gV_X12_302 rfl rfl rfl hv_X12_readPlain ⟨Nat.le_of_ble_eq_true rfl, Nat.le_of_ble_eq_true rfl⟩) (g5_preV hPc hK hDc hN hT hS hFc (ci := 12) (q0 := 0) rfl rfl) rfl rfl hl.1 rfl (lv_room (Nat.le_of_ble_eq_true rfl)) dX12_readExpression_37 ⟨Nat.le_of_ble_eq_true rfl, Nat.le_of_ble_eq_true rfl⟩) hS (fun q _ h => hFc q h) hFc (fun r u t H locs ht hvm hw hB hz1 hk1 hS => ?_)
          obtain ⟨hP1, hD1⟩ := hB
          have hP1 := g5_ht ht hP1
          rcases hw with ⟨z305, (i_303 : 0 ≤ z305.toInt ∧ z305.toInt ≤ 4), (i_304 : RQ v_tp u_td p_1 (S0X p_1 g_k v_op v_ar u_co u_le) z305.toInt true k20_fr k20_to k20_so k20_wo k20_op k20_ar k20_pi k20_pa k20_co k20_pd k20_od k20_le), y306, rfl⟩ | ⟨z318, z319, z320, z321, z322, z323, z324, z325, z326, z327, z328, z329, z330, (i_307 : 0 ≤ z319.toInt ∧ z319.toInt ≤ 400), (i_308 : 0 ≤ z320.toInt ∧ z320.toInt ≤ 400), (i_309 : 0 ≤ z323.toInt ∧ z323.toInt ≤ 400), (i_310 : 0 ≤ z325.toInt ∧ z325.toInt ≤ 400), (i_311 : 0 ≤ z318.toInt ∧ z318.toInt ≤ 4), (i_312 : k20_fr.toInt ≤ z319.toInt ∧ z319.toInt ≤ z320.toInt ∧ z320.toInt ≤ u_td.toInt), (i_313 : TKs z321.toInt z319.toInt z320.toInt), (i_314 : XJ v_op v_ar z327 z328 z329 z330 u_co.toInt z323.toInt z325.toInt z319.toInt), (i_315 : TJ z327 z328 z329 z330 u_co.toInt z323.toInt z325.toInt z318.toInt), (i_316 : twt z318.toInt + 1 ≤ 0 + 3 * (z319.toInt - k20_fr.toInt)), (i_317 : RQ v_tp u_td p_1 (S0X p_1 g_k v_op v_ar u_co u_le) z318.toInt false z319 z320 z321 z322 z327 z328 z329 z330 z323 z325 z326 z324), y331, rfl⟩
          ·
            have hJ9 := va_join (wr := []) hP hD [0, 1, 2, 3, 4, 5, 6, 7] [] rfl rfl (by decide +kernel) (by decide +kernel) hk1 hFc hP1 hD1
            clear hP hD hPc hDc hFc ht hvm hz1 hk1 hP1 hD1
            obtain ⟨hP, hD⟩ := hJ9
            refine g5_rs [(b_o, (oc12 u_th u_sa b_rf b_ro b_im b_ke u_fd b_tp u_td k20_fr k20_to k20_so k20_wo k20_fr 1 u_nc b_nl k20_co b_op b_ar k20_le b_pi b_pa k20_pd k20_od b_ws b_hw u_la b_se b_re u_bk u_va u_su u_ce u_ho u_wy u_bt u_ps b_pt u_tg u_sn b_ip u_ic b_ah b_be b_me u_wd b_tr b_ld u_st b_wn u_id)), (b_tp, (arI G 400 v_tp)), (b_op, (arI G 400 k20_op)), (b_ar, (arI G 400 k20_ar)), (b_pi, (arI G 400 k20_pi)), (b_pa, (arI G 400 k20_pa)), (b_ws, (arJ G 8 v_ws)), (b_hw, (arJ G 4 v_hw))] hP hD ?_
            clear hP hD
            intro hP hD
            refine g5_ti (v := z305) y306 ?_
            refine lv_goto (tgt := 72) hx hb dX12_readExpression_40 (by decide +kernel) ?_
            have w1 := twt_rg z305.toInt
            refine lv_istore_n (lv' := [(2, .int z305), (0, .ref b_o), (1, .int p_1)]) hx hb dX12_readExpression_72 rfl hl (by decide +kernel) rfl ?_
            clear hl
            intro ls hl
            refine lv_goto (tgt := 20) hx hb dX12_readExpression_73 (by decide +kernel) ?_
            exact ih_20_181 (z305, k20_fr, k20_to, k20_so, k20_wo, k20_fr, 1, k20_co, k20_le, k20_pd, k20_od, k20_op, k20_ar, k20_pi, k20_pa) ls H locs (show Int.toNat (3 * (400 - k20_fr.toInt) + 3 * (1 - (1 : Int32).toInt) + twt z305.toInt) < Int.toNat (3 * (400 - k20_fr.toInt) + 3 * (1 - k20_bd.toInt) + twt k20_2.toInt) by have zc_k20_bd : (1 : Int32).toInt = 1 := (by decide +kernel); omega) ⟨lv_sub hl [0, 1, 2] rfl, hP, hD, hS, i_303, i_168, i_169, ⟨by decide, by decide⟩, i_171, i_172, i_173, fun q9 => absurd q9 (by decide +kernel), by omega, i_176, by omega, rq_b i_304 (by decide +kernel), fun _ => rfl, fun q9 => absurd q9 (by decide +kernel)⟩
          ·
            have hJ9 := va_join (wr := []) hP hD [0, 1, 2, 3, 4, 5, 6, 7] [] rfl rfl (by decide +kernel) (by decide +kernel) hk1 hFc hP1 hD1
            clear hP hD hPc hDc hFc ht hvm hz1 hk1 hP1 hD1
            obtain ⟨hP, hD⟩ := hJ9
            refine g5_rs [(b_o, (oc12 u_th u_sa b_rf b_ro b_im b_ke u_fd b_tp u_td z319 z320 z321 z322 k20_fa k20_bd u_nc b_nl z323 b_op b_ar z324 b_pi b_pa z325 z326 b_ws b_hw u_la b_se b_re u_bk u_va u_su u_ce u_ho u_wy u_bt u_ps b_pt u_tg u_sn b_ip u_ic b_ah b_be b_me u_wd b_tr b_ld u_st b_wn u_id)), (b_tp, (arI G 400 v_tp)), (b_op, (arI G 400 z327)), (b_ar, (arI G 400 z328)), (b_pi, (arI G 400 z329)), (b_pa, (arI G 400 z330)), (b_ws, (arJ G 8 v_ws)), (b_hw, (arJ G 4 v_hw))] hP hD ?_
            clear hP hD
            intro hP hD
            refine g5_ti (v := z318) y331 ?_
            refine lv_goto (tgt := 72) hx hb dX12_readExpression_40 (by decide +kernel) ?_
            have w1 := twt_rg z318.toInt
            refine lv_istore_n (lv' := [(2, .int z318), (0, .ref b_o), (1, .int p_1)]) hx hb dX12_readExpression_72 rfl hl (by decide +kernel) rfl ?_
            clear hl
            intro ls hl
            refine lv_goto (tgt := 20) hx hb dX12_readExpression_73 (by decide +kernel) ?_
            exact ih_20_181 (z318, z319, z320, z321, z322, k20_fa, k20_bd, z323, z324, z325, z326, z327, z328, z329, z330) ls H locs (show Int.toNat (3 * (400 - z319.toInt) + 3 * (1 - k20_bd.toInt) + twt z318.toInt) < Int.toNat (3 * (400 - k20_fr.toInt) + 3 * (1 - k20_bd.toInt) + twt k20_2.toInt) by omega) ⟨lv_sub hl [0, 1, 2] rfl, hP, hD, hS, i_311, i_307, i_308, i_170, i_309, i_310, i_314, fun _ => i_315, by omega, i_313, by omega, rq_b i_317 (decide_eq_false (by omega)), fun q9 => absurd q9 (by omega), fun _ => i_180 (by omega)⟩
