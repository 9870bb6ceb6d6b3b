set_option maxHeartbeats 4000000 in
set_option maxRecDepth 100000 in
theorem n_readClause (l : Launch) (G : g5_G) (b_o b_tp b_nl b_op b_ar b_pi b_pa b_ws b_hw b_rf b_ro b_im b_ke b_se b_re b_pt b_ip b_ah b_be b_me b_tr b_ld b_wn : Nat) (sz : Nat) (u_th : Int32) (u_sa : Int32) (u_fd : Int32) (u_td : Int32) (u_fr : Int32) (u_to : Int32) (u_so : Int32) (u_fa : Int32) (u_bd : Int32) (u_nc : Int32) (u_co : Int32) (u_le : Int32) (u_pd : Int32) (u_od : Int32) (u_la : Int32) (u_bk : Int32) (u_ce : Int32) (u_ho : Int32) (u_wy : Int32) (u_bt : Int32) (u_ps : Int32) (u_tg : Int32) (u_sn : Int32) (u_ic : Int32) (u_wd : Int32) (u_id : Int32) (u_wo : Int64) (u_va : Int64) (u_su : Int64) (u_st : Int64) (v_tp : Nat → Int32) (v_nl : Nat → Int32) (v_op : Nat → Int32) (v_ar : Nat → Int32) (v_pi : Nat → Int32) (v_pa : Nat → Int32) (v_ws : Nat → Int64) (v_hw : Nat → Int64) (h_u_td : 0 ≤ u_td.toInt ∧ u_td.toInt ≤ 400) (h_u_fr : 0 ≤ u_fr.toInt ∧ u_fr.toInt ≤ 400) (h_u_to : 0 ≤ u_to.toInt ∧ u_to.toInt ≤ 400) (h_u_bd : 0 ≤ u_bd.toInt ∧ u_bd.toInt ≤ 0) (h_u_nc : 0 ≤ u_nc.toInt ∧ u_nc.toInt ≤ 12) (h_u_co : 0 ≤ u_co.toInt ∧ u_co.toInt ≤ 400) (h_u_pd : 0 ≤ u_pd.toInt ∧ u_pd.toInt ≤ 400) (h_u_la : 0 ≤ u_la.toInt ∧ u_la.toInt ≤ 4840) (h_u_bk : 0 ≤ u_bk.toInt ∧ u_bk.toInt ≤ 1) (h_u_ce : 0 ≤ u_ce.toInt ∧ u_ce.toInt ≤ 63) (h_u_ho : 0 ≤ u_ho.toInt ∧ u_ho.toInt ≤ 23) (h_u_wy : 0 ≤ u_wy.toInt ∧ u_wy.toInt ≤ 3) (h_u_bt : 0 ≤ u_bt.toInt ∧ u_bt.toInt ≤ 1000000) (h_u_ps : 0 ≤ u_ps.toInt ∧ u_ps.toInt ≤ 200) (h_u_ic : 0 ≤ u_ic.toInt ∧ u_ic.toInt ≤ 1) (h_u_id : 0 ≤ u_id.toInt ∧ u_id.toInt ≤ 1) (e_t : u_fr.toInt ≤ u_to.toInt ∧ u_to.toInt ≤ u_td.toInt) (e_s : TKs u_so.toInt u_fr.toInt u_to.toInt) (e_c : u_co.toInt ≤ u_fr.toInt) (e_l : LWJ v_nl v_op v_ar u_nc.toInt u_co.toInt) : Met l yX12_readClause (wsG yX12_readClause cX12_readClause 4 none) ({ frames := 7, cells := 0, slots := 0, locals := 148 }) (va_Pc [.ref b_o] (g5_P G [(b_o, (oc12 u_th u_sa b_rf b_ro b_im b_ke u_fd b_tp u_td u_fr u_to u_so u_wo u_fa u_bd u_nc b_nl u_co b_op b_ar u_le b_pi b_pa u_pd u_od b_ws b_hw u_la b_se b_re u_bk u_va u_su u_ce u_ho u_wy u_bt u_ps b_pt u_tg u_sn b_ip u_ic b_ah b_be b_me u_wd b_tr b_ld u_st b_wn u_id)), (b_tp, (arI G 400 v_tp)), (b_nl, (arI G 96 v_nl)), (b_op, (arI G 400 v_op)), (b_ar, (arI G 400 v_ar)), (b_pi, (arI G 400 v_pi)), (b_pa, (arI G 400 v_pa)), (b_ws, (arJ G 8 v_ws)), (b_hw, (arJ G 4 v_hw))] sz)) (va_Qv (fun (u : va_W) => ((u = [(b_o, (oc12 u_th u_sa b_rf b_ro b_im b_ke u_fd b_tp u_td u_fr u_to u_so u_wo u_fr 1 u_nc b_nl u_co b_op b_ar u_le b_pi b_pa u_pd u_od b_ws b_hw u_la b_se b_re u_bk u_va u_su u_ce u_ho u_wy u_bt u_ps b_pt u_tg u_sn b_ip u_ic b_ah b_be b_me u_wd b_tr b_ld u_st b_wn u_id)), (b_tp, (arI G 400 v_tp)), (b_nl, (arI G 96 v_nl)), (b_op, (arI G 400 v_op)), (b_ar, (arI G 400 v_ar)), (b_pi, (arI G 400 v_pi)), (b_pa, (arI G 400 v_pa)), (b_ws, (arJ G 8 v_ws)), (b_hw, (arJ G 4 v_hw))])) ∨ (∃ (o_fr : Int32) (o_to : Int32) (o_so : Int32) (o_wo : Int64) (o_fa : Int32) (o_bd : Int32) (o_nc : Int32) (o_co : Int32) (o_le : Int32) (o_pd : Int32) (o_od : Int32) (o_nl : Nat → Int32) (o_op : Nat → Int32) (o_ar : Nat → Int32) (o_pi : Nat → Int32) (o_pa : Nat → Int32), (0 ≤ o_fr.toInt ∧ o_fr.toInt ≤ 400) ∧ (0 ≤ o_to.toInt ∧ o_to.toInt ≤ 400) ∧ (0 ≤ o_bd.toInt ∧ o_bd.toInt ≤ 1) ∧ (0 ≤ o_nc.toInt ∧ o_nc.toInt ≤ 12) ∧ (0 ≤ o_co.toInt ∧ o_co.toInt ≤ 400) ∧ (0 ≤ o_pd.toInt ∧ o_pd.toInt ≤ 400) ∧ (u_fr.toInt ≤ o_fr.toInt ∧ o_fr.toInt ≤ o_to.toInt ∧ o_to.toInt ≤ u_td.toInt) ∧ (TKs o_so.toInt o_fr.toInt o_to.toInt) ∧ (o_co.toInt ≤ o_fr.toInt) ∧ (o_bd.toInt = 0 → LWJ o_nl o_op o_ar o_nc.toInt o_co.toInt) ∧ (u = [(b_o, (oc12 u_th u_sa b_rf b_ro b_im b_ke u_fd b_tp u_td o_fr o_to o_so o_wo o_fa o_bd o_nc b_nl o_co b_op b_ar o_le b_pi b_pa o_pd o_od b_ws b_hw u_la b_se b_re u_bk u_va u_su u_ce u_ho u_wy u_bt u_ps b_pt u_tg u_sn b_ip u_ic b_ah b_be b_me u_wd b_tr b_ld u_st b_wn u_id)), (b_tp, (arI G 400 v_tp)), (b_nl, (arI G 96 o_nl)), (b_op, (arI G 400 o_op)), (b_ar, (arI G 400 o_ar)), (b_pi, (arI G 400 o_pi)), (b_pa, (arI G 400 o_pa)), (b_ws, (arJ G 8 v_ws)), (b_hw, (arJ G 4 v_hw))]))) (g5_B G (va_A [(b_o, (oc12 u_th u_sa b_rf b_ro b_im b_ke u_fd b_tp u_td u_fr u_to u_so u_wo u_fa u_bd u_nc b_nl u_co b_op b_ar u_le b_pi b_pa u_pd u_od b_ws b_hw u_la b_se b_re u_bk u_va u_su u_ce u_ho u_wy u_bt u_ps b_pt u_tg u_sn b_ip u_ic b_ah b_be b_me u_wd b_tr b_ld u_st b_wn u_id)), (b_tp, (arI G 400 v_tp)), (b_nl, (arI G 96 v_nl)), (b_op, (arI G 400 v_op)), (b_ar, (arI G 400 v_ar)), (b_pi, (arI G 400 v_pi)), (b_pa, (arI G 400 v_pa)), (b_ws, (arJ G 8 v_ws)), (b_hw, (arJ G 4 v_hw))] sz)) (va_A [(b_o, (oc12 u_th u_sa b_rf b_ro b_im b_ke u_fd b_tp u_td u_fr u_to u_so u_wo u_fa u_bd u_nc b_nl u_co b_op b_ar u_le b_pi b_pa u_pd u_od b_ws b_hw u_la b_se b_re u_bk u_va u_su u_ce u_ho u_wy u_bt u_ps b_pt u_tg u_sn b_ip u_ic b_ah b_be b_me u_wd b_tr b_ld u_st b_wn u_id)), (b_tp, (arI G 400 v_tp)), (b_nl, (arI G 96 v_nl)), (b_op, (arI G 400 v_op)), (b_ar, (arI G 400 v_ar)), (b_pi, (arI G 400 v_pi)), (b_pa, (arI G 400 v_pa)), (b_ws, (arJ G 8 v_ws)), (b_hw, (arJ G 4 v_hw))] sz)) 0 0 (va_A [(b_o, (oc12 u_th u_sa b_rf b_ro b_im b_ke u_fd b_tp u_td u_fr u_to u_so u_wo u_fa u_bd u_nc b_nl u_co b_op b_ar u_le b_pi b_pa u_pd u_od b_ws b_hw u_la b_se b_re u_bk u_va u_su u_ce u_ho u_wy u_bt u_ps b_pt u_tg u_sn b_ip u_ic b_ah b_be b_me u_wd b_tr b_ld u_st b_wn u_id)), (b_tp, (arI G 400 v_tp)), (b_nl, (arI G 96 v_nl)), (b_op, (arI G 400 v_op)), (b_ar, (arI G 400 v_ar)), (b_pi, (arI G 400 v_pi)), (b_pa, (arI G 400 v_pa)), (b_ws, (arJ G 8 v_ws)), (b_hw, (arJ G 4 v_hw))] sz) := by
  refine Met.ofW (cc := cX12_readClause) (maxL := 4) (ret := none) (by decide) rfl ?_
  intro p e s m args below meth c s₁ B hml hv
  obtain ⟨rfl, hsz, hP, hK, hD0, hN, hT⟩ := hv
  have hx := B.exec
  have hb := B.bytes
  have hr := B.returns
  have hts : ∀ w ∈ tblG, w.before _ s = true := fun w h => atoms_spec (ws := (wsG yX12_readClause cX12_readClause 4 none)) B.pre w (List.mem_cons_of_mem _ h)
  have hown : s.vm.findClass RX12 = some m.cls := findClass_of_methodNamed B.named
  have hlocks := B.notSynchronized
  subst hsz
  have hD := hD0.self (sz := s.heap.size)
  generalize hAe : va_A [(b_o, (oc12 u_th u_sa b_rf b_ro b_im b_ke u_fd b_tp u_td u_fr u_to u_so u_wo u_fa u_bd u_nc b_nl u_co b_op b_ar u_le b_pi b_pa u_pd u_od b_ws b_hw u_la b_se b_re u_bk u_va u_su u_ce u_ho u_wy u_bt u_ps b_pt u_tg u_sn b_ip u_ic b_ah b_be b_me u_wd b_tr b_ld u_st b_wn u_id)), (b_tp, (arI G 400 v_tp)), (b_nl, (arI G 96 v_nl)), (b_op, (arI G 400 v_op)), (b_ar, (arI G 400 v_ar)), (b_pi, (arI G 400 v_pi)), (b_pa, (arI G 400 v_pa)), (b_ws, (arJ G 8 v_ws)), (b_hw, (arJ G 4 v_hw))] s.heap.size = A at hD hT ⊢
  have hA : ∀ q : Nat, s.heap.size ≤ q → A q := fun q h => by rw [← hAe]; exact Or.inr h
  have hS : va_S A s.heap s.heap [] := va_S.rf
  have hP : va_P G.1 vwCl [(b_o, (oc12 u_th u_sa b_rf b_ro b_im b_ke u_fd b_tp u_td u_fr u_to u_so u_wo u_fa u_bd u_nc b_nl u_co b_op b_ar u_le b_pi b_pa u_pd u_od b_ws b_hw u_la b_se b_re u_bk u_va u_su u_ce u_ho u_wy u_bt u_ps b_pt u_tg u_sn b_ip u_ic b_ah b_be b_me u_wd b_tr b_ld u_st b_wn u_id)), (b_tp, (arI G 400 v_tp)), (b_nl, (arI G 96 v_nl)), (b_op, (arI G 400 v_op)), (b_ar, (arI G 400 v_ar)), (b_pi, (arI G 400 v_pi)), (b_pa, (arI G 400 v_pa)), (b_ws, (arJ G 8 v_ws)), (b_hw, (arJ G 4 v_hw))] s.heap := hP
  have hl := lv_entry ([.ref b_o]) (n := 4) (Nat.le_of_ble_eq_true rfl)
  rw [lg_entry_eq]
  generalize (lg_sl ([.ref b_o]) ++ List.replicate (4 - (lg_sl ([.ref b_o])).length) Slot.unset).toArray = ls at hl ⊢
  have hl : lv_has ls 4 [(0, .ref b_o)] := hl
  refine lv_iconst (v := (-1)) hx hb dX12_readClause_0 (by decide) ?_
  refine lv_istore_n (lv' := [(1, .int (-1)), (0, .ref b_o)]) hx hb dX12_readClause_1 rfl hl (by decide) rfl (fun ls hl => ?_)
  refine lv_iconst (v := 0) hx hb dX12_readClause_2 (by decide) ?_
  refine lv_istore_n (lv' := [(2, .int 0), (1, .int (-1)), (0, .ref b_o)]) hx hb dX12_readClause_3 rfl hl (by decide) rfl (fun ls hl => ?_)
  refine g5_loop (α := (Int32) × (Int32)) (fun (q : (Int32) × (Int32)) (ls : Array Slot) (H : Heap) (locs : List Loc) => match q with | (k4_2, k4_1) => lv_has ls 4 [(1, .int k4_1), (2, .int k4_2), (0, .ref b_o)] ∧ va_P G.1 vwCl [(b_o, (oc12 u_th u_sa b_rf b_ro b_im b_ke u_fd b_tp u_td u_fr u_to u_so u_wo u_fa u_bd u_nc b_nl u_co b_op b_ar u_le b_pi b_pa u_pd u_od b_ws b_hw u_la b_se b_re u_bk u_va u_su u_ce u_ho u_wy u_bt u_ps b_pt u_tg u_sn b_ip u_ic b_ah b_be b_me u_wd b_tr b_ld u_st b_wn u_id)), (b_tp, (arI G 400 v_tp)), (b_nl, (arI G 96 v_nl)), (b_op, (arI G 400 v_op)), (b_ar, (arI G 400 v_ar)), (b_pi, (arI G 400 v_pi)), (b_pa, (arI G 400 v_pa)), (b_ws, (arJ G 8 v_ws)), (b_hw, (arJ G 4 v_hw))] H ∧ va_D A [(b_o, (oc12 u_th u_sa b_rf b_ro b_im b_ke u_fd b_tp u_td u_fr u_to u_so u_wo u_fa u_bd u_nc b_nl u_co b_op b_ar u_le b_pi b_pa u_pd u_od b_ws b_hw u_la b_se b_re u_bk u_va u_su u_ce u_ho u_wy u_bt u_ps b_pt u_tg u_sn b_ip u_ic b_ah b_be b_me u_wd b_tr b_ld u_st b_wn u_id)), (b_tp, (arI G 400 v_tp)), (b_nl, (arI G 96 v_nl)), (b_op, (arI G 400 v_op)), (b_ar, (arI G 400 v_ar)), (b_pi, (arI G 400 v_pi)), (b_pa, (arI G 400 v_pa)), (b_ws, (arJ G 8 v_ws)), (b_hw, (arJ G 4 v_hw))] ∧ va_S A s.heap H locs ∧ (0 ≤ k4_2.toInt ∧ k4_2.toInt ≤ 4) ∧ ((-1) ≤ k4_1.toInt ∧ k4_1.toInt ≤ 3) ∧ (k4_1.toInt = -1 ∨ u_so.toInt = 1)) (fun (q : (Int32) × (Int32)) => match q with | (k4_2, k4_1) => Int.toNat (4 - k4_2.toInt)) (0, (-1)) ⟨lv_sub hl [1, 0, 2] rfl, hP, hD, hS, ⟨by decide, by decide⟩, ⟨by decide, by decide⟩, Or.inl (by decide)⟩ ?_
  rintro ⟨k4_2, k4_1⟩ ls H locs ⟨hl, hP, hD, hS, i_1, i_2, i_3⟩ ih_4_4
  have hl : lv_has ls 4 [(1, .int k4_1), (2, .int k4_2), (0, .ref b_o)] := hl
  have i_1 : 0 ≤ k4_2.toInt ∧ k4_2.toInt ≤ 4 := i_1
  have i_2 : (-1) ≤ k4_1.toInt ∧ k4_1.toInt ≤ 3 := i_2
  have i_3 : k4_1.toInt = -1 ∨ u_so.toInt = 1 := i_3
  refine g5_rs [(b_o, (oc12 u_th u_sa b_rf b_ro b_im b_ke u_fd b_tp u_td u_fr u_to u_so u_wo u_fa u_bd u_nc b_nl u_co b_op b_ar u_le b_pi b_pa u_pd u_od b_ws b_hw u_la b_se b_re u_bk u_va u_su u_ce u_ho u_wy u_bt u_ps b_pt u_tg u_sn b_ip u_ic b_ah b_be b_me u_wd b_tr b_ld u_st b_wn u_id)), (b_tp, (arI G 400 v_tp)), (b_nl, (arI G 96 v_nl)), (b_op, (arI G 400 v_op)), (b_ar, (arI G 400 v_ar)), (b_pi, (arI G 400 v_pi)), (b_pa, (arI G 400 v_pa)), (b_ws, (arJ G 8 v_ws)), (b_hw, (arJ G 4 v_hw))] hP hD (fun hP hD => ?_)
  refine lv_iload_n hx hb dX12_readClause_4 rfl (lv_at hl 1 rfl) ?_
  refine lv_iconst (v := 4) hx hb dX12_readClause_5 (by decide) ?_
  refine lv_icmp_ge (tgt := 34) hx hb dX12_readClause_6 (by decide) (fun c_5 => ?_) (fun c_5 => ?_)
  ·
    have i_5 : k4_2.toInt ≥ 4 := by have z := g5_ge (a := k4_2.toInt) (b := 4) (by rfl) (by decide) c_5; omega
    refine lv_aload_n hx hb dX12_readClause_34 rfl (lv_at hl 2 rfl) ?_
    refine lv_iload_n hx hb dX12_readClause_35 rfl (lv_at hl 0 rfl) ?_
    refine lv_iconst (v := (-1)) hx hb dX12_readClause_36 (by decide) ?_
    refine lv_icmp_eq (tgt := 53) hx hb dX12_readClause_37 (by decide) (fun c_6 => ?_) (fun c_6 => ?_)
    ·
      have i_6 : k4_1.toInt = (-1) := by have z := g5_eq (a := k4_1.toInt) (b := (-1)) (by rfl) (by decide) c_6; omega
      refine lv_iconst (v := 0) hx hb dX12_readClause_53 (by decide) ?_
      obtain ⟨hPc, hDc, hFc⟩ := g5_sub3 (wc := [(b_o, (oc12 u_th u_sa b_rf b_ro b_im b_ke u_fd b_tp u_td u_fr u_to u_so u_wo u_fa u_bd u_nc b_nl u_co b_op b_ar u_le b_pi b_pa u_pd u_od b_ws b_hw u_la b_se b_re u_bk u_va u_su u_ce u_ho u_wy u_bt u_ps b_pt u_tg u_sn b_ip u_ic b_ah b_be b_me u_wd b_tr b_ld u_st b_wn u_id)), (b_tp, (arI G 400 v_tp))]) hP hD hS hA [0, 1] (by decide) rfl
      refine va_callv (va_runV (As := [.int 0]) (rest := []) ⟨hx, hb, hml, hown, hts⟩ (n_must0 l G b_o b_tp b_rf b_ro b_im b_ke b_nl b_op b_ar b_pi b_pa b_ws b_hw b_se b_re b_pt b_ip b_ah b_be b_me b_tr b_ld b_wn H.size u_th u_sa u_fd u_td u_fr u_to u_so u_fa u_bd u_nc u_co u_le u_pd u_od u_la u_bk u_ce u_ho u_wy u_bt u_ps u_tg u_sn u_ic u_wd u_id u_wo u_va u_su u_st v_tp h_u_td h_u_fr h_u_to h_u_bd h_u_nc h_u_co h_u_pd h_u_la h_u_bk h_u_ce h_u_ho h_u_wy h_u_bt h_u_ps h_u_ic h_u_id) (cwV 1 hts gV_X12_233 rfl rfl rfl hv_X12_must ⟨Nat.le_of_ble_eq_true rfl, Nat.le_of_ble_eq_true rfl⟩) (g5_preV hPc hK hDc hN hT hS hFc (ci := 12) (q0 := 0) rfl rfl) rfl rfl hl.1 rfl (lv_room (Nat.le_of_ble_eq_true rfl)) dX12_readClause_54 ⟨Nat.le_of_ble_eq_true rfl, Nat.le_of_ble_eq_true rfl⟩) hS (fun q _ h => hFc q h) hFc (fun u t H1 locs ht hvm hw hB hz1 hk1 hS => ?_)
      obtain ⟨hP1, hD1⟩ := hB
      rw [ht] at hP1
      obtain rfl := hw
      obtain ⟨hP, hD⟩ := va_join (wr := [(b_nl, (arI G 96 v_nl)), (b_op, (arI G 400 v_op)), (b_ar, (arI G 400 v_ar)), (b_pi, (arI G 400 v_pi)), (b_pa, (arI G 400 v_pa)), (b_ws, (arJ G 8 v_ws)), (b_hw, (arJ G 4 v_hw))]) hP hD [0, 1] [2, 3, 4, 5, 6, 7, 8] rfl rfl (by decide) (by decide) hk1 hFc hP1 hD1
      generalize H1 = H at hP hS ⊢
      refine g5_rs [(b_nl, (arI G 96 v_nl)), (b_op, (arI G 400 v_op)), (b_ar, (arI G 400 v_ar)), (b_pi, (arI G 400 v_pi)), (b_pa, (arI G 400 v_pa)), (b_ws, (arJ G 8 v_ws)), (b_hw, (arJ G 4 v_hw)), (b_o, (oc12 u_th u_sa b_rf b_ro b_im b_ke u_fd b_tp u_td u_fr u_to u_so u_wo u_fr 1 u_nc b_nl u_co b_op b_ar u_le b_pi b_pa u_pd u_od b_ws b_hw u_la b_se b_re u_bk u_va u_su u_ce u_ho u_wy u_bt u_ps b_pt u_tg u_sn b_ip u_ic b_ah b_be b_me u_wd b_tr b_ld u_st b_wn u_id)), (b_tp, (arI G 400 v_tp))] hP hD (fun hP hD => ?_)
      refine lv_aload_n hx hb dX12_readClause_57 rfl (lv_at hl 2 rfl) ?_
      refine va_get (D := G.1) (ci := 12) (v := .int 1) (C := RX12) (T := TX12) (N := 52) hx hb hts inG_X12 hown hK hP 7 rfl rfl 14 (by decide) (hts _ fl_X12_205) (fun _ h9 => h9) rfl dX12_readClause_58 ?_
      refine lv_if_eq (tgt := 65) hx hb dX12_readClause_61 (by decide) (fun c_7 => ?_) (fun c_7 => ?_)
      ·
        exact absurd c_7 (by decide)
      ·
        exact W.vret hx hb hr (fun t ht hW => ⟨⟨[(b_o, (oc12 u_th u_sa b_rf b_ro b_im b_ke u_fd b_tp u_td u_fr u_to u_so u_wo u_fr 1 u_nc b_nl u_co b_op b_ar u_le b_pi b_pa u_pd u_od b_ws b_hw u_la b_se b_re u_bk u_va u_su u_ce u_ho u_wy u_bt u_ps b_pt u_tg u_sn b_ip u_ic b_ah b_be b_me u_wd b_tr b_ld u_st b_wn u_id)), (b_tp, (arI G 400 v_tp)), (b_nl, (arI G 96 v_nl)), (b_op, (arI G 400 v_op)), (b_ar, (arI G 400 v_ar)), (b_pi, (arI G 400 v_pi)), (b_pa, (arI G 400 v_pa)), (b_ws, (arJ G 8 v_ws)), (b_hw, (arJ G 4 v_hw))], rfl, Or.inl (rfl), by rw [ht]; exact hP.sub [7, 8, 0, 1, 2, 3, 4, 5, 6] rfl, hD.sub [7, 8, 0, 1, 2, 3, 4, 5, 6] (by decide) rfl⟩, hS.F ht⟩) hS.2.2 dX12_readClause_64
    ·
      have n_6 : gNe (k4_1.toInt) ((-1)) := by have z := g5_eqN (a := k4_1.toInt) (b := (-1)) (by rfl) (by decide) c_6; unfold gNe; omega
      have i_6 : k4_1.toInt ≥ 0 := by have z := g5_eqN (a := k4_1.toInt) (b := (-1)) (by rfl) (by decide) c_6; omega
      refine lv_aload_n hx hb dX12_readClause_40 rfl (lv_at hl 2 rfl) ?_
      refine va_get (D := G.1) (ci := 12) (v := .int u_nc) (C := RX12) (T := TX12) (N := 52) hx hb hts inG_X12 hown hK hP 0 rfl rfl 15 (by decide) (hts _ fl_X12_312) (fun _ h9 => h9) rfl dX12_readClause_41 ?_
      refine lv_bipush (v := 12) hx hb dX12_readClause_44 (by decide) ?_
      refine lv_icmp_ge (tgt := 53) hx hb dX12_readClause_46 (by decide) (fun c_8 => ?_) (fun c_8 => ?_)
      ·
        have i_8 : u_nc.toInt ≥ 12 := by have z := g5_ge (a := u_nc.toInt) (b := 12) (by rfl) (by decide) c_8; omega
        refine lv_iconst (v := 0) hx hb dX12_readClause_53 (by decide) ?_
        obtain ⟨hPc, hDc, hFc⟩ := g5_sub3 (wc := [(b_o, (oc12 u_th u_sa b_rf b_ro b_im b_ke u_fd b_tp u_td u_fr u_to u_so u_wo u_fa u_bd u_nc b_nl u_co b_op b_ar u_le b_pi b_pa u_pd u_od b_ws b_hw u_la b_se b_re u_bk u_va u_su u_ce u_ho u_wy u_bt u_ps b_pt u_tg u_sn b_ip u_ic b_ah b_be b_me u_wd b_tr b_ld u_st b_wn u_id)), (b_tp, (arI G 400 v_tp))]) hP hD hS hA [0, 1] (by decide) rfl
        refine va_callv (va_runV (As := [.int 0]) (rest := []) ⟨hx, hb, hml, hown, hts⟩ (n_must0 l G b_o b_tp b_rf b_ro b_im b_ke b_nl b_op b_ar b_pi b_pa b_ws b_hw b_se b_re b_pt b_ip b_ah b_be b_me b_tr b_ld b_wn H.size u_th u_sa u_fd u_td u_fr u_to u_so u_fa u_bd u_nc u_co u_le u_pd u_od u_la u_bk u_ce u_ho u_wy u_bt u_ps u_tg u_sn u_ic u_wd u_id u_wo u_va u_su u_st v_tp h_u_td h_u_fr h_u_to h_u_bd h_u_nc h_u_co h_u_pd h_u_la h_u_bk h_u_ce h_u_ho h_u_wy h_u_bt h_u_ps h_u_ic h_u_id) (cwV 1 hts gV_X12_233 rfl rfl rfl hv_X12_must ⟨Nat.le_of_ble_eq_true rfl, Nat.le_of_ble_eq_true rfl⟩) (g5_preV hPc hK hDc hN hT hS hFc (ci := 12) (q0 := 0) rfl rfl) rfl rfl hl.1 rfl (lv_room (Nat.le_of_ble_eq_true rfl)) dX12_readClause_54 ⟨Nat.le_of_ble_eq_true rfl, Nat.le_of_ble_eq_true rfl⟩) hS (fun q _ h => hFc q h) hFc (fun u t H1 locs ht hvm hw hB hz1 hk1 hS => ?_)
        obtain ⟨hP1, hD1⟩ := hB
        rw [ht] at hP1
        obtain rfl := hw
        obtain ⟨hP, hD⟩ := va_join (wr := [(b_nl, (arI G 96 v_nl)), (b_op, (arI G 400 v_op)), (b_ar, (arI G 400 v_ar)), (b_pi, (arI G 400 v_pi)), (b_pa, (arI G 400 v_pa)), (b_ws, (arJ G 8 v_ws)), (b_hw, (arJ G 4 v_hw))]) hP hD [0, 1] [2, 3, 4, 5, 6, 7, 8] rfl rfl (by decide) (by decide) hk1 hFc hP1 hD1
        generalize H1 = H at hP hS ⊢
        refine g5_rs [(b_nl, (arI G 96 v_nl)), (b_op, (arI G 400 v_op)), (b_ar, (arI G 400 v_ar)), (b_pi, (arI G 400 v_pi)), (b_pa, (arI G 400 v_pa)), (b_ws, (arJ G 8 v_ws)), (b_hw, (arJ G 4 v_hw)), (b_o, (oc12 u_th u_sa b_rf b_ro b_im b_ke u_fd b_tp u_td u_fr u_to u_so u_wo u_fr 1 u_nc b_nl u_co b_op b_ar u_le b_pi b_pa u_pd u_od b_ws b_hw u_la b_se b_re u_bk u_va u_su u_ce u_ho u_wy u_bt u_ps b_pt u_tg u_sn b_ip u_ic b_ah b_be b_me u_wd b_tr b_ld u_st b_wn u_id)), (b_tp, (arI G 400 v_tp))] hP hD (fun hP hD => ?_)
        refine lv_aload_n hx hb dX12_readClause_57 rfl (lv_at hl 2 rfl) ?_
        refine va_get (D := G.1) (ci := 12) (v := .int 1) (C := RX12) (T := TX12) (N := 52) hx hb hts inG_X12 hown hK hP 7 rfl rfl 14 (by decide) (hts _ fl_X12_205) (fun _ h9 => h9) rfl dX12_readClause_58 ?_
        refine lv_if_eq (tgt := 65) hx hb dX12_readClause_61 (by decide) (fun c_9 => ?_) (fun c_9 => ?_)
        ·
          exact absurd c_9 (by decide)
        ·
          exact W.vret hx hb hr (fun t ht hW => ⟨⟨[(b_o, (oc12 u_th u_sa b_rf b_ro b_im b_ke u_fd b_tp u_td u_fr u_to u_so u_wo u_fr 1 u_nc b_nl u_co b_op b_ar u_le b_pi b_pa u_pd u_od b_ws b_hw u_la b_se b_re u_bk u_va u_su u_ce u_ho u_wy u_bt u_ps b_pt u_tg u_sn b_ip u_ic b_ah b_be b_me u_wd b_tr b_ld u_st b_wn u_id)), (b_tp, (arI G 400 v_tp)), (b_nl, (arI G 96 v_nl)), (b_op, (arI G 400 v_op)), (b_ar, (arI G 400 v_ar)), (b_pi, (arI G 400 v_pi)), (b_pa, (arI G 400 v_pa)), (b_ws, (arJ G 8 v_ws)), (b_hw, (arJ G 4 v_hw))], rfl, Or.inl (rfl), by rw [ht]; exact hP.sub [7, 8, 0, 1, 2, 3, 4, 5, 6] rfl, hD.sub [7, 8, 0, 1, 2, 3, 4, 5, 6] (by decide) rfl⟩, hS.F ht⟩) hS.2.2 dX12_readClause_64
      ·
        have i_8 : u_nc.toInt < 12 := by have z := g5_geN (a := u_nc.toInt) (b := 12) (by rfl) (by decide) c_8; omega
        refine lv_iconst (v := 1) hx hb dX12_readClause_49 (by decide) ?_
        refine lv_goto (tgt := 54) hx hb dX12_readClause_50 (by decide) ?_
        have hlt9 : u_fr.toInt < u_to.toInt := tks_lt e_s (by omega)
        obtain ⟨hPc, hDc, hFc⟩ := g5_sub3 (wc := [(b_o, (oc12 u_th u_sa b_rf b_ro b_im b_ke u_fd b_tp u_td u_fr u_to u_so u_wo u_fa u_bd u_nc b_nl u_co b_op b_ar u_le b_pi b_pa u_pd u_od b_ws b_hw u_la b_se b_re u_bk u_va u_su u_ce u_ho u_wy u_bt u_ps b_pt u_tg u_sn b_ip u_ic b_ah b_be b_me u_wd b_tr b_ld u_st b_wn u_id)), (b_tp, (arI G 400 v_tp))]) hP hD hS hA [0, 1] (by decide) rfl
        refine va_callv (va_runV (As := [.int 1]) (rest := []) ⟨hx, hb, hml, hown, hts⟩ (n_must1 l G b_o b_tp b_rf b_ro b_im b_ke b_nl b_op b_ar b_pi b_pa b_ws b_hw b_se b_re b_pt b_ip b_ah b_be b_me b_tr b_ld b_wn H.size u_th u_sa u_fd u_td u_fr u_to u_so u_fa u_bd u_nc u_co u_le u_pd u_od u_la u_bk u_ce u_ho u_wy u_bt u_ps u_tg u_sn u_ic u_wd u_id u_wo u_va u_su u_st v_tp h_u_td h_u_fr h_u_to h_u_bd h_u_nc h_u_co h_u_pd h_u_la h_u_bk h_u_ce h_u_ho h_u_wy h_u_bt h_u_ps h_u_ic h_u_id (by omega)) (cwV 1 hts gV_X12_233 rfl rfl rfl hv_X12_must ⟨Nat.le_of_ble_eq_true rfl, Nat.le_of_ble_eq_true rfl⟩) (g5_preV hPc hK hDc hN hT hS hFc (ci := 12) (q0 := 0) rfl rfl) rfl rfl hl.1 rfl (lv_room (Nat.le_of_ble_eq_true rfl)) dX12_readClause_54 ⟨Nat.le_of_ble_eq_true rfl, Nat.le_of_ble_eq_true rfl⟩) hS (fun q _ h => hFc q h) hFc (fun u t H1 locs ht hvm hw hB hz1 hk1 hS => ?_)
        obtain ⟨hP1, hD1⟩ := hB
        rw [ht] at hP1
        obtain ⟨z14, z15, z16, z17, i_10, i_11, i_12, i_13, rfl⟩ := hw
        have i_10 : 0 ≤ z14.toInt ∧ z14.toInt ≤ 400 := i_10
        have i_11 : 0 ≤ z15.toInt ∧ z15.toInt ≤ 400 := i_11
        have i_12 : u_to.toInt ≤ z14.toInt ∧ z14.toInt ≤ z15.toInt ∧ z15.toInt ≤ u_td.toInt := i_12
        have i_13 : TKs z16.toInt z14.toInt z15.toInt := i_13
        obtain ⟨hP, hD⟩ := va_join (wr := [(b_nl, (arI G 96 v_nl)), (b_op, (arI G 400 v_op)), (b_ar, (arI G 400 v_ar)), (b_pi, (arI G 400 v_pi)), (b_pa, (arI G 400 v_pa)), (b_ws, (arJ G 8 v_ws)), (b_hw, (arJ G 4 v_hw))]) hP hD [0, 1] [2, 3, 4, 5, 6, 7, 8] rfl rfl (by decide) (by decide) hk1 hFc hP1 hD1
        generalize H1 = H at hP hS ⊢
        refine g5_rs [(b_nl, (arI G 96 v_nl)), (b_op, (arI G 400 v_op)), (b_ar, (arI G 400 v_ar)), (b_pi, (arI G 400 v_pi)), (b_pa, (arI G 400 v_pa)), (b_ws, (arJ G 8 v_ws)), (b_hw, (arJ G 4 v_hw)), (b_o, (oc12 u_th u_sa b_rf b_ro b_im b_ke u_fd b_tp u_td z14 z15 z16 z17 u_fa u_bd u_nc b_nl u_co b_op b_ar u_le b_pi b_pa u_pd u_od b_ws b_hw u_la b_se b_re u_bk u_va u_su u_ce u_ho u_wy u_bt u_ps b_pt u_tg u_sn b_ip u_ic b_ah b_be b_me u_wd b_tr b_ld u_st b_wn u_id)), (b_tp, (arI G 400 v_tp))] hP hD (fun hP hD => ?_)
        refine lv_aload_n hx hb dX12_readClause_57 rfl (lv_at hl 2 rfl) ?_
        refine va_get (D := G.1) (ci := 12) (v := .int u_bd) (C := RX12) (T := TX12) (N := 52) hx hb hts inG_X12 hown hK hP 7 rfl rfl 14 (by decide) (hts _ fl_X12_205) (fun _ h9 => h9) rfl dX12_readClause_58 ?_
        refine lv_if_eq (tgt := 65) hx hb dX12_readClause_61 (by decide) (fun c_18 => ?_) (fun c_18 => ?_)
        ·
          have i_18 : u_bd.toInt = 0 := by have z := g5_eq (a := u_bd.toInt) (b := 0) (by rfl) (by decide) c_18; omega
          refine lv_bipush (v := 8) hx hb dX12_readClause_65 (by decide) ?_
          refine lv_aload_n hx hb dX12_readClause_67 rfl (lv_at hl 2 rfl) ?_
          refine va_get (D := G.1) (ci := 12) (v := .int u_nc) (C := RX12) (T := TX12) (N := 52) hx hb hts inG_X12 hown hK hP 7 rfl rfl 15 (by decide) (hts _ fl_X12_312) (fun _ h9 => h9) rfl dX12_readClause_68 ?_
          refine lv_imul hx hb dX12_readClause_71 ?_
          have t_19 : (8 * u_nc).toInt = 8 * u_nc.toInt := g5_imul (a := 8) (b := u_nc.toInt) (by decide) (by rfl) (by omega) (by omega)
          refine lv_istore_n (lv' := [(2, .int (8 * u_nc)), (1, .int k4_1), (0, .ref b_o)]) hx hb dX12_readClause_72 rfl hl (by decide) rfl (fun ls hl => ?_)
          refine lv_iconst (v := 0) hx hb dX12_readClause_73 (by decide) ?_
          refine lv_istore_n (lv' := [(3, .int 0), (2, .int (8 * u_nc)), (1, .int k4_1), (0, .ref b_o)]) hx hb dX12_readClause_74 rfl hl (by decide) rfl (fun ls hl => ?_)
          refine g5_loop (α := (Int32) × (Nat → Int32)) (fun (q : (Int32) × (Nat → Int32)) (ls : Array Slot) (H : Heap) (locs : List Loc) => match q with | (k75_3, k75_nl) => lv_has ls 4 [(3, .int k75_3), (2, .int (8 * u_nc)), (1, .int k4_1), (0, .ref b_o)] ∧ va_P G.1 vwCl [(b_nl, (arI G 96 k75_nl)), (b_op, (arI G 400 v_op)), (b_ar, (arI G 400 v_ar)), (b_pi, (arI G 400 v_pi)), (b_pa, (arI G 400 v_pa)), (b_ws, (arJ G 8 v_ws)), (b_hw, (arJ G 4 v_hw)), (b_o, (oc12 u_th u_sa b_rf b_ro b_im b_ke u_fd b_tp u_td z14 z15 z16 z17 u_fa u_bd u_nc b_nl u_co b_op b_ar u_le b_pi b_pa u_pd u_od b_ws b_hw u_la b_se b_re u_bk u_va u_su u_ce u_ho u_wy u_bt u_ps b_pt u_tg u_sn b_ip u_ic b_ah b_be b_me u_wd b_tr b_ld u_st b_wn u_id)), (b_tp, (arI G 400 v_tp))] H ∧ va_D A [(b_nl, (arI G 96 k75_nl)), (b_op, (arI G 400 v_op)), (b_ar, (arI G 400 v_ar)), (b_pi, (arI G 400 v_pi)), (b_pa, (arI G 400 v_pa)), (b_ws, (arJ G 8 v_ws)), (b_hw, (arJ G 4 v_hw)), (b_o, (oc12 u_th u_sa b_rf b_ro b_im b_ke u_fd b_tp u_td z14 z15 z16 z17 u_fa u_bd u_nc b_nl u_co b_op b_ar u_le b_pi b_pa u_pd u_od b_ws b_hw u_la b_se b_re u_bk u_va u_su u_ce u_ho u_wy u_bt u_ps b_pt u_tg u_sn b_ip u_ic b_ah b_be b_me u_wd b_tr b_ld u_st b_wn u_id)), (b_tp, (arI G 400 v_tp))] ∧ va_S A s.heap H locs ∧ (0 ≤ k75_3.toInt ∧ k75_3.toInt ≤ 8) ∧ (∀ j : Nat, (j : Int) < 8 * u_nc.toInt → k75_nl j = v_nl j)) (fun (q : (Int32) × (Nat → Int32)) => match q with | (k75_3, k75_nl) => Int.toNat (8 - k75_3.toInt)) (0, v_nl) ⟨lv_sub hl [0, 1, 2, 3] rfl, hP, hD, hS, ⟨by decide, by decide⟩, fun _ _ => rfl⟩ ?_
          rintro ⟨k75_3, k75_nl⟩ ls H locs ⟨hl, hP, hD, hS, i_20, i_21⟩ ih_75_22
          have hl : lv_has ls 4 [(3, .int k75_3), (2, .int (8 * u_nc)), (1, .int k4_1), (0, .ref b_o)] := hl
          have i_20 : 0 ≤ k75_3.toInt ∧ k75_3.toInt ≤ 8 := i_20
          have i_21 : ∀ j : Nat, (j : Int) < 8 * u_nc.toInt → k75_nl j = v_nl j := i_21
          refine g5_rs [(b_nl, (arI G 96 k75_nl)), (b_op, (arI G 400 v_op)), (b_ar, (arI G 400 v_ar)), (b_pi, (arI G 400 v_pi)), (b_pa, (arI G 400 v_pa)), (b_ws, (arJ G 8 v_ws)), (b_hw, (arJ G 4 v_hw)), (b_o, (oc12 u_th u_sa b_rf b_ro b_im b_ke u_fd b_tp u_td z14 z15 z16 z17 u_fa u_bd u_nc b_nl u_co b_op b_ar u_le b_pi b_pa u_pd u_od b_ws b_hw u_la b_se b_re u_bk u_va u_su u_ce u_ho u_wy u_bt u_ps b_pt u_tg u_sn b_ip u_ic b_ah b_be b_me u_wd b_tr b_ld u_st b_wn u_id)), (b_tp, (arI G 400 v_tp))] hP hD (fun hP hD => ?_)
          refine lv_iload_n hx hb dX12_readClause_75 rfl (lv_at hl 0 rfl) ?_
          refine lv_bipush (v := 8) hx hb dX12_readClause_76 (by decide) ?_
          refine lv_icmp_ge (tgt := 96) hx hb dX12_readClause_78 (by decide) (fun c_23 => ?_) (fun c_23 => ?_)
          ·
            have i_23 : k75_3.toInt ≥ 8 := by have z := g5_ge (a := k75_3.toInt) (b := 8) (by rfl) (by decide) c_23; omega
            refine lv_aload_n hx hb dX12_readClause_96 rfl (lv_at hl 3 rfl) ?_
            refine va_get (D := G.1) (ci := 12) (v := .ref b_nl) (C := RX12) (T := TX12) (N := 52) hx hb hts inG_X12 hown hK hP 7 rfl rfl 16 (by decide) (hts _ fl_X12_30) (fun _ h9 => h9) rfl dX12_readClause_97 ?_
            refine lv_iload_n hx hb dX12_readClause_100 rfl (lv_at hl 1 rfl) ?_
            refine lv_iload_n hx hb dX12_readClause_101 rfl (lv_at hl 2 rfl) ?_
            refine va_iast hx hb hK hP hD hS 0 0 rfl rfl (i := (8 * u_nc)) (x := k4_1) (vp_in_iff.mpr ⟨by omega, by omega⟩) dX12_readClause_102 (fun H locs hP hD hS => ?_)
            refine g5_rs [(b_nl, (arI G 96 (upd k75_nl (8 * u_nc).toNatClampNeg k4_1))), (b_op, (arI G 400 v_op)), (b_ar, (arI G 400 v_ar)), (b_pi, (arI G 400 v_pi)), (b_pa, (arI G 400 v_pa)), (b_ws, (arJ G 8 v_ws)), (b_hw, (arJ G 4 v_hw)), (b_o, (oc12 u_th u_sa b_rf b_ro b_im b_ke u_fd b_tp u_td z14 z15 z16 z17 u_fa u_bd u_nc b_nl u_co b_op b_ar u_le b_pi b_pa u_pd u_od b_ws b_hw u_la b_se b_re u_bk u_va u_su u_ce u_ho u_wy u_bt u_ps b_pt u_tg u_sn b_ip u_ic b_ah b_be b_me u_wd b_tr b_ld u_st b_wn u_id)), (b_tp, (arI G 400 v_tp))] hP hD (fun hP hD => ?_)
            refine lv_aload_n hx hb dX12_readClause_103 rfl (lv_at hl 3 rfl) ?_
            refine lv_dup hx hb dX12_readClause_104 rfl ?_
            refine va_get (D := G.1) (ci := 12) (v := .int u_nc) (C := RX12) (T := TX12) (N := 52) hx hb hts inG_X12 hown hK hP 7 rfl rfl 15 (by decide) (hts _ fl_X12_312) (fun _ h9 => h9) rfl dX12_readClause_105 ?_
            refine lv_iconst (v := 1) hx hb dX12_readClause_108 (by decide) ?_
            refine lv_iadd hx hb dX12_readClause_109 ?_
            have t_24 : (u_nc + 1).toInt = u_nc.toInt + 1 := g5_iadd (a := u_nc.toInt) (b := 1) (by rfl) (by decide) (by omega) (by omega)
            refine va_put (D := G.1) (ci := 12) (v := .int (u_nc + 1)) (ty := .int) (C := RX12) (T := TX12) (N := 52) hx hb hts inG_X12 tyX12 tyX12_ok nmX12 hown hK hP hD hS 7 rfl rfl 15 (by decide) (hts _ fl_X12_312) (fun _ h9 => h9) rfl (by decide +kernel) rfl rfl (Nat.le_of_ble_eq_true rfl) dX12_readClause_110 (fun H locs hP hD hS => ?_)
            refine g5_rs [(b_nl, (arI G 96 (upd k75_nl (8 * u_nc).toNatClampNeg k4_1))), (b_op, (arI G 400 v_op)), (b_ar, (arI G 400 v_ar)), (b_pi, (arI G 400 v_pi)), (b_pa, (arI G 400 v_pa)), (b_ws, (arJ G 8 v_ws)), (b_hw, (arJ G 4 v_hw)), (b_o, (oc12 u_th u_sa b_rf b_ro b_im b_ke u_fd b_tp u_td z14 z15 z16 z17 u_fa u_bd (u_nc + 1) b_nl u_co b_op b_ar u_le b_pi b_pa u_pd u_od b_ws b_hw u_la b_se b_re u_bk u_va u_su u_ce u_ho u_wy u_bt u_ps b_pt u_tg u_sn b_ip u_ic b_ah b_be b_me u_wd b_tr b_ld u_st b_wn u_id)), (b_tp, (arI G 400 v_tp))] hP hD (fun hP hD => ?_)
            refine lv_aload_n hx hb dX12_readClause_113 rfl (lv_at hl 3 rfl) ?_
            refine va_get (D := G.1) (ci := 12) (v := .ref b_nl) (C := RX12) (T := TX12) (N := 52) hx hb hts inG_X12 hown hK hP 7 rfl rfl 16 (by decide) (hts _ fl_X12_30) (fun _ h9 => h9) rfl dX12_readClause_114 ?_
            refine lv_iload_n hx hb dX12_readClause_117 rfl (lv_at hl 1 rfl) ?_
            refine lv_iconst (v := 3) hx hb dX12_readClause_118 (by decide) ?_
            refine lv_iadd hx hb dX12_readClause_119 ?_
            have t_25 : ((8 * u_nc) + 3).toInt = (8 * u_nc).toInt + 3 := g5_iadd (a := (8 * u_nc).toInt) (b := 3) (by rfl) (by decide) (by omega) (by omega)
            refine lv_aload_n hx hb dX12_readClause_120 rfl (lv_at hl 3 rfl) ?_
            refine va_get (D := G.1) (ci := 12) (v := .int u_co) (C := RX12) (T := TX12) (N := 52) hx hb hts inG_X12 hown hK hP 7 rfl rfl 17 (by decide) (hts _ fl_X12_237) (fun _ h9 => h9) rfl dX12_readClause_121 ?_
            refine va_iast hx hb hK hP hD hS 0 0 rfl rfl (i := ((8 * u_nc) + 3)) (x := u_co) (vp_in_iff.mpr ⟨by omega, by omega⟩) dX12_readClause_124 (fun H locs hP hD hS => ?_)
            refine g5_rs [(b_nl, (arI G 96 (upd (upd k75_nl (8 * u_nc).toNatClampNeg k4_1) ((8 * u_nc) + 3).toNatClampNeg u_co))), (b_op, (arI G 400 v_op)), (b_ar, (arI G 400 v_ar)), (b_pi, (arI G 400 v_pi)), (b_pa, (arI G 400 v_pa)), (b_ws, (arJ G 8 v_ws)), (b_hw, (arJ G 4 v_hw)), (b_o, (oc12 u_th u_sa b_rf b_ro b_im b_ke u_fd b_tp u_td z14 z15 z16 z17 u_fa u_bd (u_nc + 1) b_nl u_co b_op b_ar u_le b_pi b_pa u_pd u_od b_ws b_hw u_la b_se b_re u_bk u_va u_su u_ce u_ho u_wy u_bt u_ps b_pt u_tg u_sn b_ip u_ic b_ah b_be b_me u_wd b_tr b_ld u_st b_wn u_id)), (b_tp, (arI G 400 v_tp))] hP hD (fun hP hD => ?_)
            refine lv_iload_n hx hb dX12_readClause_125 rfl (lv_at hl 2 rfl) ?_
            refine lv_iconst (v := 2) hx hb dX12_readClause_126 (by decide) ?_
            refine lv_icmp_ge (tgt := 135) hx hb dX12_readClause_127 (by decide) (fun c_26 => ?_) (fun c_26 => ?_)
            ·
              have i_26 : k4_1.toInt ≥ 2 := by have z := g5_ge (a := k4_1.toInt) (b := 2) (by rfl) (by decide) c_26; omega
              refine lv_aload_n hx hb dX12_readClause_135 rfl (lv_at hl 3 rfl) ?_
              refine va_get (D := G.1) (ci := 12) (v := .ref b_nl) (C := RX12) (T := TX12) (N := 52) hx hb hts inG_X12 hown hK hP 7 rfl rfl 16 (by decide) (hts _ fl_X12_30) (fun _ h9 => h9) rfl dX12_readClause_136 ?_
              refine lv_iload_n hx hb dX12_readClause_139 rfl (lv_at hl 1 rfl) ?_
              refine lv_iconst (v := 4) hx hb dX12_readClause_140 (by decide) ?_
              refine lv_iadd hx hb dX12_readClause_141 ?_
              have t_27 : ((8 * u_nc) + 4).toInt = (8 * u_nc).toInt + 4 := g5_iadd (a := (8 * u_nc).toInt) (b := 4) (by rfl) (by decide) (by omega) (by omega)
              refine lv_aload_n hx hb dX12_readClause_142 rfl (lv_at hl 3 rfl) ?_
              refine va_get (D := G.1) (ci := 12) (v := .int u_co) (C := RX12) (T := TX12) (N := 52) hx hb hts inG_X12 hown hK hP 7 rfl rfl 17 (by decide) (hts _ fl_X12_237) (fun _ h9 => h9) rfl dX12_readClause_143 ?_
              refine va_iast hx hb hK hP hD hS 0 0 rfl rfl (i := ((8 * u_nc) + 4)) (x := u_co) (vp_in_iff.mpr ⟨by omega, by omega⟩) dX12_readClause_146 (fun H locs hP hD hS => ?_)
              refine g5_rs [(b_nl, (arI G 96 (upd (upd (upd k75_nl (8 * u_nc).toNatClampNeg k4_1) ((8 * u_nc) + 3).toNatClampNeg u_co) ((8 * u_nc) + 4).toNatClampNeg u_co))), (b_op, (arI G 400 v_op)), (b_ar, (arI G 400 v_ar)), (b_pi, (arI G 400 v_pi)), (b_pa, (arI G 400 v_pa)), (b_ws, (arJ G 8 v_ws)), (b_hw, (arJ G 4 v_hw)), (b_o, (oc12 u_th u_sa b_rf b_ro b_im b_ke u_fd b_tp u_td z14 z15 z16 z17 u_fa u_bd (u_nc + 1) b_nl u_co b_op b_ar u_le b_pi b_pa u_pd u_od b_ws b_hw u_la b_se b_re u_bk u_va u_su u_ce u_ho u_wy u_bt u_ps b_pt u_tg u_sn b_ip u_ic b_ah b_be b_me u_wd b_tr b_ld u_st b_wn u_id)), (b_tp, (arI G 400 v_tp))] hP hD (fun hP hD => ?_)
              refine lv_aload_n hx hb dX12_readClause_147 rfl (lv_at hl 3 rfl) ?_
              refine va_get (D := G.1) (ci := 12) (v := .ref b_nl) (C := RX12) (T := TX12) (N := 52) hx hb hts inG_X12 hown hK hP 7 rfl rfl 16 (by decide) (hts _ fl_X12_30) (fun _ h9 => h9) rfl dX12_readClause_148 ?_
              refine lv_iload_n hx hb dX12_readClause_151 rfl (lv_at hl 1 rfl) ?_
              refine lv_iconst (v := 5) hx hb dX12_readClause_152 (by decide) ?_
              refine lv_iadd hx hb dX12_readClause_153 ?_
              have t_28 : ((8 * u_nc) + 5).toInt = (8 * u_nc).toInt + 5 := g5_iadd (a := (8 * u_nc).toInt) (b := 5) (by rfl) (by decide) (by omega) (by omega)
              refine lv_aload_n hx hb dX12_readClause_154 rfl (lv_at hl 3 rfl) ?_
              refine va_get (D := G.1) (ci := 12) (v := .int u_co) (C := RX12) (T := TX12) (N := 52) hx hb hts inG_X12 hown hK hP 7 rfl rfl 17 (by decide) (hts _ fl_X12_237) (fun _ h9 => h9) rfl dX12_readClause_155 ?_
              refine va_iast hx hb hK hP hD hS 0 0 rfl rfl (i := ((8 * u_nc) + 5)) (x := u_co) (vp_in_iff.mpr ⟨by omega, by omega⟩) dX12_readClause_158 (fun H locs hP hD hS => ?_)
              refine g5_rs [(b_nl, (arI G 96 (upd (upd (upd (upd k75_nl (8 * u_nc).toNatClampNeg k4_1) ((8 * u_nc) + 3).toNatClampNeg u_co) ((8 * u_nc) + 4).toNatClampNeg u_co) ((8 * u_nc) + 5).toNatClampNeg u_co))), (b_op, (arI G 400 v_op)), (b_ar, (arI G 400 v_ar)), (b_pi, (arI G 400 v_pi)), (b_pa, (arI G 400 v_pa)), (b_ws, (arJ G 8 v_ws)), (b_hw, (arJ G 4 v_hw)), (b_o, (oc12 u_th u_sa b_rf b_ro b_im b_ke u_fd b_tp u_td z14 z15 z16 z17 u_fa u_bd (u_nc + 1) b_nl u_co b_op b_ar u_le b_pi b_pa u_pd u_od b_ws b_hw u_la b_se b_re u_bk u_va u_su u_ce u_ho u_wy u_bt u_ps b_pt u_tg u_sn b_ip u_ic b_ah b_be b_me u_wd b_tr b_ld u_st b_wn u_id)), (b_tp, (arI G 400 v_tp))] hP hD (fun hP hD => ?_)
              refine lv_aload_n hx hb dX12_readClause_159 rfl (lv_at hl 3 rfl) ?_
              refine va_get (D := G.1) (ci := 12) (v := .int u_bd) (C := RX12) (T := TX12) (N := 52) hx hb hts inG_X12 hown hK hP 7 rfl rfl 14 (by decide) (hts _ fl_X12_205) (fun _ h9 => h9) rfl dX12_readClause_160 ?_
              refine lv_if_ne (tgt := 185) hx hb dX12_readClause_163 (by decide) (fun c_29 => ?_) (fun c_29 => ?_)
              ·
                have i_29 : u_bd.toInt ≠ 0 := by have z := g5_ne (a := u_bd.toInt) (b := 0) (by rfl) (by decide) c_29; omega
                omega
              ·
                have i_29 : u_bd.toInt = 0 := by have z := g5_neN (a := u_bd.toInt) (b := 0) (by rfl) (by decide) c_29; omega
                refine lv_aload_n hx hb dX12_readClause_166 rfl (lv_at hl 3 rfl) ?_
                refine lv_ldc2 (v := 294) hx hb hown (hts _ kl_X12_318) dX12_readClause_167 ?_
                obtain ⟨hPc, hDc, hFc⟩ := g5_sub3 (wc := [(b_o, (oc12 u_th u_sa b_rf b_ro b_im b_ke u_fd b_tp u_td z14 z15 z16 z17 u_fa u_bd (u_nc + 1) b_nl u_co b_op b_ar u_le b_pi b_pa u_pd u_od b_ws b_hw u_la b_se b_re u_bk u_va u_su u_ce u_ho u_wy u_bt u_ps b_pt u_tg u_sn b_ip u_ic b_ah b_be b_me u_wd b_tr b_ld u_st b_wn u_id))]) hP hD hS hA [7] (by decide) rfl
                refine va_calli (va_runV (As := [.long 294]) (rest := []) ⟨hx, hb, hml, hown, hts⟩ (n_isWord l G b_o b_rf b_ro b_im b_ke b_tp b_nl b_op b_ar b_pi b_pa b_ws b_hw b_se b_re b_pt b_ip b_ah b_be b_me b_tr b_ld b_wn H.size u_th u_sa u_fd u_td z14 z15 z16 u_fa u_bd (u_nc + 1) u_co u_le u_pd u_od u_la u_bk u_ce u_ho u_wy u_bt u_ps u_tg u_sn u_ic u_wd u_id z17 u_va u_su u_st 294 h_u_td i_10 i_11 ⟨by omega, by omega⟩ ⟨by omega, by omega⟩ h_u_co h_u_pd h_u_la h_u_bk h_u_ce h_u_ho h_u_wy h_u_bt h_u_ps h_u_ic h_u_id) (cwV 1 hts gV_X12_254 rfl rfl rfl hv_X12_isWord ⟨Nat.le_of_ble_eq_true rfl, Nat.le_of_ble_eq_true rfl⟩) (g5_preV hPc hK hDc hN hT hS hFc (ci := 12) (q0 := 0) rfl rfl) rfl rfl hl.1 rfl (lv_room (Nat.le_of_ble_eq_true rfl)) dX12_readClause_170 ⟨Nat.le_of_ble_eq_true rfl, Nat.le_of_ble_eq_true rfl⟩) hS (fun q _ h => hFc q h) hFc (fun r u t H1 locs ht hvm hw hB hz1 hk1 hS => ?_)
                obtain ⟨hP1, hD1⟩ := hB
                rw [ht] at hP1
                rcases hw with ⟨i_30, rfl, rfl⟩ | ⟨rfl, rfl⟩
                ·
                  have i_30 : z16.toInt = 1 := i_30
                  obtain ⟨hP, hD⟩ := va_join (wr := [(b_nl, (arI G 96 (upd (upd (upd (upd k75_nl (8 * u_nc).toNatClampNeg k4_1) ((8 * u_nc) + 3).toNatClampNeg u_co) ((8 * u_nc) + 4).toNatClampNeg u_co) ((8 * u_nc) + 5).toNatClampNeg u_co))), (b_op, (arI G 400 v_op)), (b_ar, (arI G 400 v_ar)), (b_pi, (arI G 400 v_pi)), (b_pa, (arI G 400 v_pa)), (b_ws, (arJ G 8 v_ws)), (b_hw, (arJ G 4 v_hw)), (b_tp, (arI G 400 v_tp))]) hP hD [7] [0, 1, 2, 3, 4, 5, 6, 8] rfl rfl (by decide) (by decide) hk1 hFc hP1 hD1
                  generalize H1 = H at hP hS ⊢
                  refine g5_rs [(b_nl, (arI G 96 (upd (upd (upd (upd k75_nl (8 * u_nc).toNatClampNeg k4_1) ((8 * u_nc) + 3).toNatClampNeg u_co) ((8 * u_nc) + 4).toNatClampNeg u_co) ((8 * u_nc) + 5).toNatClampNeg u_co))), (b_op, (arI G 400 v_op)), (b_ar, (arI G 400 v_ar)), (b_pi, (arI G 400 v_pi)), (b_pa, (arI G 400 v_pa)), (b_ws, (arJ G 8 v_ws)), (b_hw, (arJ G 4 v_hw)), (b_tp, (arI G 400 v_tp)), (b_o, (oc12 u_th u_sa b_rf b_ro b_im b_ke u_fd b_tp u_td z14 z15 z16 z17 u_fa u_bd (u_nc + 1) b_nl u_co b_op b_ar u_le b_pi b_pa u_pd u_od b_ws b_hw u_la b_se b_re u_bk u_va u_su u_ce u_ho u_wy u_bt u_ps b_pt u_tg u_sn b_ip u_ic b_ah b_be b_me u_wd b_tr b_ld u_st b_wn u_id))] hP hD (fun hP hD => ?_)
                  refine lv_if_eq (tgt := 185) hx hb dX12_readClause_173 (by decide) (fun c_31 => ?_) (fun c_31 => ?_)
                  ·
                    exact absurd c_31 (by decide)
                  ·
                    have hlt8 : z14.toInt < z15.toInt := tks_lt i_13 (by omega)
                    refine lv_aload_n hx hb dX12_readClause_176 rfl (lv_at hl 3 rfl) ?_
                    obtain ⟨hPc, hDc, hFc⟩ := g5_sub3 (wc := [(b_o, (oc12 u_th u_sa b_rf b_ro b_im b_ke u_fd b_tp u_td z14 z15 z16 z17 u_fa u_bd (u_nc + 1) b_nl u_co b_op b_ar u_le b_pi b_pa u_pd u_od b_ws b_hw u_la b_se b_re u_bk u_va u_su u_ce u_ho u_wy u_bt u_ps b_pt u_tg u_sn b_ip u_ic b_ah b_be b_me u_wd b_tr b_ld u_st b_wn u_id)), (b_tp, (arI G 400 v_tp))]) hP hD hS hA [8, 7] (by decide) rfl
                    refine va_callv (va_runV (As := []) (rest := []) ⟨hx, hb, hml, hown, hts⟩ (n_next l G b_o b_tp b_rf b_ro b_im b_ke b_nl b_op b_ar b_pi b_pa b_ws b_hw b_se b_re b_pt b_ip b_ah b_be b_me b_tr b_ld b_wn H.size u_th u_sa u_fd u_td z14 z15 z16 u_fa u_bd (u_nc + 1) u_co u_le u_pd u_od u_la u_bk u_ce u_ho u_wy u_bt u_ps u_tg u_sn u_ic u_wd u_id z17 u_va u_su u_st v_tp h_u_td i_10 i_11 ⟨by omega, by omega⟩ ⟨by omega, by omega⟩ h_u_co h_u_pd h_u_la h_u_bk h_u_ce h_u_ho h_u_wy h_u_bt h_u_ps h_u_ic h_u_id (by omega)) (cwV 0 hts gV_X12_208 rfl rfl rfl hv_X12_next ⟨Nat.le_of_ble_eq_true rfl, Nat.le_of_ble_eq_true rfl⟩) (g5_preV hPc hK hDc hN hT hS hFc (ci := 12) (q0 := 0) rfl rfl) rfl rfl hl.1 rfl (lv_room (Nat.le_of_ble_eq_true rfl)) dX12_readClause_177 ⟨Nat.le_of_ble_eq_true rfl, Nat.le_of_ble_eq_true rfl⟩) hS (fun q _ h => hFc q h) hFc (fun u t H1 locs ht hvm hw hB hz1 hk1 hS => ?_)
                    obtain ⟨hP1, hD1⟩ := hB
                    rw [ht] at hP1
                    obtain ⟨z36, z37, z38, z39, i_32, i_33, i_34, i_35, rfl⟩ := hw
                    have i_32 : 0 ≤ z36.toInt ∧ z36.toInt ≤ 400 := i_32
                    have i_33 : 0 ≤ z37.toInt ∧ z37.toInt ≤ 400 := i_33
                    have i_34 : z15.toInt ≤ z36.toInt ∧ z36.toInt ≤ z37.toInt ∧ z37.toInt ≤ u_td.toInt := i_34
                    have i_35 : TKs z38.toInt z36.toInt z37.toInt := i_35
                    obtain ⟨hP, hD⟩ := va_join (wr := [(b_nl, (arI G 96 (upd (upd (upd (upd k75_nl (8 * u_nc).toNatClampNeg k4_1) ((8 * u_nc) + 3).toNatClampNeg u_co) ((8 * u_nc) + 4).toNatClampNeg u_co) ((8 * u_nc) + 5).toNatClampNeg u_co))), (b_op, (arI G 400 v_op)), (b_ar, (arI G 400 v_ar)), (b_pi, (arI G 400 v_pi)), (b_pa, (arI G 400 v_pa)), (b_ws, (arJ G 8 v_ws)), (b_hw, (arJ G 4 v_hw))]) hP hD [8, 7] [0, 1, 2, 3, 4, 5, 6] rfl rfl (by decide) (by decide) hk1 hFc hP1 hD1
                    generalize H1 = H at hP hS ⊢
                    refine g5_rs [(b_nl, (arI G 96 (upd (upd (upd (upd k75_nl (8 * u_nc).toNatClampNeg k4_1) ((8 * u_nc) + 3).toNatClampNeg u_co) ((8 * u_nc) + 4).toNatClampNeg u_co) ((8 * u_nc) + 5).toNatClampNeg u_co))), (b_op, (arI G 400 v_op)), (b_ar, (arI G 400 v_ar)), (b_pi, (arI G 400 v_pi)), (b_pa, (arI G 400 v_pa)), (b_ws, (arJ G 8 v_ws)), (b_hw, (arJ G 4 v_hw)), (b_o, (oc12 u_th u_sa b_rf b_ro b_im b_ke u_fd b_tp u_td z36 z37 z38 z39 u_fa u_bd (u_nc + 1) b_nl u_co b_op b_ar u_le b_pi b_pa u_pd u_od b_ws b_hw u_la b_se b_re u_bk u_va u_su u_ce u_ho u_wy u_bt u_ps b_pt u_tg u_sn b_ip u_ic b_ah b_be b_me u_wd b_tr b_ld u_st b_wn u_id)), (b_tp, (arI G 400 v_tp))] hP hD (fun hP hD => ?_)
                    refine lv_aload_n hx hb dX12_readClause_180 rfl (lv_at hl 3 rfl) ?_
                    refine lv_iconst (v := 1) hx hb dX12_readClause_181 (by decide) ?_
                    obtain ⟨hPc, hDc, hFc⟩ := g5_sub3 (wc := [(b_o, (oc12 u_th u_sa b_rf b_ro b_im b_ke u_fd b_tp u_td z36 z37 z38 z39 u_fa u_bd (u_nc + 1) b_nl u_co b_op b_ar u_le b_pi b_pa u_pd u_od b_ws b_hw u_la b_se b_re u_bk u_va u_su u_ce u_ho u_wy u_bt u_ps b_pt u_tg u_sn b_ip u_ic b_ah b_be b_me u_wd b_tr b_ld u_st b_wn u_id)), (b_tp, (arI G 400 v_tp)), (b_op, (arI G 400 v_op)), (b_ar, (arI G 400 v_ar)), (b_pi, (arI G 400 v_pi)), (b_pa, (arI G 400 v_pa)), (b_ws, (arJ G 8 v_ws))]) hP hD hS hA [7, 8, 1, 2, 3, 4, 5] (by decide) rfl
                    refine va_callv (va_runV (As := [.int 1]) (rest := []) ⟨hx, hb, hml, hown, hts⟩ (n_readExpression l G b_o b_tp b_op b_ar b_pi b_pa b_ws b_rf b_ro b_im b_ke b_nl b_hw b_se b_re b_pt b_ip b_ah b_be b_me b_tr b_ld b_wn H.size u_th u_sa u_fd u_td z36 z37 z38 u_fa u_bd (u_nc + 1) u_co u_le u_pd u_od u_la u_bk u_ce u_ho u_wy u_bt u_ps u_tg u_sn u_ic u_wd u_id 1 z39 u_va u_su u_st v_tp v_op v_ar v_pi v_pa v_ws h_u_td i_32 i_33 h_u_bd ⟨by omega, by omega⟩ h_u_co h_u_pd h_u_la h_u_bk h_u_ce h_u_ho h_u_wy h_u_bt h_u_ps h_u_ic h_u_id ⟨by decide, by decide⟩ (by omega) (i_35) (by omega)) (cwV 1 hts gV_X12_315 rfl rfl rfl hv_X12_readExpression ⟨Nat.le_of_ble_eq_true rfl, Nat.le_of_ble_eq_true rfl⟩) (g5_preV hPc hK hDc hN hT hS hFc (ci := 12) (q0 := 0) rfl rfl) rfl rfl hl.1 rfl (lv_room (Nat.le_of_ble_eq_true rfl)) dX12_readClause_182 ⟨Nat.le_of_ble_eq_true rfl, Nat.le_of_ble_eq_true rfl⟩) hS (fun q _ h => hFc q h) hFc (fun u t H1 locs ht hvm hw hB hz1 hk1 hS => ?_)
                    obtain ⟨hP1, hD1⟩ := hB
                    rw [ht] at hP1
                    obtain ⟨z50, z51, z52, z53, z54, z55, z56, z57, z58, z59, z60, z61, z62, z63, i_40, i_41, i_42, i_43, i_44, i_45, i_46, i_47, i_48, i_49, rfl⟩ := hw
                    have i_40 : 0 ≤ z50.toInt ∧ z50.toInt ≤ 400 := i_40
                    have i_41 : 0 ≤ z51.toInt ∧ z51.toInt ≤ 400 := i_41
                    have i_42 : 0 ≤ z55.toInt ∧ z55.toInt ≤ 1 := i_42
                    have i_43 : 0 ≤ z56.toInt ∧ z56.toInt ≤ 400 := i_43
                    have i_44 : 0 ≤ z58.toInt ∧ z58.toInt ≤ 400 := i_44
                    have i_45 : z36.toInt ≤ z50.toInt ∧ z50.toInt ≤ z51.toInt ∧ z51.toInt ≤ u_td.toInt := i_45
                    have i_46 : TKs z52.toInt z50.toInt z51.toInt := i_46
                    have i_47 : KP v_op v_ar z60 z61 u_co.toInt := i_47
                    have i_48 : u_co.toInt ≤ z56.toInt ∧ z56.toInt ≤ z50.toInt := i_48
                    have i_49 : z55.toInt = 0 → cdN z60 z61 u_co.toInt z56.toInt := i_49
                    obtain ⟨hP, hD⟩ := va_join (wr := [(b_nl, (arI G 96 (upd (upd (upd (upd k75_nl (8 * u_nc).toNatClampNeg k4_1) ((8 * u_nc) + 3).toNatClampNeg u_co) ((8 * u_nc) + 4).toNatClampNeg u_co) ((8 * u_nc) + 5).toNatClampNeg u_co))), (b_hw, (arJ G 4 v_hw))]) hP hD [7, 8, 1, 2, 3, 4, 5] [0, 6] rfl rfl (by decide) (by decide) hk1 hFc hP1 hD1
                    generalize H1 = H at hP hS ⊢
                    refine g5_rs [(b_nl, (arI G 96 (upd (upd (upd (upd k75_nl (8 * u_nc).toNatClampNeg k4_1) ((8 * u_nc) + 3).toNatClampNeg u_co) ((8 * u_nc) + 4).toNatClampNeg u_co) ((8 * u_nc) + 5).toNatClampNeg u_co))), (b_hw, (arJ G 4 v_hw)), (b_o, (oc12 u_th u_sa b_rf b_ro b_im b_ke u_fd b_tp u_td z50 z51 z52 z53 z54 z55 (u_nc + 1) b_nl z56 b_op b_ar z57 b_pi b_pa z58 z59 b_ws b_hw u_la b_se b_re u_bk u_va u_su u_ce u_ho u_wy u_bt u_ps b_pt u_tg u_sn b_ip u_ic b_ah b_be b_me u_wd b_tr b_ld u_st b_wn u_id)), (b_tp, (arI G 400 v_tp)), (b_op, (arI G 400 z60)), (b_ar, (arI G 400 z61)), (b_pi, (arI G 400 z62)), (b_pa, (arI G 400 z63)), (b_ws, (arJ G 8 v_ws))] hP hD (fun hP hD => ?_)
                    refine lv_aload_n hx hb dX12_readClause_185 rfl (lv_at hl 3 rfl) ?_
                    refine va_get (D := G.1) (ci := 12) (v := .ref b_nl) (C := RX12) (T := TX12) (N := 52) hx hb hts inG_X12 hown hK hP 2 rfl rfl 16 (by decide) (hts _ fl_X12_30) (fun _ h9 => h9) rfl dX12_readClause_186 ?_
                    refine lv_iload_n hx hb dX12_readClause_189 rfl (lv_at hl 1 rfl) ?_
                    refine lv_bipush (v := 6) hx hb dX12_readClause_190 (by decide) ?_
                    refine lv_iadd hx hb dX12_readClause_192 ?_
                    have t_64 : ((8 * u_nc) + 6).toInt = (8 * u_nc).toInt + 6 := g5_iadd (a := (8 * u_nc).toInt) (b := 6) (by rfl) (by decide) (by omega) (by omega)
                    refine lv_aload_n hx hb dX12_readClause_193 rfl (lv_at hl 3 rfl) ?_
                    refine va_get (D := G.1) (ci := 12) (v := .int z56) (C := RX12) (T := TX12) (N := 52) hx hb hts inG_X12 hown hK hP 2 rfl rfl 17 (by decide) (hts _ fl_X12_237) (fun _ h9 => h9) rfl dX12_readClause_194 ?_
                    refine va_iast hx hb hK hP hD hS 0 0 rfl rfl (i := ((8 * u_nc) + 6)) (x := z56) (vp_in_iff.mpr ⟨by omega, by omega⟩) dX12_readClause_197 (fun H locs hP hD hS => ?_)
                    refine g5_rs [(b_nl, (arI G 96 (upd (upd (upd (upd (upd k75_nl (8 * u_nc).toNatClampNeg k4_1) ((8 * u_nc) + 3).toNatClampNeg u_co) ((8 * u_nc) + 4).toNatClampNeg u_co) ((8 * u_nc) + 5).toNatClampNeg u_co) ((8 * u_nc) + 6).toNatClampNeg z56))), (b_hw, (arJ G 4 v_hw)), (b_o, (oc12 u_th u_sa b_rf b_ro b_im b_ke u_fd b_tp u_td z50 z51 z52 z53 z54 z55 (u_nc + 1) b_nl z56 b_op b_ar z57 b_pi b_pa z58 z59 b_ws b_hw u_la b_se b_re u_bk u_va u_su u_ce u_ho u_wy u_bt u_ps b_pt u_tg u_sn b_ip u_ic b_ah b_be b_me u_wd b_tr b_ld u_st b_wn u_id)), (b_tp, (arI G 400 v_tp)), (b_op, (arI G 400 z60)), (b_ar, (arI G 400 z61)), (b_pi, (arI G 400 z62)), (b_pa, (arI G 400 z63)), (b_ws, (arJ G 8 v_ws))] hP hD (fun hP hD => ?_)
                    exact W.vret hx hb hr (fun t ht hW => ⟨⟨[(b_o, (oc12 u_th u_sa b_rf b_ro b_im b_ke u_fd b_tp u_td z50 z51 z52 z53 z54 z55 (u_nc + 1) b_nl z56 b_op b_ar z57 b_pi b_pa z58 z59 b_ws b_hw u_la b_se b_re u_bk u_va u_su u_ce u_ho u_wy u_bt u_ps b_pt u_tg u_sn b_ip u_ic b_ah b_be b_me u_wd b_tr b_ld u_st b_wn u_id)), (b_tp, (arI G 400 v_tp)), (b_nl, (arI G 96 (upd (upd (upd (upd (upd k75_nl (8 * u_nc).toNatClampNeg k4_1) ((8 * u_nc) + 3).toNatClampNeg u_co) ((8 * u_nc) + 4).toNatClampNeg u_co) ((8 * u_nc) + 5).toNatClampNeg u_co) ((8 * u_nc) + 6).toNatClampNeg z56))), (b_op, (arI G 400 z60)), (b_ar, (arI G 400 z61)), (b_pi, (arI G 400 z62)), (b_pa, (arI G 400 z63)), (b_ws, (arJ G 8 v_ws)), (b_hw, (arJ G 4 v_hw))], rfl, Or.inr (⟨z50, z51, z52, z53, z54, z55, (u_nc + 1), z56, z57, z58, z59, (upd (upd (upd (upd (upd k75_nl (8 * u_nc).toNatClampNeg k4_1) ((8 * u_nc) + 3).toNatClampNeg u_co) ((8 * u_nc) + 4).toNatClampNeg u_co) ((8 * u_nc) + 5).toNatClampNeg u_co) ((8 * u_nc) + 6).toNatClampNeg z56), z60, z61, z62, z63, i_40, i_41, i_42, ⟨by omega, by omega⟩, i_43, i_44, by omega, i_46, by omega, fun q9 => lwj_new e_l i_21 i_47 (by omega) (by omega) (by omega) (by omega) (by omega) (by omega) (by omega) (by omega) (by omega) (by omega) ⟨by omega, by omega⟩ (fun q8 => absurd q8 (by omega)) (i_49 q9), rfl⟩), by rw [ht]; exact hP.sub [2, 3, 0, 4, 5, 6, 7, 8, 1] rfl, hD.sub [2, 3, 0, 4, 5, 6, 7, 8, 1] (by decide) rfl⟩, hS.F ht⟩) hS.2.2 dX12_readClause_198
                ·
                  obtain ⟨hP, hD⟩ := va_join (wr := [(b_nl, (arI G 96 (upd (upd (upd (upd k75_nl (8 * u_nc).toNatClampNeg k4_1) ((8 * u_nc) + 3).toNatClampNeg u_co) ((8 * u_nc) + 4).toNatClampNeg u_co) ((8 * u_nc) + 5).toNatClampNeg u_co))), (b_op, (arI G 400 v_op)), (b_ar, (arI G 400 v_ar)), (b_pi, (arI G 400 v_pi)), (b_pa, (arI G 400 v_pa)), (b_ws, (arJ G 8 v_ws)), (b_hw, (arJ G 4 v_hw)), (b_tp, (arI G 400 v_tp))]) hP hD [7] [0, 1, 2, 3, 4, 5, 6, 8] rfl rfl (by decide) (by decide) hk1 hFc hP1 hD1
                  generalize H1 = H at hP hS ⊢
                  refine g5_rs [(b_nl, (arI G 96 (upd (upd (upd (upd k75_nl (8 * u_nc).toNatClampNeg k4_1) ((8 * u_nc) + 3).toNatClampNeg u_co) ((8 * u_nc) + 4).toNatClampNeg u_co) ((8 * u_nc) + 5).toNatClampNeg u_co))), (b_op, (arI G 400 v_op)), (b_ar, (arI G 400 v_ar)), (b_pi, (arI G 400 v_pi)), (b_pa, (arI G 400 v_pa)), (b_ws, (arJ G 8 v_ws)), (b_hw, (arJ G 4 v_hw)), (b_tp, (arI G 400 v_tp)), (b_o, (oc12 u_th u_sa b_rf b_ro b_im b_ke u_fd b_tp u_td z14 z15 z16 z17 u_fa u_bd (u_nc + 1) b_nl u_co b_op b_ar u_le b_pi b_pa u_pd u_od b_ws b_hw u_la b_se b_re u_bk u_va u_su u_ce u_ho u_wy u_bt u_ps b_pt u_tg u_sn b_ip u_ic b_ah b_be b_me u_wd b_tr b_ld u_st b_wn u_id))] hP hD (fun hP hD => ?_)
                  refine lv_if_eq (tgt := 185) hx hb dX12_readClause_173 (by decide) (fun c_65 => ?_) (fun c_65 => ?_)
                  ·
                    refine lv_aload_n hx hb dX12_readClause_185 rfl (lv_at hl 3 rfl) ?_
                    refine va_get (D := G.1) (ci := 12) (v := .ref b_nl) (C := RX12) (T := TX12) (N := 52) hx hb hts inG_X12 hown hK hP 8 rfl rfl 16 (by decide) (hts _ fl_X12_30) (fun _ h9 => h9) rfl dX12_readClause_186 ?_
                    refine lv_iload_n hx hb dX12_readClause_189 rfl (lv_at hl 1 rfl) ?_
                    refine lv_bipush (v := 6) hx hb dX12_readClause_190 (by decide) ?_
                    refine lv_iadd hx hb dX12_readClause_192 ?_
                    have t_66 : ((8 * u_nc) + 6).toInt = (8 * u_nc).toInt + 6 := g5_iadd (a := (8 * u_nc).toInt) (b := 6) (by rfl) (by decide) (by omega) (by omega)
                    refine lv_aload_n hx hb dX12_readClause_193 rfl (lv_at hl 3 rfl) ?_
                    refine va_get (D := G.1) (ci := 12) (v := .int u_co) (C := RX12) (T := TX12) (N := 52) hx hb hts inG_X12 hown hK hP 8 rfl rfl 17 (by decide) (hts _ fl_X12_237) (fun _ h9 => h9) rfl dX12_readClause_194 ?_
                    refine va_iast hx hb hK hP hD hS 0 0 rfl rfl (i := ((8 * u_nc) + 6)) (x := u_co) (vp_in_iff.mpr ⟨by omega, by omega⟩) dX12_readClause_197 (fun H locs hP hD hS => ?_)
                    refine g5_rs [(b_nl, (arI G 96 (upd (upd (upd (upd (upd k75_nl (8 * u_nc).toNatClampNeg k4_1) ((8 * u_nc) + 3).toNatClampNeg u_co) ((8 * u_nc) + 4).toNatClampNeg u_co) ((8 * u_nc) + 5).toNatClampNeg u_co) ((8 * u_nc) + 6).toNatClampNeg u_co))), (b_op, (arI G 400 v_op)), (b_ar, (arI G 400 v_ar)), (b_pi, (arI G 400 v_pi)), (b_pa, (arI G 400 v_pa)), (b_ws, (arJ G 8 v_ws)), (b_hw, (arJ G 4 v_hw)), (b_tp, (arI G 400 v_tp)), (b_o, (oc12 u_th u_sa b_rf b_ro b_im b_ke u_fd b_tp u_td z14 z15 z16 z17 u_fa u_bd (u_nc + 1) b_nl u_co b_op b_ar u_le b_pi b_pa u_pd u_od b_ws b_hw u_la b_se b_re u_bk u_va u_su u_ce u_ho u_wy u_bt u_ps b_pt u_tg u_sn b_ip u_ic b_ah b_be b_me u_wd b_tr b_ld u_st b_wn u_id))] hP hD (fun hP hD => ?_)
                    exact W.vret hx hb hr (fun t ht hW => ⟨⟨[(b_o, (oc12 u_th u_sa b_rf b_ro b_im b_ke u_fd b_tp u_td z14 z15 z16 z17 u_fa u_bd (u_nc + 1) b_nl u_co b_op b_ar u_le b_pi b_pa u_pd u_od b_ws b_hw u_la b_se b_re u_bk u_va u_su u_ce u_ho u_wy u_bt u_ps b_pt u_tg u_sn b_ip u_ic b_ah b_be b_me u_wd b_tr b_ld u_st b_wn u_id)), (b_tp, (arI G 400 v_tp)), (b_nl, (arI G 96 (upd (upd (upd (upd (upd k75_nl (8 * u_nc).toNatClampNeg k4_1) ((8 * u_nc) + 3).toNatClampNeg u_co) ((8 * u_nc) + 4).toNatClampNeg u_co) ((8 * u_nc) + 5).toNatClampNeg u_co) ((8 * u_nc) + 6).toNatClampNeg u_co))), (b_op, (arI G 400 v_op)), (b_ar, (arI G 400 v_ar)), (b_pi, (arI G 400 v_pi)), (b_pa, (arI G 400 v_pa)), (b_ws, (arJ G 8 v_ws)), (b_hw, (arJ G 4 v_hw))], rfl, Or.inr (⟨z14, z15, z16, z17, u_fa, u_bd, (u_nc + 1), u_co, u_le, u_pd, u_od, (upd (upd (upd (upd (upd k75_nl (8 * u_nc).toNatClampNeg k4_1) ((8 * u_nc) + 3).toNatClampNeg u_co) ((8 * u_nc) + 4).toNatClampNeg u_co) ((8 * u_nc) + 5).toNatClampNeg u_co) ((8 * u_nc) + 6).toNatClampNeg u_co), v_op, v_ar, v_pi, v_pa, i_10, i_11, ⟨by omega, by omega⟩, ⟨by omega, by omega⟩, h_u_co, h_u_pd, by omega, i_13, by omega, fun q9 => lwj_new e_l i_21 kp_rf (by omega) (by omega) (by omega) (by omega) (by omega) (by omega) (by omega) (by omega) (by omega) (by omega) ⟨by omega, by omega⟩ (fun q8 => absurd q8 (by omega)) cdN_empty, rfl⟩), by rw [ht]; exact hP.sub [8, 7, 0, 1, 2, 3, 4, 5, 6] rfl, hD.sub [8, 7, 0, 1, 2, 3, 4, 5, 6] (by decide) rfl⟩, hS.F ht⟩) hS.2.2 dX12_readClause_198
                  ·
                    exact absurd c_65 (by decide)
            ·
              have i_26 : k4_1.toInt < 2 := by have z := g5_geN (a := k4_1.toInt) (b := 2) (by rfl) (by decide) c_26; omega
              refine lv_aload_n hx hb dX12_readClause_130 rfl (lv_at hl 3 rfl) ?_
              refine lv_iconst (v := 0) hx hb dX12_readClause_131 (by decide) ?_
              obtain ⟨hPc, hDc, hFc⟩ := g5_sub3 (wc := [(b_o, (oc12 u_th u_sa b_rf b_ro b_im b_ke u_fd b_tp u_td z14 z15 z16 z17 u_fa u_bd (u_nc + 1) b_nl u_co b_op b_ar u_le b_pi b_pa u_pd u_od b_ws b_hw u_la b_se b_re u_bk u_va u_su u_ce u_ho u_wy u_bt u_ps b_pt u_tg u_sn b_ip u_ic b_ah b_be b_me u_wd b_tr b_ld u_st b_wn u_id)), (b_tp, (arI G 400 v_tp)), (b_op, (arI G 400 v_op)), (b_ar, (arI G 400 v_ar)), (b_pi, (arI G 400 v_pi)), (b_pa, (arI G 400 v_pa)), (b_ws, (arJ G 8 v_ws))]) hP hD hS hA [7, 8, 1, 2, 3, 4, 5] (by decide) rfl
              refine va_callv (va_runV (As := [.int 0]) (rest := []) ⟨hx, hb, hml, hown, hts⟩ (n_readExpression l G b_o b_tp b_op b_ar b_pi b_pa b_ws b_rf b_ro b_im b_ke b_nl b_hw b_se b_re b_pt b_ip b_ah b_be b_me b_tr b_ld b_wn H.size u_th u_sa u_fd u_td z14 z15 z16 u_fa u_bd (u_nc + 1) u_co u_le u_pd u_od u_la u_bk u_ce u_ho u_wy u_bt u_ps u_tg u_sn u_ic u_wd u_id 0 z17 u_va u_su u_st v_tp v_op v_ar v_pi v_pa v_ws h_u_td i_10 i_11 h_u_bd ⟨by omega, by omega⟩ h_u_co h_u_pd h_u_la h_u_bk h_u_ce h_u_ho h_u_wy h_u_bt h_u_ps h_u_ic h_u_id ⟨by decide, by decide⟩ (by omega) (i_13) (by omega)) (cwV 1 hts gV_X12_315 rfl rfl rfl hv_X12_readExpression ⟨Nat.le_of_ble_eq_true rfl, Nat.le_of_ble_eq_true rfl⟩) (g5_preV hPc hK hDc hN hT hS hFc (ci := 12) (q0 := 0) rfl rfl) rfl rfl hl.1 rfl (lv_room (Nat.le_of_ble_eq_true rfl)) dX12_readClause_132 ⟨Nat.le_of_ble_eq_true rfl, Nat.le_of_ble_eq_true rfl⟩) hS (fun q _ h => hFc q h) hFc (fun u t H1 locs ht hvm hw hB hz1 hk1 hS => ?_)
              obtain ⟨hP1, hD1⟩ := hB
              rw [ht] at hP1
              obtain ⟨z77, z78, z79, z80, z81, z82, z83, z84, z85, z86, z87, z88, z89, z90, i_67, i_68, i_69, i_70, i_71, i_72, i_73, i_74, i_75, i_76, rfl⟩ := hw
              have i_67 : 0 ≤ z77.toInt ∧ z77.toInt ≤ 400 := i_67
              have i_68 : 0 ≤ z78.toInt ∧ z78.toInt ≤ 400 := i_68
              have i_69 : 0 ≤ z82.toInt ∧ z82.toInt ≤ 1 := i_69
              have i_70 : 0 ≤ z83.toInt ∧ z83.toInt ≤ 400 := i_70
              have i_71 : 0 ≤ z85.toInt ∧ z85.toInt ≤ 400 := i_71
              have i_72 : z14.toInt ≤ z77.toInt ∧ z77.toInt ≤ z78.toInt ∧ z78.toInt ≤ u_td.toInt := i_72
              have i_73 : TKs z79.toInt z77.toInt z78.toInt := i_73
              have i_74 : KP v_op v_ar z87 z88 u_co.toInt := i_74
              have i_75 : u_co.toInt ≤ z83.toInt ∧ z83.toInt ≤ z77.toInt := i_75
              have i_76 : z82.toInt = 0 → cdN z87 z88 u_co.toInt z83.toInt := i_76
              obtain ⟨hP, hD⟩ := va_join (wr := [(b_nl, (arI G 96 (upd (upd k75_nl (8 * u_nc).toNatClampNeg k4_1) ((8 * u_nc) + 3).toNatClampNeg u_co))), (b_hw, (arJ G 4 v_hw))]) hP hD [7, 8, 1, 2, 3, 4, 5] [0, 6] rfl rfl (by decide) (by decide) hk1 hFc hP1 hD1
              generalize H1 = H at hP hS ⊢
              refine g5_rs [(b_nl, (arI G 96 (upd (upd k75_nl (8 * u_nc).toNatClampNeg k4_1) ((8 * u_nc) + 3).toNatClampNeg u_co))), (b_hw, (arJ G 4 v_hw)), (b_o, (oc12 u_th u_sa b_rf b_ro b_im b_ke u_fd b_tp u_td z77 z78 z79 z80 z81 z82 (u_nc + 1) b_nl z83 b_op b_ar z84 b_pi b_pa z85 z86 b_ws b_hw u_la b_se b_re u_bk u_va u_su u_ce u_ho u_wy u_bt u_ps b_pt u_tg u_sn b_ip u_ic b_ah b_be b_me u_wd b_tr b_ld u_st b_wn u_id)), (b_tp, (arI G 400 v_tp)), (b_op, (arI G 400 z87)), (b_ar, (arI G 400 z88)), (b_pi, (arI G 400 z89)), (b_pa, (arI G 400 z90)), (b_ws, (arJ G 8 v_ws))] hP hD (fun hP hD => ?_)
              refine lv_aload_n hx hb dX12_readClause_135 rfl (lv_at hl 3 rfl) ?_
              refine va_get (D := G.1) (ci := 12) (v := .ref b_nl) (C := RX12) (T := TX12) (N := 52) hx hb hts inG_X12 hown hK hP 2 rfl rfl 16 (by decide) (hts _ fl_X12_30) (fun _ h9 => h9) rfl dX12_readClause_136 ?_
              refine lv_iload_n hx hb dX12_readClause_139 rfl (lv_at hl 1 rfl) ?_
              refine lv_iconst (v := 4) hx hb dX12_readClause_140 (by decide) ?_
              refine lv_iadd hx hb dX12_readClause_141 ?_
              have t_91 : ((8 * u_nc) + 4).toInt = (8 * u_nc).toInt + 4 := g5_iadd (a := (8 * u_nc).toInt) (b := 4) (by rfl) (by decide) (by omega) (by omega)
              refine lv_aload_n hx hb dX12_readClause_142 rfl (lv_at hl 3 rfl) ?_
              refine va_get (D := G.1) (ci := 12) (v := .int z83) (C := RX12) (T := TX12) (N := 52) hx hb hts inG_X12 hown hK hP 2 rfl rfl 17 (by decide) (hts _ fl_X12_237) (fun _ h9 => h9) rfl dX12_readClause_143 ?_
              refine va_iast hx hb hK hP hD hS 0 0 rfl rfl (i := ((8 * u_nc) + 4)) (x := z83) (vp_in_iff.mpr ⟨by omega, by omega⟩) dX12_readClause_146 (fun H locs hP hD hS => ?_)
              refine g5_rs [(b_nl, (arI G 96 (upd (upd (upd k75_nl (8 * u_nc).toNatClampNeg k4_1) ((8 * u_nc) + 3).toNatClampNeg u_co) ((8 * u_nc) + 4).toNatClampNeg z83))), (b_hw, (arJ G 4 v_hw)), (b_o, (oc12 u_th u_sa b_rf b_ro b_im b_ke u_fd b_tp u_td z77 z78 z79 z80 z81 z82 (u_nc + 1) b_nl z83 b_op b_ar z84 b_pi b_pa z85 z86 b_ws b_hw u_la b_se b_re u_bk u_va u_su u_ce u_ho u_wy u_bt u_ps b_pt u_tg u_sn b_ip u_ic b_ah b_be b_me u_wd b_tr b_ld u_st b_wn u_id)), (b_tp, (arI G 400 v_tp)), (b_op, (arI G 400 z87)), (b_ar, (arI G 400 z88)), (b_pi, (arI G 400 z89)), (b_pa, (arI G 400 z90)), (b_ws, (arJ G 8 v_ws))] hP hD (fun hP hD => ?_)
              refine lv_aload_n hx hb dX12_readClause_147 rfl (lv_at hl 3 rfl) ?_
              refine va_get (D := G.1) (ci := 12) (v := .ref b_nl) (C := RX12) (T := TX12) (N := 52) hx hb hts inG_X12 hown hK hP 2 rfl rfl 16 (by decide) (hts _ fl_X12_30) (fun _ h9 => h9) rfl dX12_readClause_148 ?_
              refine lv_iload_n hx hb dX12_readClause_151 rfl (lv_at hl 1 rfl) ?_
              refine lv_iconst (v := 5) hx hb dX12_readClause_152 (by decide) ?_
              refine lv_iadd hx hb dX12_readClause_153 ?_
              have t_92 : ((8 * u_nc) + 5).toInt = (8 * u_nc).toInt + 5 := g5_iadd (a := (8 * u_nc).toInt) (b := 5) (by rfl) (by decide) (by omega) (by omega)
              refine lv_aload_n hx hb dX12_readClause_154 rfl (lv_at hl 3 rfl) ?_
              refine va_get (D := G.1) (ci := 12) (v := .int z83) (C := RX12) (T := TX12) (N := 52) hx hb hts inG_X12 hown hK hP 2 rfl rfl 17 (by decide) (hts _ fl_X12_237) (fun _ h9 => h9) rfl dX12_readClause_155 ?_
              refine va_iast hx hb hK hP hD hS 0 0 rfl rfl (i := ((8 * u_nc) + 5)) (x := z83) (vp_in_iff.mpr ⟨by omega, by omega⟩) dX12_readClause_158 (fun H locs hP hD hS => ?_)
              refine g5_rs [(b_nl, (arI G 96 (upd (upd (upd (upd k75_nl (8 * u_nc).toNatClampNeg k4_1) ((8 * u_nc) + 3).toNatClampNeg u_co) ((8 * u_nc) + 4).toNatClampNeg z83) ((8 * u_nc) + 5).toNatClampNeg z83))), (b_hw, (arJ G 4 v_hw)), (b_o, (oc12 u_th u_sa b_rf b_ro b_im b_ke u_fd b_tp u_td z77 z78 z79 z80 z81 z82 (u_nc + 1) b_nl z83 b_op b_ar z84 b_pi b_pa z85 z86 b_ws b_hw u_la b_se b_re u_bk u_va u_su u_ce u_ho u_wy u_bt u_ps b_pt u_tg u_sn b_ip u_ic b_ah b_be b_me u_wd b_tr b_ld u_st b_wn u_id)), (b_tp, (arI G 400 v_tp)), (b_op, (arI G 400 z87)), (b_ar, (arI G 400 z88)), (b_pi, (arI G 400 z89)), (b_pa, (arI G 400 z90)), (b_ws, (arJ G 8 v_ws))] hP hD (fun hP hD => ?_)
              refine lv_aload_n hx hb dX12_readClause_159 rfl (lv_at hl 3 rfl) ?_
              refine va_get (D := G.1) (ci := 12) (v := .int z82) (C := RX12) (T := TX12) (N := 52) hx hb hts inG_X12 hown hK hP 2 rfl rfl 14 (by decide) (hts _ fl_X12_205) (fun _ h9 => h9) rfl dX12_readClause_160 ?_
              refine lv_if_ne (tgt := 185) hx hb dX12_readClause_163 (by decide) (fun c_93 => ?_) (fun c_93 => ?_)
              ·
                have n_93 : gNe (z82.toInt) (0) := by have z := g5_ne (a := z82.toInt) (b := 0) (by rfl) (by decide) c_93; unfold gNe; omega
                have i_93 : z82.toInt ≥ 1 := by have z := g5_ne (a := z82.toInt) (b := 0) (by rfl) (by decide) c_93; omega
                refine lv_aload_n hx hb dX12_readClause_185 rfl (lv_at hl 3 rfl) ?_
                refine va_get (D := G.1) (ci := 12) (v := .ref b_nl) (C := RX12) (T := TX12) (N := 52) hx hb hts inG_X12 hown hK hP 2 rfl rfl 16 (by decide) (hts _ fl_X12_30) (fun _ h9 => h9) rfl dX12_readClause_186 ?_
                refine lv_iload_n hx hb dX12_readClause_189 rfl (lv_at hl 1 rfl) ?_
                refine lv_bipush (v := 6) hx hb dX12_readClause_190 (by decide) ?_
                refine lv_iadd hx hb dX12_readClause_192 ?_
                have t_94 : ((8 * u_nc) + 6).toInt = (8 * u_nc).toInt + 6 := g5_iadd (a := (8 * u_nc).toInt) (b := 6) (by rfl) (by decide) (by omega) (by omega)
                refine lv_aload_n hx hb dX12_readClause_193 rfl (lv_at hl 3 rfl) ?_
                refine va_get (D := G.1) (ci := 12) (v := .int z83) (C := RX12) (T := TX12) (N := 52) hx hb hts inG_X12 hown hK hP 2 rfl rfl 17 (by decide) (hts _ fl_X12_237) (fun _ h9 => h9) rfl dX12_readClause_194 ?_
                refine va_iast hx hb hK hP hD hS 0 0 rfl rfl (i := ((8 * u_nc) + 6)) (x := z83) (vp_in_iff.mpr ⟨by omega, by omega⟩) dX12_readClause_197 (fun H locs hP hD hS => ?_)
                refine g5_rs [(b_nl, (arI G 96 (upd (upd (upd (upd (upd k75_nl (8 * u_nc).toNatClampNeg k4_1) ((8 * u_nc) + 3).toNatClampNeg u_co) ((8 * u_nc) + 4).toNatClampNeg z83) ((8 * u_nc) + 5).toNatClampNeg z83) ((8 * u_nc) + 6).toNatClampNeg z83))), (b_hw, (arJ G 4 v_hw)), (b_o, (oc12 u_th u_sa b_rf b_ro b_im b_ke u_fd b_tp u_td z77 z78 z79 z80 z81 z82 (u_nc + 1) b_nl z83 b_op b_ar z84 b_pi b_pa z85 z86 b_ws b_hw u_la b_se b_re u_bk u_va u_su u_ce u_ho u_wy u_bt u_ps b_pt u_tg u_sn b_ip u_ic b_ah b_be b_me u_wd b_tr b_ld u_st b_wn u_id)), (b_tp, (arI G 400 v_tp)), (b_op, (arI G 400 z87)), (b_ar, (arI G 400 z88)), (b_pi, (arI G 400 z89)), (b_pa, (arI G 400 z90)), (b_ws, (arJ G 8 v_ws))] hP hD (fun hP hD => ?_)
                exact W.vret hx hb hr (fun t ht hW => ⟨⟨[(b_o, (oc12 u_th u_sa b_rf b_ro b_im b_ke u_fd b_tp u_td z77 z78 z79 z80 z81 z82 (u_nc + 1) b_nl z83 b_op b_ar z84 b_pi b_pa z85 z86 b_ws b_hw u_la b_se b_re u_bk u_va u_su u_ce u_ho u_wy u_bt u_ps b_pt u_tg u_sn b_ip u_ic b_ah b_be b_me u_wd b_tr b_ld u_st b_wn u_id)), (b_tp, (arI G 400 v_tp)), (b_nl, (arI G 96 (upd (upd (upd (upd (upd k75_nl (8 * u_nc).toNatClampNeg k4_1) ((8 * u_nc) + 3).toNatClampNeg u_co) ((8 * u_nc) + 4).toNatClampNeg z83) ((8 * u_nc) + 5).toNatClampNeg z83) ((8 * u_nc) + 6).toNatClampNeg z83))), (b_op, (arI G 400 z87)), (b_ar, (arI G 400 z88)), (b_pi, (arI G 400 z89)), (b_pa, (arI G 400 z90)), (b_ws, (arJ G 8 v_ws)), (b_hw, (arJ G 4 v_hw))], rfl, Or.inr (⟨z77, z78, z79, z80, z81, z82, (u_nc + 1), z83, z84, z85, z86, (upd (upd (upd (upd (upd k75_nl (8 * u_nc).toNatClampNeg k4_1) ((8 * u_nc) + 3).toNatClampNeg u_co) ((8 * u_nc) + 4).toNatClampNeg z83) ((8 * u_nc) + 5).toNatClampNeg z83) ((8 * u_nc) + 6).toNatClampNeg z83), z87, z88, z89, z90, i_67, i_68, i_69, ⟨by omega, by omega⟩, i_70, i_71, by omega, i_73, by omega, fun q9 => absurd q9 (by omega), rfl⟩), by rw [ht]; exact hP.sub [2, 3, 0, 4, 5, 6, 7, 8, 1] rfl, hD.sub [2, 3, 0, 4, 5, 6, 7, 8, 1] (by decide) rfl⟩, hS.F ht⟩) hS.2.2 dX12_readClause_198
              ·
                have i_93 : z82.toInt = 0 := by have z := g5_neN (a := z82.toInt) (b := 0) (by rfl) (by decide) c_93; omega
                refine lv_aload_n hx hb dX12_readClause_166 rfl (lv_at hl 3 rfl) ?_
                refine lv_ldc2 (v := 294) hx hb hown (hts _ kl_X12_318) dX12_readClause_167 ?_
                obtain ⟨hPc, hDc, hFc⟩ := g5_sub3 (wc := [(b_o, (oc12 u_th u_sa b_rf b_ro b_im b_ke u_fd b_tp u_td z77 z78 z79 z80 z81 z82 (u_nc + 1) b_nl z83 b_op b_ar z84 b_pi b_pa z85 z86 b_ws b_hw u_la b_se b_re u_bk u_va u_su u_ce u_ho u_wy u_bt u_ps b_pt u_tg u_sn b_ip u_ic b_ah b_be b_me u_wd b_tr b_ld u_st b_wn u_id))]) hP hD hS hA [2] (by decide) rfl
                refine va_calli (va_runV (As := [.long 294]) (rest := []) ⟨hx, hb, hml, hown, hts⟩ (n_isWord l G b_o b_rf b_ro b_im b_ke b_tp b_nl b_op b_ar b_pi b_pa b_ws b_hw b_se b_re b_pt b_ip b_ah b_be b_me b_tr b_ld b_wn H.size u_th u_sa u_fd u_td z77 z78 z79 z81 z82 (u_nc + 1) z83 z84 z85 z86 u_la u_bk u_ce u_ho u_wy u_bt u_ps u_tg u_sn u_ic u_wd u_id z80 u_va u_su u_st 294 h_u_td i_67 i_68 i_69 ⟨by omega, by omega⟩ i_70 i_71 h_u_la h_u_bk h_u_ce h_u_ho h_u_wy h_u_bt h_u_ps h_u_ic h_u_id) (cwV 1 hts gV_X12_254 rfl rfl rfl hv_X12_isWord ⟨Nat.le_of_ble_eq_true rfl, Nat.le_of_ble_eq_true rfl⟩) (g5_preV hPc hK hDc hN hT hS hFc (ci := 12) (q0 := 0) rfl rfl) rfl rfl hl.1 rfl (lv_room (Nat.le_of_ble_eq_true rfl)) dX12_readClause_170 ⟨Nat.le_of_ble_eq_true rfl, Nat.le_of_ble_eq_true rfl⟩) hS (fun q _ h => hFc q h) hFc (fun r u t H1 locs ht hvm hw hB hz1 hk1 hS => ?_)
                obtain ⟨hP1, hD1⟩ := hB
                rw [ht] at hP1
                rcases hw with ⟨i_95, rfl, rfl⟩ | ⟨rfl, rfl⟩
                ·
                  have i_95 : z79.toInt = 1 := i_95
                  obtain ⟨hP, hD⟩ := va_join (wr := [(b_nl, (arI G 96 (upd (upd (upd (upd k75_nl (8 * u_nc).toNatClampNeg k4_1) ((8 * u_nc) + 3).toNatClampNeg u_co) ((8 * u_nc) + 4).toNatClampNeg z83) ((8 * u_nc) + 5).toNatClampNeg z83))), (b_hw, (arJ G 4 v_hw)), (b_tp, (arI G 400 v_tp)), (b_op, (arI G 400 z87)), (b_ar, (arI G 400 z88)), (b_pi, (arI G 400 z89)), (b_pa, (arI G 400 z90)), (b_ws, (arJ G 8 v_ws))]) hP hD [2] [0, 1, 3, 4, 5, 6, 7, 8] rfl rfl (by decide) (by decide) hk1 hFc hP1 hD1
                  generalize H1 = H at hP hS ⊢
                  refine g5_rs [(b_nl, (arI G 96 (upd (upd (upd (upd k75_nl (8 * u_nc).toNatClampNeg k4_1) ((8 * u_nc) + 3).toNatClampNeg u_co) ((8 * u_nc) + 4).toNatClampNeg z83) ((8 * u_nc) + 5).toNatClampNeg z83))), (b_hw, (arJ G 4 v_hw)), (b_tp, (arI G 400 v_tp)), (b_op, (arI G 400 z87)), (b_ar, (arI G 400 z88)), (b_pi, (arI G 400 z89)), (b_pa, (arI G 400 z90)), (b_ws, (arJ G 8 v_ws)), (b_o, (oc12 u_th u_sa b_rf b_ro b_im b_ke u_fd b_tp u_td z77 z78 z79 z80 z81 z82 (u_nc + 1) b_nl z83 b_op b_ar z84 b_pi b_pa z85 z86 b_ws b_hw u_la b_se b_re u_bk u_va u_su u_ce u_ho u_wy u_bt u_ps b_pt u_tg u_sn b_ip u_ic b_ah b_be b_me u_wd b_tr b_ld u_st b_wn u_id))] hP hD (fun hP hD => ?_)
                  refine lv_if_eq (tgt := 185) hx hb dX12_readClause_173 (by decide) (fun c_96 => ?_) (fun c_96 => ?_)
                  ·
                    exact absurd c_96 (by decide)
                  ·
                    have hlt8 : z77.toInt < z78.toInt := tks_lt i_73 (by omega)
                    refine lv_aload_n hx hb dX12_readClause_176 rfl (lv_at hl 3 rfl) ?_
                    obtain ⟨hPc, hDc, hFc⟩ := g5_sub3 (wc := [(b_o, (oc12 u_th u_sa b_rf b_ro b_im b_ke u_fd b_tp u_td z77 z78 z79 z80 z81 z82 (u_nc + 1) b_nl z83 b_op b_ar z84 b_pi b_pa z85 z86 b_ws b_hw u_la b_se b_re u_bk u_va u_su u_ce u_ho u_wy u_bt u_ps b_pt u_tg u_sn b_ip u_ic b_ah b_be b_me u_wd b_tr b_ld u_st b_wn u_id)), (b_tp, (arI G 400 v_tp))]) hP hD hS hA [8, 2] (by decide) rfl
                    refine va_callv (va_runV (As := []) (rest := []) ⟨hx, hb, hml, hown, hts⟩ (n_next l G b_o b_tp b_rf b_ro b_im b_ke b_nl b_op b_ar b_pi b_pa b_ws b_hw b_se b_re b_pt b_ip b_ah b_be b_me b_tr b_ld b_wn H.size u_th u_sa u_fd u_td z77 z78 z79 z81 z82 (u_nc + 1) z83 z84 z85 z86 u_la u_bk u_ce u_ho u_wy u_bt u_ps u_tg u_sn u_ic u_wd u_id z80 u_va u_su u_st v_tp h_u_td i_67 i_68 i_69 ⟨by omega, by omega⟩ i_70 i_71 h_u_la h_u_bk h_u_ce h_u_ho h_u_wy h_u_bt h_u_ps h_u_ic h_u_id (by omega)) (cwV 0 hts gV_X12_208 rfl rfl rfl hv_X12_next ⟨Nat.le_of_ble_eq_true rfl, Nat.le_of_ble_eq_true rfl⟩) (g5_preV hPc hK hDc hN hT hS hFc (ci := 12) (q0 := 0) rfl rfl) rfl rfl hl.1 rfl (lv_room (Nat.le_of_ble_eq_true rfl)) dX12_readClause_177 ⟨Nat.le_of_ble_eq_true rfl, Nat.le_of_ble_eq_true rfl⟩) hS (fun q _ h => hFc q h) hFc (fun u t H1 locs ht hvm hw hB hz1 hk1 hS => ?_)
                    obtain ⟨hP1, hD1⟩ := hB
                    rw [ht] at hP1
                    obtain ⟨z101, z102, z103, z104, i_97, i_98, i_99, i_100, rfl⟩ := hw
                    have i_97 : 0 ≤ z101.toInt ∧ z101.toInt ≤ 400 := i_97
                    have i_98 : 0 ≤ z102.toInt ∧ z102.toInt ≤ 400 := i_98
                    have i_99 : z78.toInt ≤ z101.toInt ∧ z101.toInt ≤ z102.toInt ∧ z102.toInt ≤ u_td.toInt := i_99
                    have i_100 : TKs z103.toInt z101.toInt z102.toInt := i_100
                    obtain ⟨hP, hD⟩ := va_join (wr := [(b_nl, (arI G 96 (upd (upd (upd (upd k75_nl (8 * u_nc).toNatClampNeg k4_1) ((8 * u_nc) + 3).toNatClampNeg u_co) ((8 * u_nc) + 4).toNatClampNeg z83) ((8 * u_nc) + 5).toNatClampNeg z83))), (b_hw, (arJ G 4 v_hw)), (b_op, (arI G 400 z87)), (b_ar, (arI G 400 z88)), (b_pi, (arI G 400 z89)), (b_pa, (arI G 400 z90)), (b_ws, (arJ G 8 v_ws))]) hP hD [8, 2] [0, 1, 3, 4, 5, 6, 7] rfl rfl (by decide) (by decide) hk1 hFc hP1 hD1
                    generalize H1 = H at hP hS ⊢
                    refine g5_rs [(b_nl, (arI G 96 (upd (upd (upd (upd k75_nl (8 * u_nc).toNatClampNeg k4_1) ((8 * u_nc) + 3).toNatClampNeg u_co) ((8 * u_nc) + 4).toNatClampNeg z83) ((8 * u_nc) + 5).toNatClampNeg z83))), (b_hw, (arJ G 4 v_hw)), (b_op, (arI G 400 z87)), (b_ar, (arI G 400 z88)), (b_pi, (arI G 400 z89)), (b_pa, (arI G 400 z90)), (b_ws, (arJ G 8 v_ws)), (b_o, (oc12 u_th u_sa b_rf b_ro b_im b_ke u_fd b_tp u_td z101 z102 z103 z104 z81 z82 (u_nc + 1) b_nl z83 b_op b_ar z84 b_pi b_pa z85 z86 b_ws b_hw u_la b_se b_re u_bk u_va u_su u_ce u_ho u_wy u_bt u_ps b_pt u_tg u_sn b_ip u_ic b_ah b_be b_me u_wd b_tr b_ld u_st b_wn u_id)), (b_tp, (arI G 400 v_tp))] hP hD (fun hP hD => ?_)
                    refine lv_aload_n hx hb dX12_readClause_180 rfl (lv_at hl 3 rfl) ?_
                    refine lv_iconst (v := 1) hx hb dX12_readClause_181 (by decide) ?_
                    obtain ⟨hPc, hDc, hFc⟩ := g5_sub3 (wc := [(b_o, (oc12 u_th u_sa b_rf b_ro b_im b_ke u_fd b_tp u_td z101 z102 z103 z104 z81 z82 (u_nc + 1) b_nl z83 b_op b_ar z84 b_pi b_pa z85 z86 b_ws b_hw u_la b_se b_re u_bk u_va u_su u_ce u_ho u_wy u_bt u_ps b_pt u_tg u_sn b_ip u_ic b_ah b_be b_me u_wd b_tr b_ld u_st b_wn u_id)), (b_tp, (arI G 400 v_tp)), (b_op, (arI G 400 z87)), (b_ar, (arI G 400 z88)), (b_pi, (arI G 400 z89)), (b_pa, (arI G 400 z90)), (b_ws, (arJ G 8 v_ws))]) hP hD hS hA [7, 8, 2, 3, 4, 5, 6] (by decide) rfl
                    refine va_callv (va_runV (As := [.int 1]) (rest := []) ⟨hx, hb, hml, hown, hts⟩ (n_readExpression l G b_o b_tp b_op b_ar b_pi b_pa b_ws b_rf b_ro b_im b_ke b_nl b_hw b_se b_re b_pt b_ip b_ah b_be b_me b_tr b_ld b_wn H.size u_th u_sa u_fd u_td z101 z102 z103 z81 z82 (u_nc + 1) z83 z84 z85 z86 u_la u_bk u_ce u_ho u_wy u_bt u_ps u_tg u_sn u_ic u_wd u_id 1 z104 u_va u_su u_st v_tp z87 z88 z89 z90 v_ws h_u_td i_97 i_98 ⟨by omega, by omega⟩ ⟨by omega, by omega⟩ i_70 i_71 h_u_la h_u_bk h_u_ce h_u_ho h_u_wy h_u_bt h_u_ps h_u_ic h_u_id ⟨by decide, by decide⟩ (by omega) (i_100) (by omega)) (cwV 1 hts gV_X12_315 rfl rfl rfl hv_X12_readExpression ⟨Nat.le_of_ble_eq_true rfl, Nat.le_of_ble_eq_true rfl⟩) (g5_preV hPc hK hDc hN hT hS hFc (ci := 12) (q0 := 0) rfl rfl) rfl rfl hl.1 rfl (lv_room (Nat.le_of_ble_eq_true rfl)) dX12_readClause_182 ⟨Nat.le_of_ble_eq_true rfl, Nat.le_of_ble_eq_true rfl⟩) hS (fun q _ h => hFc q h) hFc (fun u t H1 locs ht hvm hw hB hz1 hk1 hS => ?_)
                    obtain ⟨hP1, hD1⟩ := hB
                    rw [ht] at hP1
                    obtain ⟨z115, z116, z117, z118, z119, z120, z121, z122, z123, z124, z125, z126, z127, z128, i_105, i_106, i_107, i_108, i_109, i_110, i_111, i_112, i_113, i_114, rfl⟩ := hw
                    have i_105 : 0 ≤ z115.toInt ∧ z115.toInt ≤ 400 := i_105
                    have i_106 : 0 ≤ z116.toInt ∧ z116.toInt ≤ 400 := i_106
                    have i_107 : 0 ≤ z120.toInt ∧ z120.toInt ≤ 1 := i_107
                    have i_108 : 0 ≤ z121.toInt ∧ z121.toInt ≤ 400 := i_108
                    have i_109 : 0 ≤ z123.toInt ∧ z123.toInt ≤ 400 := i_109
                    have i_110 : z101.toInt ≤ z115.toInt ∧ z115.toInt ≤ z116.toInt ∧ z116.toInt ≤ u_td.toInt := i_110
                    have i_111 : TKs z117.toInt z115.toInt z116.toInt := i_111
                    have i_112 : KP z87 z88 z125 z126 z83.toInt := i_112
                    have i_113 : z83.toInt ≤ z121.toInt ∧ z121.toInt ≤ z115.toInt := i_113
                    have i_114 : z120.toInt = 0 → cdN z125 z126 z83.toInt z121.toInt := i_114
                    obtain ⟨hP, hD⟩ := va_join (wr := [(b_nl, (arI G 96 (upd (upd (upd (upd k75_nl (8 * u_nc).toNatClampNeg k4_1) ((8 * u_nc) + 3).toNatClampNeg u_co) ((8 * u_nc) + 4).toNatClampNeg z83) ((8 * u_nc) + 5).toNatClampNeg z83))), (b_hw, (arJ G 4 v_hw))]) hP hD [7, 8, 2, 3, 4, 5, 6] [0, 1] rfl rfl (by decide) (by decide) hk1 hFc hP1 hD1
                    generalize H1 = H at hP hS ⊢
                    refine g5_rs [(b_nl, (arI G 96 (upd (upd (upd (upd k75_nl (8 * u_nc).toNatClampNeg k4_1) ((8 * u_nc) + 3).toNatClampNeg u_co) ((8 * u_nc) + 4).toNatClampNeg z83) ((8 * u_nc) + 5).toNatClampNeg z83))), (b_hw, (arJ G 4 v_hw)), (b_o, (oc12 u_th u_sa b_rf b_ro b_im b_ke u_fd b_tp u_td z115 z116 z117 z118 z119 z120 (u_nc + 1) b_nl z121 b_op b_ar z122 b_pi b_pa z123 z124 b_ws b_hw u_la b_se b_re u_bk u_va u_su u_ce u_ho u_wy u_bt u_ps b_pt u_tg u_sn b_ip u_ic b_ah b_be b_me u_wd b_tr b_ld u_st b_wn u_id)), (b_tp, (arI G 400 v_tp)), (b_op, (arI G 400 z125)), (b_ar, (arI G 400 z126)), (b_pi, (arI G 400 z127)), (b_pa, (arI G 400 z128)), (b_ws, (arJ G 8 v_ws))] hP hD (fun hP hD => ?_)
                    refine lv_aload_n hx hb dX12_readClause_185 rfl (lv_at hl 3 rfl) ?_
                    refine va_get (D := G.1) (ci := 12) (v := .ref b_nl) (C := RX12) (T := TX12) (N := 52) hx hb hts inG_X12 hown hK hP 2 rfl rfl 16 (by decide) (hts _ fl_X12_30) (fun _ h9 => h9) rfl dX12_readClause_186 ?_
                    refine lv_iload_n hx hb dX12_readClause_189 rfl (lv_at hl 1 rfl) ?_
                    refine lv_bipush (v := 6) hx hb dX12_readClause_190 (by decide) ?_
                    refine lv_iadd hx hb dX12_readClause_192 ?_
                    have t_129 : ((8 * u_nc) + 6).toInt = (8 * u_nc).toInt + 6 := g5_iadd (a := (8 * u_nc).toInt) (b := 6) (by rfl) (by decide) (by omega) (by omega)
                    refine lv_aload_n hx hb dX12_readClause_193 rfl (lv_at hl 3 rfl) ?_
                    refine va_get (D := G.1) (ci := 12) (v := .int z121) (C := RX12) (T := TX12) (N := 52) hx hb hts inG_X12 hown hK hP 2 rfl rfl 17 (by decide) (hts _ fl_X12_237) (fun _ h9 => h9) rfl dX12_readClause_194 ?_
                    refine va_iast hx hb hK hP hD hS 0 0 rfl rfl (i := ((8 * u_nc) + 6)) (x := z121) (vp_in_iff.mpr ⟨by omega, by omega⟩) dX12_readClause_197 (fun H locs hP hD hS => ?_)
                    refine g5_rs [(b_nl, (arI G 96 (upd (upd (upd (upd (upd k75_nl (8 * u_nc).toNatClampNeg k4_1) ((8 * u_nc) + 3).toNatClampNeg u_co) ((8 * u_nc) + 4).toNatClampNeg z83) ((8 * u_nc) + 5).toNatClampNeg z83) ((8 * u_nc) + 6).toNatClampNeg z121))), (b_hw, (arJ G 4 v_hw)), (b_o, (oc12 u_th u_sa b_rf b_ro b_im b_ke u_fd b_tp u_td z115 z116 z117 z118 z119 z120 (u_nc + 1) b_nl z121 b_op b_ar z122 b_pi b_pa z123 z124 b_ws b_hw u_la b_se b_re u_bk u_va u_su u_ce u_ho u_wy u_bt u_ps b_pt u_tg u_sn b_ip u_ic b_ah b_be b_me u_wd b_tr b_ld u_st b_wn u_id)), (b_tp, (arI G 400 v_tp)), (b_op, (arI G 400 z125)), (b_ar, (arI G 400 z126)), (b_pi, (arI G 400 z127)), (b_pa, (arI G 400 z128)), (b_ws, (arJ G 8 v_ws))] hP hD (fun hP hD => ?_)
                    exact W.vret hx hb hr (fun t ht hW => ⟨⟨[(b_o, (oc12 u_th u_sa b_rf b_ro b_im b_ke u_fd b_tp u_td z115 z116 z117 z118 z119 z120 (u_nc + 1) b_nl z121 b_op b_ar z122 b_pi b_pa z123 z124 b_ws b_hw u_la b_se b_re u_bk u_va u_su u_ce u_ho u_wy u_bt u_ps b_pt u_tg u_sn b_ip u_ic b_ah b_be b_me u_wd b_tr b_ld u_st b_wn u_id)), (b_tp, (arI G 400 v_tp)), (b_nl, (arI G 96 (upd (upd (upd (upd (upd k75_nl (8 * u_nc).toNatClampNeg k4_1) ((8 * u_nc) + 3).toNatClampNeg u_co) ((8 * u_nc) + 4).toNatClampNeg z83) ((8 * u_nc) + 5).toNatClampNeg z83) ((8 * u_nc) + 6).toNatClampNeg z121))), (b_op, (arI G 400 z125)), (b_ar, (arI G 400 z126)), (b_pi, (arI G 400 z127)), (b_pa, (arI G 400 z128)), (b_ws, (arJ G 8 v_ws)), (b_hw, (arJ G 4 v_hw))], rfl, Or.inr (⟨z115, z116, z117, z118, z119, z120, (u_nc + 1), z121, z122, z123, z124, (upd (upd (upd (upd (upd k75_nl (8 * u_nc).toNatClampNeg k4_1) ((8 * u_nc) + 3).toNatClampNeg u_co) ((8 * u_nc) + 4).toNatClampNeg z83) ((8 * u_nc) + 5).toNatClampNeg z83) ((8 * u_nc) + 6).toNatClampNeg z121), z125, z126, z127, z128, i_105, i_106, i_107, ⟨by omega, by omega⟩, i_108, i_109, by omega, i_111, by omega, fun q9 => lwj_new e_l i_21 (kp_tr i_74 i_112 (by omega)) (by omega) (by omega) (by omega) (by omega) (by omega) (by omega) (by omega) (by omega) (by omega) (by omega) ⟨by omega, by omega⟩ (fun _ => cdN_congr (i_76 (by omega)) i_112) (i_114 q9), rfl⟩), by rw [ht]; exact hP.sub [2, 3, 0, 4, 5, 6, 7, 8, 1] rfl, hD.sub [2, 3, 0, 4, 5, 6, 7, 8, 1] (by decide) rfl⟩, hS.F ht⟩) hS.2.2 dX12_readClause_198
                ·
                  obtain ⟨hP, hD⟩ := va_join (wr := [(b_nl, (arI G 96 (upd (upd (upd (upd k75_nl (8 * u_nc).toNatClampNeg k4_1) ((8 * u_nc) + 3).toNatClampNeg u_co) ((8 * u_nc) + 4).toNatClampNeg z83) ((8 * u_nc) + 5).toNatClampNeg z83))), (b_hw, (arJ G 4 v_hw)), (b_tp, (arI G 400 v_tp)), (b_op, (arI G 400 z87)), (b_ar, (arI G 400 z88)), (b_pi, (arI G 400 z89)), (b_pa, (arI G 400 z90)), (b_ws, (arJ G 8 v_ws))]) hP hD [2] [0, 1, 3, 4, 5, 6, 7, 8] rfl rfl (by decide) (by decide) hk1 hFc hP1 hD1
                  generalize H1 = H at hP hS ⊢
                  refine g5_rs [(b_nl, (arI G 96 (upd (upd (upd (upd k75_nl (8 * u_nc).toNatClampNeg k4_1) ((8 * u_nc) + 3).toNatClampNeg u_co) ((8 * u_nc) + 4).toNatClampNeg z83) ((8 * u_nc) + 5).toNatClampNeg z83))), (b_hw, (arJ G 4 v_hw)), (b_tp, (arI G 400 v_tp)), (b_op, (arI G 400 z87)), (b_ar, (arI G 400 z88)), (b_pi, (arI G 400 z89)), (b_pa, (arI G 400 z90)), (b_ws, (arJ G 8 v_ws)), (b_o, (oc12 u_th u_sa b_rf b_ro b_im b_ke u_fd b_tp u_td z77 z78 z79 z80 z81 z82 (u_nc + 1) b_nl z83 b_op b_ar z84 b_pi b_pa z85 z86 b_ws b_hw u_la b_se b_re u_bk u_va u_su u_ce u_ho u_wy u_bt u_ps b_pt u_tg u_sn b_ip u_ic b_ah b_be b_me u_wd b_tr b_ld u_st b_wn u_id))] hP hD (fun hP hD => ?_)
                  refine lv_if_eq (tgt := 185) hx hb dX12_readClause_173 (by decide) (fun c_130 => ?_) (fun c_130 => ?_)
                  ·
                    refine lv_aload_n hx hb dX12_readClause_185 rfl (lv_at hl 3 rfl) ?_
                    refine va_get (D := G.1) (ci := 12) (v := .ref b_nl) (C := RX12) (T := TX12) (N := 52) hx hb hts inG_X12 hown hK hP 8 rfl rfl 16 (by decide) (hts _ fl_X12_30) (fun _ h9 => h9) rfl dX12_readClause_186 ?_
                    refine lv_iload_n hx hb dX12_readClause_189 rfl (lv_at hl 1 rfl) ?_
                    refine lv_bipush (v := 6) hx hb dX12_readClause_190 (by decide) ?_
                    refine lv_iadd hx hb dX12_readClause_192 ?_
                    have t_131 : ((8 * u_nc) + 6).toInt = (8 * u_nc).toInt + 6 := g5_iadd (a := (8 * u_nc).toInt) (b := 6) (by rfl) (by decide) (by omega) (by omega)
                    refine lv_aload_n hx hb dX12_readClause_193 rfl (lv_at hl 3 rfl) ?_
                    refine va_get (D := G.1) (ci := 12) (v := .int z83) (C := RX12) (T := TX12) (N := 52) hx hb hts inG_X12 hown hK hP 8 rfl rfl 17 (by decide) (hts _ fl_X12_237) (fun _ h9 => h9) rfl dX12_readClause_194 ?_
                    refine va_iast hx hb hK hP hD hS 0 0 rfl rfl (i := ((8 * u_nc) + 6)) (x := z83) (vp_in_iff.mpr ⟨by omega, by omega⟩) dX12_readClause_197 (fun H locs hP hD hS => ?_)
                    refine g5_rs [(b_nl, (arI G 96 (upd (upd (upd (upd (upd k75_nl (8 * u_nc).toNatClampNeg k4_1) ((8 * u_nc) + 3).toNatClampNeg u_co) ((8 * u_nc) + 4).toNatClampNeg z83) ((8 * u_nc) + 5).toNatClampNeg z83) ((8 * u_nc) + 6).toNatClampNeg z83))), (b_hw, (arJ G 4 v_hw)), (b_tp, (arI G 400 v_tp)), (b_op, (arI G 400 z87)), (b_ar, (arI G 400 z88)), (b_pi, (arI G 400 z89)), (b_pa, (arI G 400 z90)), (b_ws, (arJ G 8 v_ws)), (b_o, (oc12 u_th u_sa b_rf b_ro b_im b_ke u_fd b_tp u_td z77 z78 z79 z80 z81 z82 (u_nc + 1) b_nl z83 b_op b_ar z84 b_pi b_pa z85 z86 b_ws b_hw u_la b_se b_re u_bk u_va u_su u_ce u_ho u_wy u_bt u_ps b_pt u_tg u_sn b_ip u_ic b_ah b_be b_me u_wd b_tr b_ld u_st b_wn u_id))] hP hD (fun hP hD => ?_)
                    exact W.vret hx hb hr (fun t ht hW => ⟨⟨[(b_o, (oc12 u_th u_sa b_rf b_ro b_im b_ke u_fd b_tp u_td z77 z78 z79 z80 z81 z82 (u_nc + 1) b_nl z83 b_op b_ar z84 b_pi b_pa z85 z86 b_ws b_hw u_la b_se b_re u_bk u_va u_su u_ce u_ho u_wy u_bt u_ps b_pt u_tg u_sn b_ip u_ic b_ah b_be b_me u_wd b_tr b_ld u_st b_wn u_id)), (b_tp, (arI G 400 v_tp)), (b_nl, (arI G 96 (upd (upd (upd (upd (upd k75_nl (8 * u_nc).toNatClampNeg k4_1) ((8 * u_nc) + 3).toNatClampNeg u_co) ((8 * u_nc) + 4).toNatClampNeg z83) ((8 * u_nc) + 5).toNatClampNeg z83) ((8 * u_nc) + 6).toNatClampNeg z83))), (b_op, (arI G 400 z87)), (b_ar, (arI G 400 z88)), (b_pi, (arI G 400 z89)), (b_pa, (arI G 400 z90)), (b_ws, (arJ G 8 v_ws)), (b_hw, (arJ G 4 v_hw))], rfl, Or.inr (⟨z77, z78, z79, z80, z81, z82, (u_nc + 1), z83, z84, z85, z86, (upd (upd (upd (upd (upd k75_nl (8 * u_nc).toNatClampNeg k4_1) ((8 * u_nc) + 3).toNatClampNeg u_co) ((8 * u_nc) + 4).toNatClampNeg z83) ((8 * u_nc) + 5).toNatClampNeg z83) ((8 * u_nc) + 6).toNatClampNeg z83), z87, z88, z89, z90, i_67, i_68, i_69, ⟨by omega, by omega⟩, i_70, i_71, by omega, i_73, by omega, fun q9 => lwj_new e_l i_21 i_74 (by omega) (by omega) (by omega) (by omega) (by omega) (by omega) (by omega) (by omega) (by omega) (by omega) ⟨by omega, by omega⟩ (fun _ => (i_76 (by omega))) cdN_empty, rfl⟩), by rw [ht]; exact hP.sub [8, 2, 0, 3, 4, 5, 6, 7, 1] rfl, hD.sub [8, 2, 0, 3, 4, 5, 6, 7, 1] (by decide) rfl⟩, hS.F ht⟩) hS.2.2 dX12_readClause_198
                  ·
                    exact absurd c_130 (by decide)
          ·
            have i_23 : k75_3.toInt < 8 := by have z := g5_geN (a := k75_3.toInt) (b := 8) (by rfl) (by decide) c_23; omega
            refine lv_aload_n hx hb dX12_readClause_81 rfl (lv_at hl 3 rfl) ?_
            refine va_get (D := G.1) (ci := 12) (v := .ref b_nl) (C := RX12) (T := TX12) (N := 52) hx hb hts inG_X12 hown hK hP 7 rfl rfl 16 (by decide) (hts _ fl_X12_30) (fun _ h9 => h9) rfl dX12_readClause_82 ?_
            refine lv_iload_n hx hb dX12_readClause_85 rfl (lv_at hl 1 rfl) ?_
            refine lv_iload_n hx hb dX12_readClause_86 rfl (lv_at hl 0 rfl) ?_
            refine lv_iadd hx hb dX12_readClause_87 ?_
            have t_132 : ((8 * u_nc) + k75_3).toInt = (8 * u_nc).toInt + k75_3.toInt := g5_iadd (a := (8 * u_nc).toInt) (b := k75_3.toInt) (by rfl) (by rfl) (by omega) (by omega)
            refine lv_iconst (v := 0) hx hb dX12_readClause_88 (by decide) ?_
            refine va_iast hx hb hK hP hD hS 0 0 rfl rfl (i := ((8 * u_nc) + k75_3)) (x := 0) (vp_in_iff.mpr ⟨by omega, by omega⟩) dX12_readClause_89 (fun H locs hP hD hS => ?_)
            refine g5_rs [(b_nl, (arI G 96 (upd k75_nl ((8 * u_nc) + k75_3).toNatClampNeg 0))), (b_op, (arI G 400 v_op)), (b_ar, (arI G 400 v_ar)), (b_pi, (arI G 400 v_pi)), (b_pa, (arI G 400 v_pa)), (b_ws, (arJ G 8 v_ws)), (b_hw, (arJ G 4 v_hw)), (b_o, (oc12 u_th u_sa b_rf b_ro b_im b_ke u_fd b_tp u_td z14 z15 z16 z17 u_fa u_bd u_nc b_nl u_co b_op b_ar u_le b_pi b_pa u_pd u_od b_ws b_hw u_la b_se b_re u_bk u_va u_su u_ce u_ho u_wy u_bt u_ps b_pt u_tg u_sn b_ip u_ic b_ah b_be b_me u_wd b_tr b_ld u_st b_wn u_id)), (b_tp, (arI G 400 v_tp))] hP hD (fun hP hD => ?_)
            refine lv_iinc (v := (k75_3 + 1)) (lv' := [(3, .int (k75_3 + 1)), (2, .int (8 * u_nc)), (1, .int k4_1), (0, .ref b_o)]) hx hb dX12_readClause_90 hl (k := 0) rfl rfl (by decide) rfl (fun ls hl => ?_)
            have t_133 : (k75_3 + 1).toInt = k75_3.toInt + 1 := g5_iadd (a := k75_3.toInt) (b := 1) rfl (by decide) (by omega) (by omega)
            refine lv_goto (tgt := 75) hx hb dX12_readClause_93 (by decide) ?_
            exact ih_75_22 ((k75_3 + 1), (upd k75_nl ((8 * u_nc) + k75_3).toNatClampNeg 0)) ls H locs (show Int.toNat (8 - (k75_3 + 1).toInt) < Int.toNat (8 - k75_3.toInt) from g_up (show k75_3.toInt < (k75_3 + 1).toInt by omega) (show k75_3.toInt < 8 by omega)) ⟨lv_sub hl [0, 1, 2, 3] rfl, hP, hD, hS, ⟨by omega, by omega⟩, cl_keep i_21 (by omega)⟩
        ·
          have i_18 : u_bd.toInt ≠ 0 := by have z := g5_eqN (a := u_bd.toInt) (b := 0) (by rfl) (by decide) c_18; omega
          omega
  ·
    have i_5 : k4_2.toInt < 4 := by have z := g5_geN (a := k4_2.toInt) (b := 4) (by rfl) (by decide) c_5; omega
    refine lv_aload_n hx hb dX12_readClause_9 rfl (lv_at hl 2 rfl) ?_
    refine lv_aload_n hx hb dX12_readClause_10 rfl (lv_at hl 2 rfl) ?_
    refine va_get (D := G.1) (ci := 12) (v := .ref b_hw) (C := RX12) (T := TX12) (N := 52) hx hb hts inG_X12 hown hK hP 0 rfl rfl 26 (by decide) (hts _ fl_X12_73) (fun _ h9 => h9) rfl dX12_readClause_11 ?_
    refine lv_iload_n hx hb dX12_readClause_14 rfl (lv_at hl 1 rfl) ?_
    refine va_lald hx hb hK hP 8 1 rfl rfl (i := k4_2) (vp_in_iff.mpr ⟨by omega, by omega⟩) dX12_readClause_15 ?_
    obtain ⟨hPc, hDc, hFc⟩ := g5_sub3 (wc := [(b_o, (oc12 u_th u_sa b_rf b_ro b_im b_ke u_fd b_tp u_td u_fr u_to u_so u_wo u_fa u_bd u_nc b_nl u_co b_op b_ar u_le b_pi b_pa u_pd u_od b_ws b_hw u_la b_se b_re u_bk u_va u_su u_ce u_ho u_wy u_bt u_ps b_pt u_tg u_sn b_ip u_ic b_ah b_be b_me u_wd b_tr b_ld u_st b_wn u_id))]) hP hD hS hA [0] (by decide) rfl
    refine va_calli (va_runV (As := [.long (v_hw k4_2.toNatClampNeg)]) (rest := []) ⟨hx, hb, hml, hown, hts⟩ (n_isWord l G b_o b_rf b_ro b_im b_ke b_tp b_nl b_op b_ar b_pi b_pa b_ws b_hw b_se b_re b_pt b_ip b_ah b_be b_me b_tr b_ld b_wn H.size u_th u_sa u_fd u_td u_fr u_to u_so u_fa u_bd u_nc u_co u_le u_pd u_od u_la u_bk u_ce u_ho u_wy u_bt u_ps u_tg u_sn u_ic u_wd u_id u_wo u_va u_su u_st (v_hw k4_2.toNatClampNeg) h_u_td h_u_fr h_u_to ⟨by omega, by omega⟩ h_u_nc h_u_co h_u_pd h_u_la h_u_bk h_u_ce h_u_ho h_u_wy h_u_bt h_u_ps h_u_ic h_u_id) (cwV 1 hts gV_X12_254 rfl rfl rfl hv_X12_isWord ⟨Nat.le_of_ble_eq_true rfl, Nat.le_of_ble_eq_true rfl⟩) (g5_preV hPc hK hDc hN hT hS hFc (ci := 12) (q0 := 0) rfl rfl) rfl rfl hl.1 rfl (lv_room (Nat.le_of_ble_eq_true rfl)) dX12_readClause_16 ⟨Nat.le_of_ble_eq_true rfl, Nat.le_of_ble_eq_true rfl⟩) hS (fun q _ h => hFc q h) hFc (fun r u t H1 locs ht hvm hw hB hz1 hk1 hS => ?_)
    obtain ⟨hP1, hD1⟩ := hB
    rw [ht] at hP1
    rcases hw with ⟨i_134, rfl, rfl⟩ | ⟨rfl, rfl⟩
    ·
      have i_134 : u_so.toInt = 1 := i_134
      obtain ⟨hP, hD⟩ := va_join (wr := [(b_tp, (arI G 400 v_tp)), (b_nl, (arI G 96 v_nl)), (b_op, (arI G 400 v_op)), (b_ar, (arI G 400 v_ar)), (b_pi, (arI G 400 v_pi)), (b_pa, (arI G 400 v_pa)), (b_ws, (arJ G 8 v_ws)), (b_hw, (arJ G 4 v_hw))]) hP hD [0] [1, 2, 3, 4, 5, 6, 7, 8] rfl rfl (by decide) (by decide) hk1 hFc hP1 hD1
      generalize H1 = H at hP hS ⊢
      refine g5_rs [(b_tp, (arI G 400 v_tp)), (b_nl, (arI G 96 v_nl)), (b_op, (arI G 400 v_op)), (b_ar, (arI G 400 v_ar)), (b_pi, (arI G 400 v_pi)), (b_pa, (arI G 400 v_pa)), (b_ws, (arJ G 8 v_ws)), (b_hw, (arJ G 4 v_hw)), (b_o, (oc12 u_th u_sa b_rf b_ro b_im b_ke u_fd b_tp u_td u_fr u_to u_so u_wo u_fa u_bd u_nc b_nl u_co b_op b_ar u_le b_pi b_pa u_pd u_od b_ws b_hw u_la b_se b_re u_bk u_va u_su u_ce u_ho u_wy u_bt u_ps b_pt u_tg u_sn b_ip u_ic b_ah b_be b_me u_wd b_tr b_ld u_st b_wn u_id))] hP hD (fun hP hD => ?_)
      refine lv_if_eq (tgt := 26) hx hb dX12_readClause_19 (by decide) (fun c_135 => ?_) (fun c_135 => ?_)
      ·
        exact absurd c_135 (by decide)
      ·
        refine lv_iload_n hx hb dX12_readClause_22 rfl (lv_at hl 1 rfl) ?_
        refine lv_goto (tgt := 27) hx hb dX12_readClause_23 (by decide) ?_
        refine lv_istore_n (lv' := [(1, .int k4_2), (2, .int k4_2), (0, .ref b_o)]) hx hb dX12_readClause_27 rfl hl (by decide) rfl (fun ls hl => ?_)
        refine lv_iinc (v := (k4_2 + 1)) (lv' := [(2, .int (k4_2 + 1)), (1, .int k4_2), (0, .ref b_o)]) hx hb dX12_readClause_28 hl (k := 1) rfl rfl (by decide) rfl (fun ls hl => ?_)
        have t_136 : (k4_2 + 1).toInt = k4_2.toInt + 1 := g5_iadd (a := k4_2.toInt) (b := 1) rfl (by decide) (by omega) (by omega)
        refine lv_goto (tgt := 4) hx hb dX12_readClause_31 (by decide) ?_
        exact ih_4_4 ((k4_2 + 1), k4_2) ls H locs (show Int.toNat (4 - (k4_2 + 1).toInt) < Int.toNat (4 - k4_2.toInt) from g_up (show k4_2.toInt < (k4_2 + 1).toInt by omega) (show k4_2.toInt < 4 by omega)) ⟨lv_sub hl [1, 0, 2] rfl, hP.sub [8, 0, 1, 2, 3, 4, 5, 6, 7] rfl, hD.sub [8, 0, 1, 2, 3, 4, 5, 6, 7] (by decide) rfl, hS, ⟨by omega, by omega⟩, ⟨by omega, by omega⟩, Or.inr (by omega)⟩
    ·
      obtain ⟨hP, hD⟩ := va_join (wr := [(b_tp, (arI G 400 v_tp)), (b_nl, (arI G 96 v_nl)), (b_op, (arI G 400 v_op)), (b_ar, (arI G 400 v_ar)), (b_pi, (arI G 400 v_pi)), (b_pa, (arI G 400 v_pa)), (b_ws, (arJ G 8 v_ws)), (b_hw, (arJ G 4 v_hw))]) hP hD [0] [1, 2, 3, 4, 5, 6, 7, 8] rfl rfl (by decide) (by decide) hk1 hFc hP1 hD1
      generalize H1 = H at hP hS ⊢
      refine g5_rs [(b_tp, (arI G 400 v_tp)), (b_nl, (arI G 96 v_nl)), (b_op, (arI G 400 v_op)), (b_ar, (arI G 400 v_ar)), (b_pi, (arI G 400 v_pi)), (b_pa, (arI G 400 v_pa)), (b_ws, (arJ G 8 v_ws)), (b_hw, (arJ G 4 v_hw)), (b_o, (oc12 u_th u_sa b_rf b_ro b_im b_ke u_fd b_tp u_td u_fr u_to u_so u_wo u_fa u_bd u_nc b_nl u_co b_op b_ar u_le b_pi b_pa u_pd u_od b_ws b_hw u_la b_se b_re u_bk u_va u_su u_ce u_ho u_wy u_bt u_ps b_pt u_tg u_sn b_ip u_ic b_ah b_be b_me u_wd b_tr b_ld u_st b_wn u_id))] hP hD (fun hP hD => ?_)
      refine lv_if_eq (tgt := 26) hx hb dX12_readClause_19 (by decide) (fun c_137 => ?_) (fun c_137 => ?_)
      ·
        refine lv_iload_n hx hb dX12_readClause_26 rfl (lv_at hl 0 rfl) ?_
        refine lv_istore_n (lv' := [(1, .int k4_1), (2, .int k4_2), (0, .ref b_o)]) hx hb dX12_readClause_27 rfl hl (by decide) rfl (fun ls hl => ?_)
        refine lv_iinc (v := (k4_2 + 1)) (lv' := [(2, .int (k4_2 + 1)), (1, .int k4_1), (0, .ref b_o)]) hx hb dX12_readClause_28 hl (k := 1) rfl rfl (by decide) rfl (fun ls hl => ?_)
        have t_138 : (k4_2 + 1).toInt = k4_2.toInt + 1 := g5_iadd (a := k4_2.toInt) (b := 1) rfl (by decide) (by omega) (by omega)
        refine lv_goto (tgt := 4) hx hb dX12_readClause_31 (by decide) ?_
        exact ih_4_4 ((k4_2 + 1), k4_1) ls H locs (show Int.toNat (4 - (k4_2 + 1).toInt) < Int.toNat (4 - k4_2.toInt) from g_up (show k4_2.toInt < (k4_2 + 1).toInt by omega) (show k4_2.toInt < 4 by omega)) ⟨lv_sub hl [1, 0, 2] rfl, hP.sub [8, 0, 1, 2, 3, 4, 5, 6, 7] rfl, hD.sub [8, 0, 1, 2, 3, 4, 5, 6, 7] (by decide) rfl, hS, ⟨by omega, by omega⟩, i_2, i_3⟩
      ·
        exact absurd c_137 (by decide)
theorem dgX12_begin_0 : ∀ r ∈ ([(0, (.aload_n 0, 1)), (1, (.iconst 0, 1)), (2, (.putfield 202, 3)), (5, (.aload_n 0, 1)), (6, (.iconst 0, 1)), (7, (.putfield 205, 3)), (10, (.aload_n 0, 1)), (11, (.iconst (-1), 1)), (12, (.putfield 26, 3)), (15, (.aload_n 0, 1)), (16, (.invokevirtual 208, 3)), (19, (.return_, 1))] : List (Nat × (Instr × Nat))), decode cX12_begin r.1 = .ok r.2 := by decide +kernel
theorem dX12_begin_0 : decode cX12_begin 0 = .ok (.aload_n 0, 1) := dgX12_begin_0 (0, (.aload_n 0, 1)) (List.mem_of_getElem? (i := 0) rfl)
theorem dX12_begin_1 : decode cX12_begin 1 = .ok (.iconst 0, 1) := dgX12_begin_0 (1, (.iconst 0, 1)) (List.mem_of_getElem? (i := 1) rfl)
theorem dX12_begin_2 : decode cX12_begin 2 = .ok (.putfield 202, 3) := dgX12_begin_0 (2, (.putfield 202, 3)) (List.mem_of_getElem? (i := 2) rfl)
theorem dX12_begin_5 : decode cX12_begin 5 = .ok (.aload_n 0, 1) := dgX12_begin_0 (5, (.aload_n 0, 1)) (List.mem_of_getElem? (i := 3) rfl)
theorem dX12_begin_6 : decode cX12_begin 6 = .ok (.iconst 0, 1) := dgX12_begin_0 (6, (.iconst 0, 1)) (List.mem_of_getElem? (i := 4) rfl)
theorem dX12_begin_7 : decode cX12_begin 7 = .ok (.putfield 205, 3) := dgX12_begin_0 (7, (.putfield 205, 3)) (List.mem_of_getElem? (i := 5) rfl)
theorem dX12_begin_10 : decode cX12_begin 10 = .ok (.aload_n 0, 1) := dgX12_begin_0 (10, (.aload_n 0, 1)) (List.mem_of_getElem? (i := 6) rfl)
theorem dX12_begin_11 : decode cX12_begin 11 = .ok (.iconst (-1), 1) := dgX12_begin_0 (11, (.iconst (-1), 1)) (List.mem_of_getElem? (i := 7) rfl)
theorem dX12_begin_12 : decode cX12_begin 12 = .ok (.putfield 26, 3) := dgX12_begin_0 (12, (.putfield 26, 3)) (List.mem_of_getElem? (i := 8) rfl)
theorem dX12_begin_15 : decode cX12_begin 15 = .ok (.aload_n 0, 1) := dgX12_begin_0 (15, (.aload_n 0, 1)) (List.mem_of_getElem? (i := 9) rfl)
theorem dX12_begin_16 : decode cX12_begin 16 = .ok (.invokevirtual 208, 3) := dgX12_begin_0 (16, (.invokevirtual 208, 3)) (List.mem_of_getElem? (i := 10) rfl)
theorem dX12_begin_19 : decode cX12_begin 19 = .ok (.return_, 1) := dgX12_begin_0 (19, (.return_, 1)) (List.mem_of_getElem? (i := 11) rfl)
set_option maxHeartbeats 4000000 in
set_option maxRecDepth 100000 in
theorem n_begin (l : Launch) (G : g5_G) (b_o b_tp b_rf b_ro b_im b_ke b_nl b_op b_ar b_pi b_pa b_ws b_hw b_se b_re b_pt b_ip b_ah b_be b_me b_tr b_ld b_wn : Nat) (sz : Nat) (u_th : Int32) (u_sa : Int32) (u_fd : Int32) (u_td : Int32) (u_fr : Int32) (u_to : Int32) (u_so : Int32) (u_fa : Int32) (u_bd : Int32) (u_nc : Int32) (u_co : Int32) (u_le : Int32) (u_pd : Int32) (u_od : Int32) (u_la : Int32) (u_bk : Int32) (u_ce : Int32) (u_ho : Int32) (u_wy : Int32) (u_bt : Int32) (u_ps : Int32) (u_tg : Int32) (u_sn : Int32) (u_ic : Int32) (u_wd : Int32) (u_id : Int32) (u_wo : Int64) (u_va : Int64) (u_su : Int64) (u_st : Int64) (v_tp : Nat → Int32) (h_u_td : 0 ≤ u_td.toInt ∧ u_td.toInt ≤ 400) (h_u_fr : 0 ≤ u_fr.toInt ∧ u_fr.toInt ≤ 400) (h_u_to : 0 ≤ u_to.toInt ∧ u_to.toInt ≤ 400) (h_u_bd : 0 ≤ u_bd.toInt ∧ u_bd.toInt ≤ 1) (h_u_nc : 0 ≤ u_nc.toInt ∧ u_nc.toInt ≤ 12) (h_u_co : 0 ≤ u_co.toInt ∧ u_co.toInt ≤ 400) (h_u_pd : 0 ≤ u_pd.toInt ∧ u_pd.toInt ≤ 400) (h_u_la : 0 ≤ u_la.toInt ∧ u_la.toInt ≤ 4840) (h_u_bk : 0 ≤ u_bk.toInt ∧ u_bk.toInt ≤ 1) (h_u_ce : 0 ≤ u_ce.toInt ∧ u_ce.toInt ≤ 63) (h_u_ho : 0 ≤ u_ho.toInt ∧ u_ho.toInt ≤ 23) (h_u_wy : 0 ≤ u_wy.toInt ∧ u_wy.toInt ≤ 3) (h_u_bt : 0 ≤ u_bt.toInt ∧ u_bt.toInt ≤ 1000000) (h_u_ps : 0 ≤ u_ps.toInt ∧ u_ps.toInt ≤ 200) (h_u_ic : 0 ≤ u_ic.toInt ∧ u_ic.toInt ≤ 1) (h_u_id : 0 ≤ u_id.toInt ∧ u_id.toInt ≤ 1) : Met l yX12_begin (wsG yX12_begin cX12_begin 1 none) ({ frames := 2, cells := 0, slots := 0, locals := 40 }) (va_Pc [.ref b_o] (g5_P G [(b_o, (oc12 u_th u_sa b_rf b_ro b_im b_ke u_fd b_tp u_td u_fr u_to u_so u_wo u_fa u_bd u_nc b_nl u_co b_op b_ar u_le b_pi b_pa u_pd u_od b_ws b_hw u_la b_se b_re u_bk u_va u_su u_ce u_ho u_wy u_bt u_ps b_pt u_tg u_sn b_ip u_ic b_ah b_be b_me u_wd b_tr b_ld u_st b_wn u_id)), (b_tp, (arI G 400 v_tp))] sz)) (va_Qv (fun (u : va_W) => (∃ (o_fr : Int32) (o_to : Int32) (o_so : Int32) (o_wo : Int64), (0 ≤ o_fr.toInt ∧ o_fr.toInt ≤ 400) ∧ (0 ≤ o_to.toInt ∧ o_to.toInt ≤ 400) ∧ (o_fr.toInt ≤ o_to.toInt ∧ o_to.toInt ≤ u_td.toInt) ∧ (TKs o_so.toInt o_fr.toInt o_to.toInt) ∧ (u = [(b_o, (oc12 u_th u_sa b_rf b_ro b_im b_ke u_fd b_tp u_td o_fr o_to o_so o_wo (-1) 0 u_nc b_nl u_co b_op b_ar u_le b_pi b_pa u_pd u_od b_ws b_hw u_la b_se b_re u_bk u_va u_su u_ce u_ho u_wy u_bt u_ps b_pt u_tg u_sn b_ip u_ic b_ah b_be b_me u_wd b_tr b_ld u_st b_wn u_id)), (b_tp, (arI G 400 v_tp))]))) (g5_B G (va_A [(b_o, (oc12 u_th u_sa b_rf b_ro b_im b_ke u_fd b_tp u_td u_fr u_to u_so u_wo u_fa u_bd u_nc b_nl u_co b_op b_ar u_le b_pi b_pa u_pd u_od b_ws b_hw u_la b_se b_re u_bk u_va u_su u_ce u_ho u_wy u_bt u_ps b_pt u_tg u_sn b_ip u_ic b_ah b_be b_me u_wd b_tr b_ld u_st b_wn u_id)), (b_tp, (arI G 400 v_tp))] sz)) (va_A [(b_o, (oc12 u_th u_sa b_rf b_ro b_im b_ke u_fd b_tp u_td u_fr u_to u_so u_wo u_fa u_bd u_nc b_nl u_co b_op b_ar u_le b_pi b_pa u_pd u_od b_ws b_hw u_la b_se b_re u_bk u_va u_su u_ce u_ho u_wy u_bt u_ps b_pt u_tg u_sn b_ip u_ic b_ah b_be b_me u_wd b_tr b_ld u_st b_wn u_id)), (b_tp, (arI G 400 v_tp))] sz)) 0 0 (va_A [(b_o, (oc12 u_th u_sa b_rf b_ro b_im b_ke u_fd b_tp u_td u_fr u_to u_so u_wo u_fa u_bd u_nc b_nl u_co b_op b_ar u_le b_pi b_pa u_pd u_od b_ws b_hw u_la b_se b_re u_bk u_va u_su u_ce u_ho u_wy u_bt u_ps b_pt u_tg u_sn b_ip u_ic b_ah b_be b_me u_wd b_tr b_ld u_st b_wn u_id)), (b_tp, (arI G 400 v_tp))] sz) := by
  refine Met.ofW (cc := cX12_begin) (maxL := 1) (ret := none) (by decide) rfl ?_
  intro p e s m args below meth c s₁ B hml hv
  obtain ⟨rfl, hsz, hP, hK, hD0, hN, hT⟩ := hv
  have hx := B.exec
  have hb := B.bytes
  have hr := B.returns
  have hts : ∀ w ∈ tblG, w.before _ s = true := fun w h => atoms_spec (ws := (wsG yX12_begin cX12_begin 1 none)) B.pre w (List.mem_cons_of_mem _ h)
  have hown : s.vm.findClass RX12 = some m.cls := findClass_of_methodNamed B.named
  have hlocks := B.notSynchronized
  subst hsz
  have hD := hD0.self (sz := s.heap.size)
  generalize hAe : va_A [(b_o, (oc12 u_th u_sa b_rf b_ro b_im b_ke u_fd b_tp u_td u_fr u_to u_so u_wo u_fa u_bd u_nc b_nl u_co b_op b_ar u_le b_pi b_pa u_pd u_od b_ws b_hw u_la b_se b_re u_bk u_va u_su u_ce u_ho u_wy u_bt u_ps b_pt u_tg u_sn b_ip u_ic b_ah b_be b_me u_wd b_tr b_ld u_st b_wn u_id)), (b_tp, (arI G 400 v_tp))] s.heap.size = A at hD hT ⊢
  have hA : ∀ q : Nat, s.heap.size ≤ q → A q := fun q h => by rw [← hAe]; exact Or.inr h
  have hS : va_S A s.heap s.heap [] := va_S.rf
  have hP : va_P G.1 vwCl [(b_o, (oc12 u_th u_sa b_rf b_ro b_im b_ke u_fd b_tp u_td u_fr u_to u_so u_wo u_fa u_bd u_nc b_nl u_co b_op b_ar u_le b_pi b_pa u_pd u_od b_ws b_hw u_la b_se b_re u_bk u_va u_su u_ce u_ho u_wy u_bt u_ps b_pt u_tg u_sn b_ip u_ic b_ah b_be b_me u_wd b_tr b_ld u_st b_wn u_id)), (b_tp, (arI G 400 v_tp))] s.heap := hP
  have hl := lv_entry ([.ref b_o]) (n := 1) (Nat.le_of_ble_eq_true rfl)
  rw [lg_entry_eq]
  generalize (lg_sl ([.ref b_o]) ++ List.replicate (1 - (lg_sl ([.ref b_o])).length) Slot.unset).toArray = ls at hl ⊢
  have hl : lv_has ls 1 [(0, .ref b_o)] := hl
  have z00 : (0 : Int32).toInt = 0 := (by decide)
  refine lv_aload_n hx hb dX12_begin_0 rfl (lv_at hl 0 rfl) ?_
  refine lv_iconst (v := 0) hx hb dX12_begin_1 (by decide) ?_
  refine va_put (D := G.1) (ci := 12) (v := .int 0) (ty := .int) (C := RX12) (T := TX12) (N := 52) hx hb hts inG_X12 tyX12 tyX12_ok nmX12 hown hK hP hD hS 0 rfl rfl 10 (by decide) (hts _ fl_X12_202) (fun _ h9 => h9) rfl (by decide +kernel) rfl rfl (Nat.le_of_ble_eq_true rfl) dX12_begin_2 (fun H locs hP hD hS => ?_)
  refine g5_rs [(b_o, (oc12 u_th u_sa b_rf b_ro b_im b_ke u_fd b_tp u_td u_fr 0 u_so u_wo u_fa u_bd u_nc b_nl u_co b_op b_ar u_le b_pi b_pa u_pd u_od b_ws b_hw u_la b_se b_re u_bk u_va u_su u_ce u_ho u_wy u_bt u_ps b_pt u_tg u_sn b_ip u_ic b_ah b_be b_me u_wd b_tr b_ld u_st b_wn u_id)), (b_tp, (arI G 400 v_tp))] hP hD (fun hP hD => ?_)
  refine lv_aload_n hx hb dX12_begin_5 rfl (lv_at hl 0 rfl) ?_
  refine lv_iconst (v := 0) hx hb dX12_begin_6 (by decide) ?_
  refine va_put (D := G.1) (ci := 12) (v := .int 0) (ty := .boolean) (C := RX12) (T := TX12) (N := 52) hx hb hts inG_X12 tyX12 tyX12_ok nmX12 hown hK hP hD hS 0 rfl rfl 14 (by decide) (hts _ fl_X12_205) (fun _ h9 => h9) rfl (by decide +kernel) rfl rfl (Nat.le_of_ble_eq_true rfl) dX12_begin_7 (fun H locs hP hD hS => ?_)
  refine g5_rs [(b_o, (oc12 u_th u_sa b_rf b_ro b_im b_ke u_fd b_tp u_td u_fr 0 u_so u_wo u_fa 0 u_nc b_nl u_co b_op b_ar u_le b_pi b_pa u_pd u_od b_ws b_hw u_la b_se b_re u_bk u_va u_su u_ce u_ho u_wy u_bt u_ps b_pt u_tg u_sn b_ip u_ic b_ah b_be b_me u_wd b_tr b_ld u_st b_wn u_id)), (b_tp, (arI G 400 v_tp))] hP hD (fun hP hD => ?_)
  refine lv_aload_n hx hb dX12_begin_10 rfl (lv_at hl 0 rfl) ?_
  refine lv_iconst (v := (-1)) hx hb dX12_begin_11 (by decide) ?_
  refine va_put (D := G.1) (ci := 12) (v := .int (-1)) (ty := .int) (C := RX12) (T := TX12) (N := 52) hx hb hts inG_X12 tyX12 tyX12_ok nmX12 hown hK hP hD hS 0 rfl rfl 13 (by decide) (hts _ fl_X12_26) (fun _ h9 => h9) rfl (by decide +kernel) rfl rfl (Nat.le_of_ble_eq_true rfl) dX12_begin_12 (fun H locs hP hD hS => ?_)
  refine g5_rs [(b_o, (oc12 u_th u_sa b_rf b_ro b_im b_ke u_fd b_tp u_td u_fr 0 u_so u_wo (-1) 0 u_nc b_nl u_co b_op b_ar u_le b_pi b_pa u_pd u_od b_ws b_hw u_la b_se b_re u_bk u_va u_su u_ce u_ho u_wy u_bt u_ps b_pt u_tg u_sn b_ip u_ic b_ah b_be b_me u_wd b_tr b_ld u_st b_wn u_id)), (b_tp, (arI G 400 v_tp))] hP hD (fun hP hD => ?_)
  refine lv_aload_n hx hb dX12_begin_15 rfl (lv_at hl 0 rfl) ?_
  obtain ⟨hPc, hDc, hFc⟩ := g5_sub3 (wc := [(b_o, (oc12 u_th u_sa b_rf b_ro b_im b_ke u_fd b_tp u_td u_fr 0 u_so u_wo (-1) 0 u_nc b_nl u_co b_op b_ar u_le b_pi b_pa u_pd u_od b_ws b_hw u_la b_se b_re u_bk u_va u_su u_ce u_ho u_wy u_bt u_ps b_pt u_tg u_sn b_ip u_ic b_ah b_be b_me u_wd b_tr b_ld u_st b_wn u_id)), (b_tp, (arI G 400 v_tp))]) hP hD hS hA [0, 1] (by decide) rfl
  refine va_callv (va_runV (As := []) (rest := []) ⟨hx, hb, hml, hown, hts⟩ (n_next l G b_o b_tp b_rf b_ro b_im b_ke b_nl b_op b_ar b_pi b_pa b_ws b_hw b_se b_re b_pt b_ip b_ah b_be b_me b_tr b_ld b_wn H.size u_th u_sa u_fd u_td u_fr 0 u_so (-1) 0 u_nc u_co u_le u_pd u_od u_la u_bk u_ce u_ho u_wy u_bt u_ps u_tg u_sn u_ic u_wd u_id u_wo u_va u_su u_st v_tp h_u_td h_u_fr ⟨by decide, by decide⟩ ⟨by decide, by decide⟩ h_u_nc h_u_co h_u_pd h_u_la h_u_bk h_u_ce h_u_ho h_u_wy h_u_bt h_u_ps h_u_ic h_u_id (by omega)) (cwV 0 hts gV_X12_208 rfl rfl rfl hv_X12_next ⟨Nat.le_of_ble_eq_true rfl, Nat.le_of_ble_eq_true rfl⟩) (g5_preV hPc hK hDc hN hT hS hFc (ci := 12) (q0 := 0) rfl rfl) rfl rfl hl.1 rfl (lv_room (Nat.le_of_ble_eq_true rfl)) dX12_begin_16 ⟨Nat.le_of_ble_eq_true rfl, Nat.le_of_ble_eq_true rfl⟩) hS (fun q _ h => hFc q h) hFc (fun u t H1 locs ht hvm hw hB hz1 hk1 hS => ?_)
  obtain ⟨hP1, hD1⟩ := hB
  rw [ht] at hP1
  obtain ⟨z5, z6, z7, z8, i_1, i_2, i_3, i_4, rfl⟩ := hw
  have i_1 : 0 ≤ z5.toInt ∧ z5.toInt ≤ 400 := i_1
  have i_2 : 0 ≤ z6.toInt ∧ z6.toInt ≤ 400 := i_2
  have i_3 : (0 : Int32).toInt ≤ z5.toInt ∧ z5.toInt ≤ z6.toInt ∧ z6.toInt ≤ u_td.toInt := i_3
  have i_4 : TKs z7.toInt z5.toInt z6.toInt := i_4
  obtain ⟨hP, hD⟩ := va_join (wr := []) hP hD [0, 1] [] rfl rfl (by decide) (by decide) hk1 hFc hP1 hD1
  generalize H1 = H at hP hS ⊢
  refine g5_rs [(b_o, (oc12 u_th u_sa b_rf b_ro b_im b_ke u_fd b_tp u_td z5 z6 z7 z8 (-1) 0 u_nc b_nl u_co b_op b_ar u_le b_pi b_pa u_pd u_od b_ws b_hw u_la b_se b_re u_bk u_va u_su u_ce u_ho u_wy u_bt u_ps b_pt u_tg u_sn b_ip u_ic b_ah b_be b_me u_wd b_tr b_ld u_st b_wn u_id)), (b_tp, (arI G 400 v_tp))] hP hD (fun hP hD => ?_)
  exact W.vret hx hb hr (fun t ht hW => ⟨⟨[(b_o, (oc12 u_th u_sa b_rf b_ro b_im b_ke u_fd b_tp u_td z5 z6 z7 z8 (-1) 0 u_nc b_nl u_co b_op b_ar u_le b_pi b_pa u_pd u_od b_ws b_hw u_la b_se b_re u_bk u_va u_su u_ce u_ho u_wy u_bt u_ps b_pt u_tg u_sn b_ip u_ic b_ah b_be b_me u_wd b_tr b_ld u_st b_wn u_id)), (b_tp, (arI G 400 v_tp))], rfl, ⟨z5, z6, z7, z8, i_1, i_2, by omega, i_4, rfl⟩, by rw [ht]; exact hP.sub [0, 1] rfl, hD.sub [0, 1] (by decide) rfl⟩, hS.F ht⟩) hS.2.2 dX12_begin_19
