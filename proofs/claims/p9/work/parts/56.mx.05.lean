set_option maxHeartbeats 4000000 in
set_option maxRecDepth 100000 in
theorem n_rowE (l : Launch) (G : g5_G) (b_o b_rf b_ro b_tp b_im b_ke b_nl b_op b_ar b_pi b_pa b_ws b_hw b_se b_re b_pt b_ip b_ah b_be b_me b_tr b_ld b_wn : Nat) (sz : Nat) (u_th : Int32) (u_sa : Int32) (u_fd : Int32) (u_td : Int32) (u_fr : Int32) (u_to : Int32) (u_so : Int32) (u_fa : Int32) (u_bd : Int32) (u_nc : Int32) (u_co : Int32) (u_le : Int32) (u_pd : Int32) (u_od : Int32) (u_la : Int32) (u_bk : Int32) (u_ce : Int32) (u_ho : Int32) (u_wy : Int32) (u_bt : Int32) (u_ps : Int32) (u_tg : Int32) (u_sn : Int32) (u_ic : Int32) (u_wd : Int32) (u_id : Int32) (u_wo : Int64) (u_va : Int64) (u_su : Int64) (u_st : Int64) (v_rf : Nat → Int32) (v_ro : Nat → Int32) (v_tp : Nat → Int32) (h_u_td : 0 ≤ u_td.toInt ∧ u_td.toInt ≤ 400) (h_u_fr : 0 ≤ u_fr.toInt ∧ u_fr.toInt ≤ 400) (h_u_to : 0 ≤ u_to.toInt ∧ u_to.toInt ≤ 400) (h_u_bd : 0 ≤ u_bd.toInt ∧ u_bd.toInt ≤ 1) (h_u_nc : 0 ≤ u_nc.toInt ∧ u_nc.toInt ≤ 12) (h_u_co : 0 ≤ u_co.toInt ∧ u_co.toInt ≤ 400) (h_u_pd : 0 ≤ u_pd.toInt ∧ u_pd.toInt ≤ 400) (h_u_la : 0 ≤ u_la.toInt ∧ u_la.toInt ≤ 4840) (h_u_bk : 0 ≤ u_bk.toInt ∧ u_bk.toInt ≤ 1) (h_u_ce : 0 ≤ u_ce.toInt ∧ u_ce.toInt ≤ 63) (h_u_ho : 0 ≤ u_ho.toInt ∧ u_ho.toInt ≤ 23) (h_u_wy : 0 ≤ u_wy.toInt ∧ u_wy.toInt ≤ 3) (h_u_bt : 0 ≤ u_bt.toInt ∧ u_bt.toInt ≤ 1000000) (h_u_ps : 0 ≤ u_ps.toInt ∧ u_ps.toInt ≤ 200) (h_u_ic : 0 ≤ u_ic.toInt ∧ u_ic.toInt ≤ 1) (h_u_id : 0 ≤ u_id.toInt ∧ u_id.toInt ≤ 1) (r_ro : MI v_ro) (r_tp : TPI v_tp) : Met l yX12_row (wsG yX12_row cX12_row 5 (some .int)) ({ frames := 2, cells := 0, slots := 0, locals := 46 }) (va_Pc [.ref b_o] (g5_P G [(b_o, (oc12 u_th u_sa b_rf b_ro b_im b_ke u_fd b_tp u_td u_fr u_to u_so u_wo u_fa u_bd u_nc b_nl u_co b_op b_ar u_le b_pi b_pa u_pd u_od b_ws b_hw u_la b_se b_re u_bk u_va u_su u_ce u_ho u_wy u_bt u_ps b_pt u_tg u_sn b_ip u_ic b_ah b_be b_me u_wd b_tr b_ld u_st b_wn u_id)), (b_rf, (arI G 7 v_rf)), (b_ro, (arI G 5740 v_ro)), (b_tp, (arI G 400 v_tp))] sz)) (va_Qi (fun (r : Int32) (u : va_W) => (∃ (o_r : Int32) (o_th : Int32) (o_sa : Int32) (o_fd : Int32) (o_td : Int32) (o_ic : Int32) (o_rf : Nat → Int32) (o_ro : Nat → Int32), (MI o_ro) ∧ (0 ≤ o_td.toInt ∧ o_td.toInt ≤ 400) ∧ (0 ≤ o_ic.toInt ∧ o_ic.toInt ≤ 1) ∧ (o_td.toInt = 0) ∧ (o_td = 0) ∧ (o_r = arow v_tp u_td v_ro) ∧ (o_ro = srow v_tp u_td v_ro) ∧ (o_fd = srowF v_tp u_td u_fd v_ro) ∧ (r = o_r) ∧ (u = [(b_o, (oc12 o_th o_sa b_rf b_ro b_im b_ke o_fd b_tp o_td u_fr u_to u_so u_wo u_fa u_bd u_nc b_nl u_co b_op b_ar u_le b_pi b_pa u_pd u_od b_ws b_hw u_la b_se b_re u_bk u_va u_su u_ce u_ho u_wy u_bt u_ps b_pt u_tg u_sn b_ip o_ic b_ah b_be b_me u_wd b_tr b_ld u_st b_wn u_id)), (b_rf, (arI G 7 o_rf)), (b_ro, (arI G 5740 o_ro)), (b_tp, (arI G 400 v_tp))]))) (g5_B G (va_A [(b_o, (oc12 u_th u_sa b_rf b_ro b_im b_ke u_fd b_tp u_td u_fr u_to u_so u_wo u_fa u_bd u_nc b_nl u_co b_op b_ar u_le b_pi b_pa u_pd u_od b_ws b_hw u_la b_se b_re u_bk u_va u_su u_ce u_ho u_wy u_bt u_ps b_pt u_tg u_sn b_ip u_ic b_ah b_be b_me u_wd b_tr b_ld u_st b_wn u_id)), (b_rf, (arI G 7 v_rf)), (b_ro, (arI G 5740 v_ro)), (b_tp, (arI G 400 v_tp))] sz)) (va_A [(b_o, (oc12 u_th u_sa b_rf b_ro b_im b_ke u_fd b_tp u_td u_fr u_to u_so u_wo u_fa u_bd u_nc b_nl u_co b_op b_ar u_le b_pi b_pa u_pd u_od b_ws b_hw u_la b_se b_re u_bk u_va u_su u_ce u_ho u_wy u_bt u_ps b_pt u_tg u_sn b_ip u_ic b_ah b_be b_me u_wd b_tr b_ld u_st b_wn u_id)), (b_rf, (arI G 7 v_rf)), (b_ro, (arI G 5740 v_ro)), (b_tp, (arI G 400 v_tp))] sz)) 0 0 (va_A [(b_o, (oc12 u_th u_sa b_rf b_ro b_im b_ke u_fd b_tp u_td u_fr u_to u_so u_wo u_fa u_bd u_nc b_nl u_co b_op b_ar u_le b_pi b_pa u_pd u_od b_ws b_hw u_la b_se b_re u_bk u_va u_su u_ce u_ho u_wy u_bt u_ps b_pt u_tg u_sn b_ip u_ic b_ah b_be b_me u_wd b_tr b_ld u_st b_wn u_id)), (b_rf, (arI G 7 v_rf)), (b_ro, (arI G 5740 v_ro)), (b_tp, (arI G 400 v_tp))] sz) := by
  refine Met.ofW (cc := cX12_row) (maxL := 5) (ret := (some .int)) (by decide) rfl ?_
  intro p e s m args below meth c s₁ B hml hv
  obtain ⟨rfl, hsz, hP, hK, hD0, hN, hT⟩ := hv
  have hx := B.exec
  have hb := B.bytes
  have hr := B.returns
  have hts : ∀ w ∈ tblG, w.before _ s = true := fun w h => atoms_spec (ws := (wsG yX12_row cX12_row 5 (some .int))) B.pre w (List.mem_cons_of_mem _ h)
  have hown : s.vm.findClass RX12 = some m.cls := findClass_of_methodNamed B.named
  have hlocks := B.notSynchronized
  subst hsz
  have hD := hD0.self (sz := s.heap.size)
  generalize hAe : va_A [(b_o, (oc12 u_th u_sa b_rf b_ro b_im b_ke u_fd b_tp u_td u_fr u_to u_so u_wo u_fa u_bd u_nc b_nl u_co b_op b_ar u_le b_pi b_pa u_pd u_od b_ws b_hw u_la b_se b_re u_bk u_va u_su u_ce u_ho u_wy u_bt u_ps b_pt u_tg u_sn b_ip u_ic b_ah b_be b_me u_wd b_tr b_ld u_st b_wn u_id)), (b_rf, (arI G 7 v_rf)), (b_ro, (arI G 5740 v_ro)), (b_tp, (arI G 400 v_tp))] s.heap.size = A at hD hT ⊢
  have hA : ∀ q : Nat, s.heap.size ≤ q → A q := fun q h => by rw [← hAe]; exact Or.inr h
  have hS : va_S A s.heap s.heap [] := va_S.rf
  have hP : va_P G.1 vwCl [(b_o, (oc12 u_th u_sa b_rf b_ro b_im b_ke u_fd b_tp u_td u_fr u_to u_so u_wo u_fa u_bd u_nc b_nl u_co b_op b_ar u_le b_pi b_pa u_pd u_od b_ws b_hw u_la b_se b_re u_bk u_va u_su u_ce u_ho u_wy u_bt u_ps b_pt u_tg u_sn b_ip u_ic b_ah b_be b_me u_wd b_tr b_ld u_st b_wn u_id)), (b_rf, (arI G 7 v_rf)), (b_ro, (arI G 5740 v_ro)), (b_tp, (arI G 400 v_tp))] s.heap := hP
  have hl := lv_entry ([.ref b_o]) (n := 5) (Nat.le_of_ble_eq_true rfl)
  rw [lg_entry_eq]
  generalize (lg_sl ([.ref b_o]) ++ List.replicate (5 - (lg_sl ([.ref b_o])).length) Slot.unset).toArray = ls at hl ⊢
  have hl : lv_has ls 5 [(0, .ref b_o)] := hl
  refine lv_aload_n hx hb dX12_row_0 rfl (lv_at hl 0 rfl) ?_
  refine lv_iconst (v := 0) hx hb dX12_row_1 (by decide) ?_
  refine va_put (D := G.1) (ci := 12) (v := .int 0) (ty := .int) (C := RX12) (T := TX12) (N := 52) hx hb hts inG_X12 tyX12 tyX12_ok nmX12 hown hK hP hD hS 0 rfl rfl 0 (by decide) (hts _ fl_X12_107) (fun _ h9 => h9) rfl (by decide +kernel) rfl rfl (Nat.le_of_ble_eq_true rfl) dX12_row_2 (fun H locs hP hD hS => ?_)
  refine g5_rs [(b_o, (oc12 0 u_sa b_rf b_ro b_im b_ke u_fd b_tp u_td u_fr u_to u_so u_wo u_fa u_bd u_nc b_nl u_co b_op b_ar u_le b_pi b_pa u_pd u_od b_ws b_hw u_la b_se b_re u_bk u_va u_su u_ce u_ho u_wy u_bt u_ps b_pt u_tg u_sn b_ip u_ic b_ah b_be b_me u_wd b_tr b_ld u_st b_wn u_id)), (b_rf, (arI G 7 v_rf)), (b_ro, (arI G 5740 v_ro)), (b_tp, (arI G 400 v_tp))] hP hD (fun hP hD => ?_)
  refine lv_aload_n hx hb dX12_row_5 rfl (lv_at hl 0 rfl) ?_
  refine va_get (D := G.1) (ci := 12) (v := .int u_td) (C := RX12) (T := TX12) (N := 52) hx hb hts inG_X12 hown hK hP 0 rfl rfl 8 (by decide) (hts _ fl_X12_192) (fun _ h9 => h9) rfl dX12_row_6 ?_
  refine lv_istore_n (lv' := [(1, .int u_td), (0, .ref b_o)]) hx hb dX12_row_9 rfl hl (by decide) rfl (fun ls hl => ?_)
  refine lv_aload_n hx hb dX12_row_10 rfl (lv_at hl 1 rfl) ?_
  refine lv_iconst (v := 0) hx hb dX12_row_11 (by decide) ?_
  refine va_put (D := G.1) (ci := 12) (v := .int 0) (ty := .int) (C := RX12) (T := TX12) (N := 52) hx hb hts inG_X12 tyX12 tyX12_ok nmX12 hown hK hP hD hS 0 rfl rfl 8 (by decide) (hts _ fl_X12_192) (fun _ h9 => h9) rfl (by decide +kernel) rfl rfl (Nat.le_of_ble_eq_true rfl) dX12_row_12 (fun H locs hP hD hS => ?_)
  refine g5_rs [(b_o, (oc12 0 u_sa b_rf b_ro b_im b_ke u_fd b_tp 0 u_fr u_to u_so u_wo u_fa u_bd u_nc b_nl u_co b_op b_ar u_le b_pi b_pa u_pd u_od b_ws b_hw u_la b_se b_re u_bk u_va u_su u_ce u_ho u_wy u_bt u_ps b_pt u_tg u_sn b_ip u_ic b_ah b_be b_me u_wd b_tr b_ld u_st b_wn u_id)), (b_rf, (arI G 7 v_rf)), (b_ro, (arI G 5740 v_ro)), (b_tp, (arI G 400 v_tp))] hP hD (fun hP hD => ?_)
  refine lv_iload_n hx hb dX12_row_15 rfl (lv_at hl 0 rfl) ?_
  refine lv_if_ne (tgt := 26) hx hb dX12_row_16 (by decide) (fun c_1 => ?_) (fun c_1 => ?_)
  ·
    have n_1 : gNe (u_td.toInt) (0) := by have z := g5_ne (a := u_td.toInt) (b := 0) (by rfl) (by decide) c_1; unfold gNe; omega
    have i_1 : u_td.toInt ≥ 1 := by have z := g5_ne (a := u_td.toInt) (b := 0) (by rfl) (by decide) c_1; omega
    refine lv_aload_n hx hb dX12_row_26 rfl (lv_at hl 1 rfl) ?_
    refine lv_iconst (v := 0) hx hb dX12_row_27 (by decide) ?_
    refine va_put (D := G.1) (ci := 12) (v := .int 0) (ty := .int) (C := RX12) (T := TX12) (N := 52) hx hb hts inG_X12 tyX12 tyX12_ok nmX12 hown hK hP hD hS 0 rfl rfl 6 (by decide) (hts _ fl_X12_195) (fun _ h9 => h9) rfl (by decide +kernel) rfl rfl (Nat.le_of_ble_eq_true rfl) dX12_row_28 (fun H locs hP hD hS => ?_)
    refine g5_rs [(b_o, (oc12 0 u_sa b_rf b_ro b_im b_ke 0 b_tp 0 u_fr u_to u_so u_wo u_fa u_bd u_nc b_nl u_co b_op b_ar u_le b_pi b_pa u_pd u_od b_ws b_hw u_la b_se b_re u_bk u_va u_su u_ce u_ho u_wy u_bt u_ps b_pt u_tg u_sn b_ip u_ic b_ah b_be b_me u_wd b_tr b_ld u_st b_wn u_id)), (b_rf, (arI G 7 v_rf)), (b_ro, (arI G 5740 v_ro)), (b_tp, (arI G 400 v_tp))] hP hD (fun hP hD => ?_)
    refine lv_iconst (v := 0) hx hb dX12_row_31 (by decide) ?_
    refine lv_istore_n (lv' := [(2, .int 0), (1, .int u_td), (0, .ref b_o)]) hx hb dX12_row_32 rfl hl (by decide) rfl (fun ls hl => ?_)
    refine lv_iconst (v := 0) hx hb dX12_row_33 (by decide) ?_
    refine lv_istore_n (lv' := [(3, .int 0), (2, .int 0), (1, .int u_td), (0, .ref b_o)]) hx hb dX12_row_34 rfl hl (by decide) rfl (fun ls hl => ?_)
    refine g5_loop (α := (Int32) × (Int32) × (Int32) × (Nat → Int32)) (fun (q : (Int32) × (Int32) × (Int32) × (Nat → Int32)) (ls : Array Slot) (H : Heap) (locs : List Loc) => match q with | (k35_3, k35_2, k35_fd, k35_ro) => lv_has ls 5 [(2, .int k35_2), (3, .int k35_3), (1, .int u_td), (0, .ref b_o)] ∧ va_P G.1 vwCl [(b_o, (oc12 0 u_sa b_rf b_ro b_im b_ke k35_fd b_tp 0 u_fr u_to u_so u_wo u_fa u_bd u_nc b_nl u_co b_op b_ar u_le b_pi b_pa u_pd u_od b_ws b_hw u_la b_se b_re u_bk u_va u_su u_ce u_ho u_wy u_bt u_ps b_pt u_tg u_sn b_ip u_ic b_ah b_be b_me u_wd b_tr b_ld u_st b_wn u_id)), (b_rf, (arI G 7 v_rf)), (b_ro, (arI G 5740 k35_ro)), (b_tp, (arI G 400 v_tp))] H ∧ va_D A [(b_o, (oc12 0 u_sa b_rf b_ro b_im b_ke k35_fd b_tp 0 u_fr u_to u_so u_wo u_fa u_bd u_nc b_nl u_co b_op b_ar u_le b_pi b_pa u_pd u_od b_ws b_hw u_la b_se b_re u_bk u_va u_su u_ce u_ho u_wy u_bt u_ps b_pt u_tg u_sn b_ip u_ic b_ah b_be b_me u_wd b_tr b_ld u_st b_wn u_id)), (b_rf, (arI G 7 v_rf)), (b_ro, (arI G 5740 k35_ro)), (b_tp, (arI G 400 v_tp))] ∧ va_S A s.heap H locs ∧ (0 ≤ k35_3.toInt ∧ k35_3.toInt ≤ 403) ∧ (0 ≤ k35_2.toInt ∧ k35_2.toInt ≤ 101) ∧ (MI k35_ro) ∧ (k35_3.toInt % 4 = 0) ∧ (k35_3.toInt ≤ u_td.toInt + 3) ∧ (0 ≤ k35_fd.toInt ∧ k35_fd.toInt ≤ 101) ∧ (k35_2.toInt + k35_fd.toInt = k35_3.toInt / 4) ∧ (k35_2.toInt = rwC v_tp u_td.toInt v_ro (k35_3.toInt / 4).toNat) ∧ (k35_ro = rwS v_tp u_td.toInt v_ro (k35_3.toInt / 4).toNat)) (fun (q : (Int32) × (Int32) × (Int32) × (Nat → Int32)) => match q with | (k35_3, k35_2, k35_fd, k35_ro) => Int.toNat (404 - k35_3.toInt)) (0, 0, 0, v_ro) ⟨lv_sub hl [1, 0, 2, 3] rfl, hP, hD, hS, ⟨by decide, by decide⟩, ⟨by decide, by decide⟩, r_ro, by decide, by have z0 : (0 : Int32).toInt = 0 := (by decide); omega, ⟨by decide, by decide⟩, by decide, by rw [show ((0 : Int32).toInt / 4).toNat = 0 from by decide]; exact (show (0 : Int32).toInt = 0 by decide), rfl⟩ ?_
    rintro ⟨k35_3, k35_2, k35_fd, k35_ro⟩ ls H locs ⟨hl, hP, hD, hS, i_2, i_3, i_4, i_5, i_6, i_7, i_8, i_9, i_10⟩ ih_35_11
    have hl : lv_has ls 5 [(2, .int k35_2), (3, .int k35_3), (1, .int u_td), (0, .ref b_o)] := hl
    have i_2 : 0 ≤ k35_3.toInt ∧ k35_3.toInt ≤ 403 := i_2
    have i_3 : 0 ≤ k35_2.toInt ∧ k35_2.toInt ≤ 101 := i_3
    have i_4 : MI k35_ro := i_4
    have i_5 : k35_3.toInt % 4 = 0 := i_5
    have i_6 : k35_3.toInt ≤ u_td.toInt + 3 := i_6
    have i_7 : 0 ≤ k35_fd.toInt ∧ k35_fd.toInt ≤ 101 := i_7
    have i_8 : k35_2.toInt + k35_fd.toInt = k35_3.toInt / 4 := i_8
    have i_9 : k35_2.toInt = rwC v_tp u_td.toInt v_ro (k35_3.toInt / 4).toNat := i_9
    have i_10 : k35_ro = rwS v_tp u_td.toInt v_ro (k35_3.toInt / 4).toNat := i_10
    refine g5_rs [(b_o, (oc12 0 u_sa b_rf b_ro b_im b_ke k35_fd b_tp 0 u_fr u_to u_so u_wo u_fa u_bd u_nc b_nl u_co b_op b_ar u_le b_pi b_pa u_pd u_od b_ws b_hw u_la b_se b_re u_bk u_va u_su u_ce u_ho u_wy u_bt u_ps b_pt u_tg u_sn b_ip u_ic b_ah b_be b_me u_wd b_tr b_ld u_st b_wn u_id)), (b_rf, (arI G 7 v_rf)), (b_ro, (arI G 5740 k35_ro)), (b_tp, (arI G 400 v_tp))] hP hD (fun hP hD => ?_)
    refine lv_iload_n hx hb dX12_row_35 rfl (lv_at hl 1 rfl) ?_
    refine lv_iload_n hx hb dX12_row_36 rfl (lv_at hl 2 rfl) ?_
    refine lv_icmp_ge (tgt := 247) hx hb dX12_row_37 (by decide) (fun c_12 => ?_) (fun c_12 => ?_)
    ·
      have i_12 : k35_3.toInt ≥ u_td.toInt := by have z := g5_ge (a := k35_3.toInt) (b := u_td.toInt) (by rfl) (by rfl) c_12; omega
      refine lv_aload_n hx hb dX12_row_247 rfl (lv_at hl 3 rfl) ?_
      refine lv_iload_n hx hb dX12_row_248 rfl (lv_at hl 0 rfl) ?_
      obtain ⟨hPc, hDc, hFc⟩ := g5_sub3 (wc := [(b_o, (oc12 0 u_sa b_rf b_ro b_im b_ke k35_fd b_tp 0 u_fr u_to u_so u_wo u_fa u_bd u_nc b_nl u_co b_op b_ar u_le b_pi b_pa u_pd u_od b_ws b_hw u_la b_se b_re u_bk u_va u_su u_ce u_ho u_wy u_bt u_ps b_pt u_tg u_sn b_ip u_ic b_ah b_be b_me u_wd b_tr b_ld u_st b_wn u_id)), (b_rf, (arI G 7 v_rf))]) hP hD hS hA [0, 1] (by decide) rfl
      refine va_calli (va_runV (As := [.int k35_2]) (rest := []) ⟨hx, hb, hml, hown, hts⟩ (n_tell l G b_o b_rf b_ro b_im b_ke b_tp b_nl b_op b_ar b_pi b_pa b_ws b_hw b_se b_re b_pt b_ip b_ah b_be b_me b_tr b_ld b_wn H.size 0 u_sa k35_fd 0 u_fr u_to u_so u_fa u_bd u_nc u_co u_le u_pd u_od u_la u_bk u_ce u_ho u_wy u_bt u_ps u_tg u_sn u_ic u_wd u_id k35_2 u_wo u_va u_su u_st v_rf ⟨by decide, by decide⟩ h_u_fr h_u_to h_u_bd h_u_nc h_u_co h_u_pd h_u_la h_u_bk h_u_ce h_u_ho h_u_wy h_u_bt h_u_ps h_u_ic h_u_id ⟨by omega, by omega⟩) (cwV 1 hts gV_X12_125 rfl rfl rfl hv_X12_tell ⟨Nat.le_of_ble_eq_true rfl, Nat.le_of_ble_eq_true rfl⟩) (g5_preV hPc hK hDc hN hT hS hFc (ci := 12) (q0 := 0) rfl rfl) rfl rfl hl.1 rfl (lv_room (Nat.le_of_ble_eq_true rfl)) dX12_row_249 ⟨Nat.le_of_ble_eq_true rfl, Nat.le_of_ble_eq_true rfl⟩) hS (fun q _ h => hFc q h) hFc (fun r u t H1 locs ht hvm hw hB hz1 hk1 hS => ?_)
      obtain ⟨hP1, hD1⟩ := hB
      rw [ht] at hP1
      obtain ⟨z14, z15, z16, i_13, y17, rfl⟩ := hw
      have i_13 : 0 ≤ z15.toInt ∧ z15.toInt ≤ 1 := i_13
      obtain ⟨hP, hD⟩ := va_join (wr := [(b_ro, (arI G 5740 k35_ro)), (b_tp, (arI G 400 v_tp))]) hP hD [0, 1] [2, 3] rfl rfl (by decide) (by decide) hk1 hFc hP1 hD1
      generalize H1 = H at hP hS ⊢
      refine g5_rs [(b_ro, (arI G 5740 k35_ro)), (b_tp, (arI G 400 v_tp)), (b_o, (oc12 0 z14 b_rf b_ro b_im b_ke k35_fd b_tp 0 u_fr u_to u_so u_wo u_fa u_bd u_nc b_nl u_co b_op b_ar u_le b_pi b_pa u_pd u_od b_ws b_hw u_la b_se b_re u_bk u_va u_su u_ce u_ho u_wy u_bt u_ps b_pt u_tg u_sn b_ip z15 b_ah b_be b_me u_wd b_tr b_ld u_st b_wn u_id)), (b_rf, (arI G 7 z16))] hP hD (fun hP hD => ?_)
      refine g5_ti (v := k35_2) y17 ?_
      exact W.iret (v := k35_2) hx hb hr (fun t ht hW => ⟨⟨k35_2, [(b_o, (oc12 0 z14 b_rf b_ro b_im b_ke k35_fd b_tp 0 u_fr u_to u_so u_wo u_fa u_bd u_nc b_nl u_co b_op b_ar u_le b_pi b_pa u_pd u_od b_ws b_hw u_la b_se b_re u_bk u_va u_su u_ce u_ho u_wy u_bt u_ps b_pt u_tg u_sn b_ip z15 b_ah b_be b_me u_wd b_tr b_ld u_st b_wn u_id)), (b_rf, (arI G 7 z16)), (b_ro, (arI G 5740 k35_ro)), (b_tp, (arI G 400 v_tp))], rfl, ⟨k35_2, 0, z14, k35_fd, 0, z15, z16, k35_ro, i_4, ⟨by have zc_o_td : (0 : Int32).toInt = 0 := (by decide); omega, by have zc_o_td : (0 : Int32).toInt = 0 := (by decide); omega⟩, i_13, by decide, rfl, (row_0 (t := v_tp) (td := u_td) (fd := u_fd) (f := v_ro) (a := k35_3) (c := k35_2) (g := k35_fd) (by omega) (by omega) (by omega) (by omega) (by omega) i_9 (by omega)).1, i_10.trans (row_0 (t := v_tp) (td := u_td) (fd := u_fd) (f := v_ro) (a := k35_3) (c := k35_2) (g := k35_fd) (by omega) (by omega) (by omega) (by omega) (by omega) i_9 (by omega)).2.1, (row_0 (t := v_tp) (td := u_td) (fd := u_fd) (f := v_ro) (a := k35_3) (c := k35_2) (g := k35_fd) (by omega) (by omega) (by omega) (by omega) (by omega) i_9 (by omega)).2.2, rfl, rfl⟩, by rw [ht]; exact hP.sub [2, 3, 0, 1] rfl, hD.sub [2, 3, 0, 1] (by decide) rfl⟩, hS.F ht⟩) hS.2.2 dX12_row_252
    ·
      have i_12 : k35_3.toInt < u_td.toInt := by have z := g5_geN (a := k35_3.toInt) (b := u_td.toInt) (by rfl) (by rfl) c_12; omega
      refine lv_iload_n hx hb dX12_row_40 rfl (lv_at hl 1 rfl) ?_
      refine lv_iconst (v := 3) hx hb dX12_row_41 (by decide) ?_
      refine lv_iadd hx hb dX12_row_42 ?_
      have t_18 : (k35_3 + 3).toInt = k35_3.toInt + 3 := g5_iadd (a := k35_3.toInt) (b := 3) (by rfl) (by decide) (by omega) (by omega)
      refine lv_iload_n hx hb dX12_row_43 rfl (lv_at hl 2 rfl) ?_
      refine lv_icmp_ge (tgt := 111) hx hb dX12_row_44 (by decide) (fun c_19 => ?_) (fun c_19 => ?_)
      ·
        have i_19 : (k35_3.toInt + 3) ≥ u_td.toInt := by have z := g5_ge (a := (k35_3 + 3).toInt) (b := u_td.toInt) (by rfl) (by rfl) c_19; omega
        refine lv_iconst (v := 0) hx hb dX12_row_111 (by decide) ?_
        refine lv_istore (lv' := [(4, .int 0), (2, .int k35_2), (3, .int k35_3), (1, .int u_td), (0, .ref b_o)]) hx hb dX12_row_112 hl (by decide) rfl (fun ls hl => ?_)
        refine lv_iload hx hb dX12_row_114 (lv_at hl 0 rfl) ?_
        refine lv_if_eq (tgt := 165) hx hb dX12_row_116 (by decide) (fun c_20 => ?_) (fun c_20 => ?_)
        ·
          refine lv_iconst (v := 0) hx hb dX12_row_165 (by decide) ?_
          refine lv_istore (lv' := [(4, .int 0), (2, .int k35_2), (3, .int k35_3), (1, .int u_td), (0, .ref b_o)]) hx hb dX12_row_166 hl (by decide) rfl (fun ls hl => ?_)
          refine lv_iload hx hb dX12_row_168 (lv_at hl 0 rfl) ?_
          refine lv_if_eq (tgt := 231) hx hb dX12_row_170 (by decide) (fun c_21 => ?_) (fun c_21 => ?_)
          ·
            refine lv_aload_n hx hb dX12_row_231 rfl (lv_at hl 4 rfl) ?_
            refine lv_dup hx hb dX12_row_232 rfl ?_
            refine va_get (D := G.1) (ci := 12) (v := .int k35_fd) (C := RX12) (T := TX12) (N := 52) hx hb hts inG_X12 hown hK hP 0 rfl rfl 6 (by decide) (hts _ fl_X12_195) (fun _ h9 => h9) rfl dX12_row_233 ?_
            refine lv_iconst (v := 1) hx hb dX12_row_236 (by decide) ?_
            refine lv_iadd hx hb dX12_row_237 ?_
            have t_22 : (k35_fd + 1).toInt = k35_fd.toInt + 1 := g5_iadd (a := k35_fd.toInt) (b := 1) (by rfl) (by decide) (by omega) (by omega)
            refine va_put (D := G.1) (ci := 12) (v := .int (k35_fd + 1)) (ty := .int) (C := RX12) (T := TX12) (N := 52) hx hb hts inG_X12 tyX12 tyX12_ok nmX12 hown hK hP hD hS 0 rfl rfl 6 (by decide) (hts _ fl_X12_195) (fun _ h9 => h9) rfl (by decide +kernel) rfl rfl (Nat.le_of_ble_eq_true rfl) dX12_row_238 (fun H locs hP hD hS => ?_)
            refine g5_rs [(b_o, (oc12 0 u_sa b_rf b_ro b_im b_ke (k35_fd + 1) b_tp 0 u_fr u_to u_so u_wo u_fa u_bd u_nc b_nl u_co b_op b_ar u_le b_pi b_pa u_pd u_od b_ws b_hw u_la b_se b_re u_bk u_va u_su u_ce u_ho u_wy u_bt u_ps b_pt u_tg u_sn b_ip u_ic b_ah b_be b_me u_wd b_tr b_ld u_st b_wn u_id)), (b_rf, (arI G 7 v_rf)), (b_ro, (arI G 5740 k35_ro)), (b_tp, (arI G 400 v_tp))] hP hD (fun hP hD => ?_)
            refine lv_iinc (v := (k35_3 + 4)) (lv' := [(3, .int (k35_3 + 4)), (4, .int 0), (2, .int k35_2), (1, .int u_td), (0, .ref b_o)]) hx hb dX12_row_241 hl (k := 2) rfl rfl (by decide) rfl (fun ls hl => ?_)
            have t_23 : (k35_3 + 4).toInt = k35_3.toInt + 4 := g5_iadd (a := k35_3.toInt) (b := 4) rfl (by decide) (by omega) (by omega)
            refine lv_goto (tgt := 35) hx hb dX12_row_244 (by decide) ?_
            exact ih_35_11 ((k35_3 + 4), k35_2, (k35_fd + 1), k35_ro) ls H locs (show Int.toNat (404 - (k35_3 + 4).toInt) < Int.toNat (404 - k35_3.toInt) from g_up (show k35_3.toInt < (k35_3 + 4).toInt by omega) (show k35_3.toInt < 404 by omega)) ⟨lv_sub hl [2, 0, 3, 4] rfl, hP, hD, hS, ⟨by omega, by omega⟩, i_3, i_4, by omega, by omega, ⟨by omega, by omega⟩, by omega, (by rw [show ((k35_3 + 4).toInt / 4).toNat = (k35_3.toInt / 4).toNat + 1 by omega, rwC_S (k := k35_3.toInt.toNat) (by omega), ← i_9, ← i_10, cif_f (fun q => by have q1 := q.1; omega)]; omega), (by rw [show ((k35_3 + 4).toInt / 4).toNat = (k35_3.toInt / 4).toNat + 1 by omega, rwS_S (k := k35_3.toInt.toNat) (by omega), ← i_10, rw_stayN (fun q => by have q1 := q.1; omega)])⟩
          ·
            exact absurd c_21 (by decide)
        ·
          exact absurd c_20 (by decide)
      ·
        have i_19 : (k35_3.toInt + 3) < u_td.toInt := by have z := g5_geN (a := (k35_3 + 3).toInt) (b := u_td.toInt) (by rfl) (by rfl) c_19; omega
        refine lv_aload_n hx hb dX12_row_47 rfl (lv_at hl 3 rfl) ?_
        refine lv_aload_n hx hb dX12_row_48 rfl (lv_at hl 3 rfl) ?_
        refine va_get (D := G.1) (ci := 12) (v := .ref b_tp) (C := RX12) (T := TX12) (N := 52) hx hb hts inG_X12 hown hK hP 0 rfl rfl 7 (by decide) (hts _ fl_X12_23) (fun _ h9 => h9) rfl dX12_row_49 ?_
        refine lv_iload_n hx hb dX12_row_52 rfl (lv_at hl 1 rfl) ?_
        refine va_iald hx hb hK hP 3 0 rfl rfl (i := k35_3) (vp_in_iff.mpr ⟨by omega, by omega⟩) dX12_row_53 ?_
        have hr_24 : 0 ≤ (v_tp k35_3.toNatClampNeg).toInt ∧ (v_tp k35_3.toNatClampNeg).toInt ≤ 255 := r_tp (k35_3.toNatClampNeg)
        obtain ⟨y25, hy_25⟩ : ∃ y : Int32, v_tp k35_3.toInt.toNat = y := ⟨_, rfl⟩
        have hr_25 : 0 ≤ y25.toInt ∧ y25.toInt ≤ 255 := by rw [← hy_25]; exact r_tp _
        have hq_26 : (v_tp k35_3.toNatClampNeg) = y25 := hy_25
        refine g5_ti (v := y25) hq_26 ?_
        obtain ⟨hPc, hDc, hFc⟩ := g5_sub3 (wc := [(b_o, (oc12 0 u_sa b_rf b_ro b_im b_ke k35_fd b_tp 0 u_fr u_to u_so u_wo u_fa u_bd u_nc b_nl u_co b_op b_ar u_le b_pi b_pa u_pd u_od b_ws b_hw u_la b_se b_re u_bk u_va u_su u_ce u_ho u_wy u_bt u_ps b_pt u_tg u_sn b_ip u_ic b_ah b_be b_me u_wd b_tr b_ld u_st b_wn u_id)), (b_ro, (arI G 5740 k35_ro))]) hP hD hS hA [0, 2] (by decide) rfl
        refine va_calli (va_runV (As := [.int y25]) (rest := []) ⟨hx, hb, hml, hown, hts⟩ (n_isBodyE l G b_o b_ro b_rf b_im b_ke b_tp b_nl b_op b_ar b_pi b_pa b_ws b_hw b_se b_re b_pt b_ip b_ah b_be b_me b_tr b_ld b_wn H.size 0 u_sa k35_fd 0 u_fr u_to u_so u_fa u_bd u_nc u_co u_le u_pd u_od u_la u_bk u_ce u_ho u_wy u_bt u_ps u_tg u_sn u_ic u_wd u_id y25 u_wo u_va u_su u_st k35_ro ⟨by decide, by decide⟩ h_u_fr h_u_to h_u_bd h_u_nc h_u_co h_u_pd h_u_la h_u_bk h_u_ce h_u_ho h_u_wy h_u_bt h_u_ps h_u_ic h_u_id (i_4)) (cwV 1 hts gV_X12_180 rfl rfl rfl hv_X12_isBody ⟨Nat.le_of_ble_eq_true rfl, Nat.le_of_ble_eq_true rfl⟩) (g5_preV hPc hK hDc hN hT hS hFc (ci := 12) (q0 := 0) rfl rfl) rfl rfl hl.1 rfl (lv_room (Nat.le_of_ble_eq_true rfl)) dX12_row_54 ⟨Nat.le_of_ble_eq_true rfl, Nat.le_of_ble_eq_true rfl⟩) hS (fun q _ h => hFc q h) hFc (fun r u t H1 locs ht hvm hw hB hz1 hk1 hS => ?_)
        obtain ⟨hP1, hD1⟩ := hB
        rw [ht] at hP1
        rcases hw with ⟨i_27, i_28, rfl, rfl⟩ | ⟨i_29, rfl, rfl⟩
        ·
          have i_27 : isB k35_ro y25 := i_27
          have i_28 : 0 ≤ y25.toInt ∧ y25.toInt ≤ 4 := i_28
          obtain ⟨hP, hD⟩ := va_join (wr := [(b_rf, (arI G 7 v_rf)), (b_tp, (arI G 400 v_tp))]) hP hD [0, 2] [1, 3] rfl rfl (by decide) (by decide) hk1 hFc hP1 hD1
          generalize H1 = H at hP hS ⊢
          refine g5_rs [(b_rf, (arI G 7 v_rf)), (b_tp, (arI G 400 v_tp)), (b_o, (oc12 0 u_sa b_rf b_ro b_im b_ke k35_fd b_tp 0 u_fr u_to u_so u_wo u_fa u_bd u_nc b_nl u_co b_op b_ar u_le b_pi b_pa u_pd u_od b_ws b_hw u_la b_se b_re u_bk u_va u_su u_ce u_ho u_wy u_bt u_ps b_pt u_tg u_sn b_ip u_ic b_ah b_be b_me u_wd b_tr b_ld u_st b_wn u_id)), (b_ro, (arI G 5740 k35_ro))] hP hD (fun hP hD => ?_)
          refine lv_if_eq (tgt := 111) hx hb dX12_row_57 (by decide) (fun c_30 => ?_) (fun c_30 => ?_)
          ·
            exact absurd c_30 (by decide)
          ·
            refine lv_aload_n hx hb dX12_row_60 rfl (lv_at hl 3 rfl) ?_
            refine va_get (D := G.1) (ci := 12) (v := .ref b_tp) (C := RX12) (T := TX12) (N := 52) hx hb hts inG_X12 hown hK hP 2 rfl rfl 7 (by decide) (hts _ fl_X12_23) (fun _ h9 => h9) rfl dX12_row_61 ?_
            refine lv_iload_n hx hb dX12_row_64 rfl (lv_at hl 1 rfl) ?_
            refine lv_iconst (v := 1) hx hb dX12_row_65 (by decide) ?_
            refine lv_iadd hx hb dX12_row_66 ?_
            have t_31 : (k35_3 + 1).toInt = k35_3.toInt + 1 := g5_iadd (a := k35_3.toInt) (b := 1) (by rfl) (by decide) (by omega) (by omega)
            refine va_iald hx hb hK hP 1 0 rfl rfl (i := (k35_3 + 1)) (vp_in_iff.mpr ⟨by omega, by omega⟩) dX12_row_67 ?_
            have hr_32 : 0 ≤ (v_tp (k35_3 + 1).toNatClampNeg).toInt ∧ (v_tp (k35_3 + 1).toNatClampNeg).toInt ≤ 255 := r_tp ((k35_3 + 1).toNatClampNeg)
            obtain ⟨y33, hy_33⟩ : ∃ y : Int32, v_tp (k35_3.toInt.toNat + 1) = y := ⟨_, rfl⟩
            have hr_33 : 0 ≤ y33.toInt ∧ y33.toInt ≤ 255 := by rw [← hy_33]; exact r_tp _
            have hq_34 : (v_tp (k35_3 + 1).toNatClampNeg) = y33 := by rw [← hy_33]; congr 1; have zz := g5_clamp (k35_3 + 1); omega
            refine g5_ti (v := y33) hq_34 ?_
            obtain ⟨hPc, hDc, hFc⟩ := g5_sub3 (wc := []) hP hD hS hA [] (by decide) rfl
            refine va_calli (va_runS (As := [.int y33]) (rest := []) ⟨hx, hb, hml, hown, hts⟩ (n_isHourE l G H.size y33) (va_cwS 1 hts gS_X12_175 rfl rfl rfl hs_X12_isHour ⟨Nat.le_of_ble_eq_true rfl, Nat.le_of_ble_eq_true rfl⟩) (g5_preS hPc hK hDc hN hT hS hFc) rfl rfl hl.1 rfl (lv_room (Nat.le_of_ble_eq_true rfl)) dX12_row_68 ⟨Nat.le_of_ble_eq_true rfl, Nat.le_of_ble_eq_true rfl⟩) hS (fun q _ h => hFc q h) hFc (fun r u t H1 locs ht hvm hw hB hz1 hk1 hS => ?_)
            obtain ⟨hP1, hD1⟩ := hB
            rw [ht] at hP1
            rcases hw with ⟨i_35, rfl, rfl⟩ | ⟨i_36, rfl, rfl⟩
            ·
              have i_35 : 0 ≤ y33.toInt ∧ y33.toInt ≤ 23 := i_35
              have hP := g5_same hP hk1
              generalize H1 = H at hP hS ⊢
              refine lv_if_eq (tgt := 111) hx hb dX12_row_71 (by decide) (fun c_37 => ?_) (fun c_37 => ?_)
              ·
                exact absurd c_37 (by decide)
              ·
                refine lv_aload_n hx hb dX12_row_74 rfl (lv_at hl 3 rfl) ?_
                refine va_get (D := G.1) (ci := 12) (v := .ref b_tp) (C := RX12) (T := TX12) (N := 52) hx hb hts inG_X12 hown hK hP 2 rfl rfl 7 (by decide) (hts _ fl_X12_23) (fun _ h9 => h9) rfl dX12_row_75 ?_
                refine lv_iload_n hx hb dX12_row_78 rfl (lv_at hl 1 rfl) ?_
                refine lv_iconst (v := 2) hx hb dX12_row_79 (by decide) ?_
                refine lv_iadd hx hb dX12_row_80 ?_
                have t_38 : (k35_3 + 2).toInt = k35_3.toInt + 2 := g5_iadd (a := k35_3.toInt) (b := 2) (by rfl) (by decide) (by omega) (by omega)
                refine va_iald hx hb hK hP 1 0 rfl rfl (i := (k35_3 + 2)) (vp_in_iff.mpr ⟨by omega, by omega⟩) dX12_row_81 ?_
                have hr_39 : 0 ≤ (v_tp (k35_3 + 2).toNatClampNeg).toInt ∧ (v_tp (k35_3 + 2).toNatClampNeg).toInt ≤ 255 := r_tp ((k35_3 + 2).toNatClampNeg)
                obtain ⟨y40, hy_40⟩ : ∃ y : Int32, v_tp (k35_3.toInt.toNat + 2) = y := ⟨_, rfl⟩
                have hr_40 : 0 ≤ y40.toInt ∧ y40.toInt ≤ 255 := by rw [← hy_40]; exact r_tp _
                have hq_41 : (v_tp (k35_3 + 2).toNatClampNeg) = y40 := by rw [← hy_40]; congr 1; have zz := g5_clamp (k35_3 + 2); omega
                refine g5_ti (v := y40) hq_41 ?_
                obtain ⟨hPc, hDc, hFc⟩ := g5_sub3 (wc := []) hP hD hS hA [] (by decide) rfl
                refine va_calli (va_runS (As := [.int y40]) (rest := []) ⟨hx, hb, hml, hown, hts⟩ (n_isHourE l G H.size y40) (va_cwS 1 hts gS_X12_175 rfl rfl rfl hs_X12_isHour ⟨Nat.le_of_ble_eq_true rfl, Nat.le_of_ble_eq_true rfl⟩) (g5_preS hPc hK hDc hN hT hS hFc) rfl rfl hl.1 rfl (lv_room (Nat.le_of_ble_eq_true rfl)) dX12_row_82 ⟨Nat.le_of_ble_eq_true rfl, Nat.le_of_ble_eq_true rfl⟩) hS (fun q _ h => hFc q h) hFc (fun r u t H1 locs ht hvm hw hB hz1 hk1 hS => ?_)
                obtain ⟨hP1, hD1⟩ := hB
                rw [ht] at hP1
                rcases hw with ⟨i_42, rfl, rfl⟩ | ⟨i_43, rfl, rfl⟩
                ·
                  have i_42 : 0 ≤ y40.toInt ∧ y40.toInt ≤ 23 := i_42
                  have hP := g5_same hP hk1
                  generalize H1 = H at hP hS ⊢
                  refine lv_if_eq (tgt := 111) hx hb dX12_row_85 (by decide) (fun c_44 => ?_) (fun c_44 => ?_)
                  ·
                    exact absurd c_44 (by decide)
                  ·
                    refine lv_aload_n hx hb dX12_row_88 rfl (lv_at hl 3 rfl) ?_
                    refine va_get (D := G.1) (ci := 12) (v := .ref b_tp) (C := RX12) (T := TX12) (N := 52) hx hb hts inG_X12 hown hK hP 2 rfl rfl 7 (by decide) (hts _ fl_X12_23) (fun _ h9 => h9) rfl dX12_row_89 ?_
                    refine lv_iload_n hx hb dX12_row_92 rfl (lv_at hl 1 rfl) ?_
                    refine lv_iconst (v := 2) hx hb dX12_row_93 (by decide) ?_
                    refine lv_iadd hx hb dX12_row_94 ?_
                    have t_45 : (k35_3 + 2).toInt = k35_3.toInt + 2 := g5_iadd (a := k35_3.toInt) (b := 2) (by rfl) (by decide) (by omega) (by omega)
                    refine va_iald hx hb hK hP 1 0 rfl rfl (i := (k35_3 + 2)) (vp_in_iff.mpr ⟨by omega, by omega⟩) dX12_row_95 ?_
                    have hr_46 : 0 ≤ (v_tp (k35_3 + 2).toNatClampNeg).toInt ∧ (v_tp (k35_3 + 2).toNatClampNeg).toInt ≤ 255 := r_tp ((k35_3 + 2).toNatClampNeg)
                    have hq_47 : (v_tp (k35_3 + 2).toNatClampNeg) = y40 := by rw [← hy_40]; congr 1; have zz := g5_clamp (k35_3 + 2); omega
                    refine g5_ti (v := y40) hq_47 ?_
                    refine lv_aload_n hx hb dX12_row_96 rfl (lv_at hl 3 rfl) ?_
                    refine va_get (D := G.1) (ci := 12) (v := .ref b_tp) (C := RX12) (T := TX12) (N := 52) hx hb hts inG_X12 hown hK hP 2 rfl rfl 7 (by decide) (hts _ fl_X12_23) (fun _ h9 => h9) rfl dX12_row_97 ?_
                    refine lv_iload_n hx hb dX12_row_100 rfl (lv_at hl 1 rfl) ?_
                    refine lv_iconst (v := 1) hx hb dX12_row_101 (by decide) ?_
                    refine lv_iadd hx hb dX12_row_102 ?_
                    have t_48 : (k35_3 + 1).toInt = k35_3.toInt + 1 := g5_iadd (a := k35_3.toInt) (b := 1) (by rfl) (by decide) (by omega) (by omega)
                    refine va_iald hx hb hK hP 1 0 rfl rfl (i := (k35_3 + 1)) (vp_in_iff.mpr ⟨by omega, by omega⟩) dX12_row_103 ?_
                    have hr_49 : 0 ≤ (v_tp (k35_3 + 1).toNatClampNeg).toInt ∧ (v_tp (k35_3 + 1).toNatClampNeg).toInt ≤ 255 := r_tp ((k35_3 + 1).toNatClampNeg)
                    have hq_50 : (v_tp (k35_3 + 1).toNatClampNeg) = y33 := by rw [← hy_33]; congr 1; have zz := g5_clamp (k35_3 + 1); omega
                    refine g5_ti (v := y33) hq_50 ?_
                    refine lv_icmp_lt (tgt := 111) hx hb dX12_row_104 (by decide) (fun c_51 => ?_) (fun c_51 => ?_)
                    ·
                      have i_51 : y40.toInt < y33.toInt := by have z := g5_lt (a := y40.toInt) (b := y33.toInt) (by rfl) (by rfl) c_51; omega
                      refine lv_iconst (v := 0) hx hb dX12_row_111 (by decide) ?_
                      refine lv_istore (lv' := [(4, .int 0), (2, .int k35_2), (3, .int k35_3), (1, .int u_td), (0, .ref b_o)]) hx hb dX12_row_112 hl (by decide) rfl (fun ls hl => ?_)
                      refine lv_iload hx hb dX12_row_114 (lv_at hl 0 rfl) ?_
                      refine lv_if_eq (tgt := 165) hx hb dX12_row_116 (by decide) (fun c_52 => ?_) (fun c_52 => ?_)
                      ·
                        refine lv_iconst (v := 0) hx hb dX12_row_165 (by decide) ?_
                        refine lv_istore (lv' := [(4, .int 0), (2, .int k35_2), (3, .int k35_3), (1, .int u_td), (0, .ref b_o)]) hx hb dX12_row_166 hl (by decide) rfl (fun ls hl => ?_)
                        refine lv_iload hx hb dX12_row_168 (lv_at hl 0 rfl) ?_
                        refine lv_if_eq (tgt := 231) hx hb dX12_row_170 (by decide) (fun c_53 => ?_) (fun c_53 => ?_)
                        ·
                          refine lv_aload_n hx hb dX12_row_231 rfl (lv_at hl 4 rfl) ?_
                          refine lv_dup hx hb dX12_row_232 rfl ?_
                          refine va_get (D := G.1) (ci := 12) (v := .int k35_fd) (C := RX12) (T := TX12) (N := 52) hx hb hts inG_X12 hown hK hP 2 rfl rfl 6 (by decide) (hts _ fl_X12_195) (fun _ h9 => h9) rfl dX12_row_233 ?_
                          refine lv_iconst (v := 1) hx hb dX12_row_236 (by decide) ?_
                          refine lv_iadd hx hb dX12_row_237 ?_
                          have t_54 : (k35_fd + 1).toInt = k35_fd.toInt + 1 := g5_iadd (a := k35_fd.toInt) (b := 1) (by rfl) (by decide) (by omega) (by omega)
                          refine va_put (D := G.1) (ci := 12) (v := .int (k35_fd + 1)) (ty := .int) (C := RX12) (T := TX12) (N := 52) hx hb hts inG_X12 tyX12 tyX12_ok nmX12 hown hK hP hD hS 2 rfl rfl 6 (by decide) (hts _ fl_X12_195) (fun _ h9 => h9) rfl (by decide +kernel) rfl rfl (Nat.le_of_ble_eq_true rfl) dX12_row_238 (fun H locs hP hD hS => ?_)
                          refine g5_rs [(b_rf, (arI G 7 v_rf)), (b_tp, (arI G 400 v_tp)), (b_o, (oc12 0 u_sa b_rf b_ro b_im b_ke (k35_fd + 1) b_tp 0 u_fr u_to u_so u_wo u_fa u_bd u_nc b_nl u_co b_op b_ar u_le b_pi b_pa u_pd u_od b_ws b_hw u_la b_se b_re u_bk u_va u_su u_ce u_ho u_wy u_bt u_ps b_pt u_tg u_sn b_ip u_ic b_ah b_be b_me u_wd b_tr b_ld u_st b_wn u_id)), (b_ro, (arI G 5740 k35_ro))] hP hD (fun hP hD => ?_)
                          refine lv_iinc (v := (k35_3 + 4)) (lv' := [(3, .int (k35_3 + 4)), (4, .int 0), (2, .int k35_2), (1, .int u_td), (0, .ref b_o)]) hx hb dX12_row_241 hl (k := 2) rfl rfl (by decide) rfl (fun ls hl => ?_)
                          have t_55 : (k35_3 + 4).toInt = k35_3.toInt + 4 := g5_iadd (a := k35_3.toInt) (b := 4) rfl (by decide) (by omega) (by omega)
                          refine lv_goto (tgt := 35) hx hb dX12_row_244 (by decide) ?_
                          exact ih_35_11 ((k35_3 + 4), k35_2, (k35_fd + 1), k35_ro) ls H locs (show Int.toNat (404 - (k35_3 + 4).toInt) < Int.toNat (404 - k35_3.toInt) from g_up (show k35_3.toInt < (k35_3 + 4).toInt by omega) (show k35_3.toInt < 404 by omega)) ⟨lv_sub hl [2, 0, 3, 4] rfl, hP.sub [2, 0, 3, 1] rfl, hD.sub [2, 0, 3, 1] (by decide) rfl, hS, ⟨by omega, by omega⟩, i_3, i_4, by omega, by omega, ⟨by omega, by omega⟩, by omega, (by rw [show ((k35_3 + 4).toInt / 4).toNat = (k35_3.toInt / 4).toNat + 1 by omega, rwC_S (k := k35_3.toInt.toNat) (by omega), ← i_9, ← i_10, cif_f (fun q => by have q := (cq_mk (td := u_td.toInt) (f := k35_ro) (t := v_tp) (k := k35_3.toInt.toNat) hy_25 hy_33 hy_40 rfl (rfl)).mp q; have q2 := q.2.2.1; unfold okS at q2; omega)]; omega), (by rw [show ((k35_3 + 4).toInt / 4).toNat = (k35_3.toInt / 4).toNat + 1 by omega, rwS_S (k := k35_3.toInt.toNat) (by omega), ← i_10, rw_stayN (fun q => by have q := (cq_mk (td := u_td.toInt) (f := k35_ro) (t := v_tp) (k := k35_3.toInt.toNat) hy_25 hy_33 hy_40 rfl (rfl)).mp q; have q2 := q.2.2.1; unfold okS at q2; omega)])⟩
                        ·
                          exact absurd c_53 (by decide)
                      ·
                        exact absurd c_52 (by decide)
                    ·
                      have i_51 : y40.toInt ≥ y33.toInt := by have z := g5_ltN (a := y40.toInt) (b := y33.toInt) (by rfl) (by rfl) c_51; omega
                      refine lv_iconst (v := 1) hx hb dX12_row_107 (by decide) ?_
                      refine lv_goto (tgt := 112) hx hb dX12_row_108 (by decide) ?_
                      refine lv_istore (lv' := [(4, .int 1), (2, .int k35_2), (3, .int k35_3), (1, .int u_td), (0, .ref b_o)]) hx hb dX12_row_112 hl (by decide) rfl (fun ls hl => ?_)
                      refine lv_iload hx hb dX12_row_114 (lv_at hl 0 rfl) ?_
                      refine lv_if_eq (tgt := 165) hx hb dX12_row_116 (by decide) (fun c_56 => ?_) (fun c_56 => ?_)
                      ·
                        exact absurd c_56 (by decide)
                      ·
                        refine lv_aload_n hx hb dX12_row_119 rfl (lv_at hl 4 rfl) ?_
                        refine va_get (D := G.1) (ci := 12) (v := .ref b_tp) (C := RX12) (T := TX12) (N := 52) hx hb hts inG_X12 hown hK hP 2 rfl rfl 7 (by decide) (hts _ fl_X12_23) (fun _ h9 => h9) rfl dX12_row_120 ?_
                        refine lv_iload_n hx hb dX12_row_123 rfl (lv_at hl 2 rfl) ?_
                        refine lv_iconst (v := 3) hx hb dX12_row_124 (by decide) ?_
                        refine lv_iadd hx hb dX12_row_125 ?_
                        have t_57 : (k35_3 + 3).toInt = k35_3.toInt + 3 := g5_iadd (a := k35_3.toInt) (b := 3) (by rfl) (by decide) (by omega) (by omega)
                        refine va_iald hx hb hK hP 1 0 rfl rfl (i := (k35_3 + 3)) (vp_in_iff.mpr ⟨by omega, by omega⟩) dX12_row_126 ?_
                        have hr_58 : 0 ≤ (v_tp (k35_3 + 3).toNatClampNeg).toInt ∧ (v_tp (k35_3 + 3).toNatClampNeg).toInt ≤ 255 := r_tp ((k35_3 + 3).toNatClampNeg)
                        obtain ⟨y59, hy_59⟩ : ∃ y : Int32, v_tp (k35_3.toInt.toNat + 3) = y := ⟨_, rfl⟩
                        have hr_59 : 0 ≤ y59.toInt ∧ y59.toInt ≤ 255 := by rw [← hy_59]; exact r_tp _
                        have hq_60 : (v_tp (k35_3 + 3).toNatClampNeg) = y59 := by rw [← hy_59]; congr 1; have zz := g5_clamp (k35_3 + 3); omega
                        refine g5_ti (v := y59) hq_60 ?_
                        refine lv_sipush (v := 255) hx hb dX12_row_127 (by decide) ?_
                        refine lv_icmp_eq (tgt := 161) hx hb dX12_row_130 (by decide) (fun c_61 => ?_) (fun c_61 => ?_)
                        ·
                          have i_61 : y59.toInt = 255 := by have z := g5_eq (a := y59.toInt) (b := 255) (by rfl) (by decide) c_61; omega
                          refine lv_iconst (v := 1) hx hb dX12_row_161 (by decide) ?_
                          refine lv_goto (tgt := 166) hx hb dX12_row_162 (by decide) ?_
                          refine lv_istore (lv' := [(4, .int 1), (2, .int k35_2), (3, .int k35_3), (1, .int u_td), (0, .ref b_o)]) hx hb dX12_row_166 hl (by decide) rfl (fun ls hl => ?_)
                          refine lv_iload hx hb dX12_row_168 (lv_at hl 0 rfl) ?_
                          refine lv_if_eq (tgt := 231) hx hb dX12_row_170 (by decide) (fun c_62 => ?_) (fun c_62 => ?_)
                          ·
                            exact absurd c_62 (by decide)
                          ·
                            refine lv_aload_n hx hb dX12_row_173 rfl (lv_at hl 4 rfl) ?_
                            refine lv_aload_n hx hb dX12_row_174 rfl (lv_at hl 4 rfl) ?_
                            refine va_get (D := G.1) (ci := 12) (v := .ref b_tp) (C := RX12) (T := TX12) (N := 52) hx hb hts inG_X12 hown hK hP 2 rfl rfl 7 (by decide) (hts _ fl_X12_23) (fun _ h9 => h9) rfl dX12_row_175 ?_
                            refine lv_iload_n hx hb dX12_row_178 rfl (lv_at hl 2 rfl) ?_
                            refine va_iald hx hb hK hP 1 0 rfl rfl (i := k35_3) (vp_in_iff.mpr ⟨by omega, by omega⟩) dX12_row_179 ?_
                            have hr_63 : 0 ≤ (v_tp k35_3.toNatClampNeg).toInt ∧ (v_tp k35_3.toNatClampNeg).toInt ≤ 255 := r_tp (k35_3.toNatClampNeg)
                            have hq_64 : (v_tp k35_3.toNatClampNeg) = y25 := hy_25
                            refine g5_ti (v := y25) hq_64 ?_
                            refine lv_aload_n hx hb dX12_row_180 rfl (lv_at hl 4 rfl) ?_
                            refine va_get (D := G.1) (ci := 12) (v := .ref b_tp) (C := RX12) (T := TX12) (N := 52) hx hb hts inG_X12 hown hK hP 2 rfl rfl 7 (by decide) (hts _ fl_X12_23) (fun _ h9 => h9) rfl dX12_row_181 ?_
                            refine lv_iload_n hx hb dX12_row_184 rfl (lv_at hl 2 rfl) ?_
                            refine lv_iconst (v := 1) hx hb dX12_row_185 (by decide) ?_
                            refine lv_iadd hx hb dX12_row_186 ?_
                            have t_65 : (k35_3 + 1).toInt = k35_3.toInt + 1 := g5_iadd (a := k35_3.toInt) (b := 1) (by rfl) (by decide) (by omega) (by omega)
                            refine va_iald hx hb hK hP 1 0 rfl rfl (i := (k35_3 + 1)) (vp_in_iff.mpr ⟨by omega, by omega⟩) dX12_row_187 ?_
                            have hr_66 : 0 ≤ (v_tp (k35_3 + 1).toNatClampNeg).toInt ∧ (v_tp (k35_3 + 1).toNatClampNeg).toInt ≤ 255 := r_tp ((k35_3 + 1).toNatClampNeg)
                            have hq_67 : (v_tp (k35_3 + 1).toNatClampNeg) = y33 := by rw [← hy_33]; congr 1; have zz := g5_clamp (k35_3 + 1); omega
                            refine g5_ti (v := y33) hq_67 ?_
                            refine lv_aload_n hx hb dX12_row_188 rfl (lv_at hl 4 rfl) ?_
                            refine va_get (D := G.1) (ci := 12) (v := .ref b_tp) (C := RX12) (T := TX12) (N := 52) hx hb hts inG_X12 hown hK hP 2 rfl rfl 7 (by decide) (hts _ fl_X12_23) (fun _ h9 => h9) rfl dX12_row_189 ?_
                            refine lv_iload_n hx hb dX12_row_192 rfl (lv_at hl 2 rfl) ?_
                            refine lv_iconst (v := 2) hx hb dX12_row_193 (by decide) ?_
                            refine lv_iadd hx hb dX12_row_194 ?_
                            have t_68 : (k35_3 + 2).toInt = k35_3.toInt + 2 := g5_iadd (a := k35_3.toInt) (b := 2) (by rfl) (by decide) (by omega) (by omega)
                            refine va_iald hx hb hK hP 1 0 rfl rfl (i := (k35_3 + 2)) (vp_in_iff.mpr ⟨by omega, by omega⟩) dX12_row_195 ?_
                            have hr_69 : 0 ≤ (v_tp (k35_3 + 2).toNatClampNeg).toInt ∧ (v_tp (k35_3 + 2).toNatClampNeg).toInt ≤ 255 := r_tp ((k35_3 + 2).toNatClampNeg)
                            have hq_70 : (v_tp (k35_3 + 2).toNatClampNeg) = y40 := by rw [← hy_40]; congr 1; have zz := g5_clamp (k35_3 + 2); omega
                            refine g5_ti (v := y40) hq_70 ?_
                            refine lv_aload_n hx hb dX12_row_196 rfl (lv_at hl 4 rfl) ?_
                            refine va_get (D := G.1) (ci := 12) (v := .ref b_tp) (C := RX12) (T := TX12) (N := 52) hx hb hts inG_X12 hown hK hP 2 rfl rfl 7 (by decide) (hts _ fl_X12_23) (fun _ h9 => h9) rfl dX12_row_197 ?_
                            refine lv_iload_n hx hb dX12_row_200 rfl (lv_at hl 2 rfl) ?_
                            refine lv_iconst (v := 3) hx hb dX12_row_201 (by decide) ?_
                            refine lv_iadd hx hb dX12_row_202 ?_
                            have t_71 : (k35_3 + 3).toInt = k35_3.toInt + 3 := g5_iadd (a := k35_3.toInt) (b := 3) (by rfl) (by decide) (by omega) (by omega)
                            refine va_iald hx hb hK hP 1 0 rfl rfl (i := (k35_3 + 3)) (vp_in_iff.mpr ⟨by omega, by omega⟩) dX12_row_203 ?_
                            have hr_72 : 0 ≤ (v_tp (k35_3 + 3).toNatClampNeg).toInt ∧ (v_tp (k35_3 + 3).toNatClampNeg).toInt ≤ 255 := r_tp ((k35_3 + 3).toNatClampNeg)
                            have hq_73 : (v_tp (k35_3 + 3).toNatClampNeg) = y59 := by rw [← hy_59]; congr 1; have zz := g5_clamp (k35_3 + 3); omega
                            refine g5_ti (v := y59) hq_73 ?_
                            refine lv_sipush (v := 255) hx hb dX12_row_204 (by decide) ?_
                            refine lv_icmp_ne (tgt := 214) hx hb dX12_row_207 (by decide) (fun c_74 => ?_) (fun c_74 => ?_)
                            ·
                              have i_74 : y59.toInt ≠ 255 := by have z := g5_ne (a := y59.toInt) (b := 255) (by rfl) (by decide) c_74; omega
                              omega
                            ·
                              have i_74 : y59.toInt = 255 := by have z := g5_neN (a := y59.toInt) (b := 255) (by rfl) (by decide) c_74; omega
                              refine lv_iconst (v := (-1)) hx hb dX12_row_210 (by decide) ?_
                              refine lv_goto (tgt := 222) hx hb dX12_row_211 (by decide) ?_
                              obtain ⟨hPc, hDc, hFc⟩ := g5_sub3 (wc := [(b_o, (oc12 0 u_sa b_rf b_ro b_im b_ke k35_fd b_tp 0 u_fr u_to u_so u_wo u_fa u_bd u_nc b_nl u_co b_op b_ar u_le b_pi b_pa u_pd u_od b_ws b_hw u_la b_se b_re u_bk u_va u_su u_ce u_ho u_wy u_bt u_ps b_pt u_tg u_sn b_ip u_ic b_ah b_be b_me u_wd b_tr b_ld u_st b_wn u_id)), (b_ro, (arI G 5740 k35_ro))]) hP hD hS hA [2, 3] (by decide) rfl
                              refine va_callv (va_runV (As := [.int y25, .int y33, .int y40, .int (-1)]) (rest := []) ⟨hx, hb, hml, hown, hts⟩ (n_staysE l G b_o b_ro b_rf b_im b_ke b_tp b_nl b_op b_ar b_pi b_pa b_ws b_hw b_se b_re b_pt b_ip b_ah b_be b_me b_tr b_ld b_wn H.size 0 u_sa k35_fd 0 u_fr u_to u_so u_fa u_bd u_nc u_co u_le u_pd u_od u_la u_bk u_ce u_ho u_wy u_bt u_ps u_tg u_sn u_ic u_wd u_id y25 y33 y40 (-1) u_wo u_va u_su u_st k35_ro ⟨by decide, by decide⟩ h_u_fr h_u_to h_u_bd h_u_nc h_u_co h_u_pd h_u_la h_u_bk h_u_ce h_u_ho h_u_wy h_u_bt h_u_ps h_u_ic h_u_id i_28 i_35 i_42 ⟨by decide, by decide⟩ (i_4) (by omega)) (cwV 4 hts gV_X12_183 rfl rfl rfl hv_X12_stays ⟨Nat.le_of_ble_eq_true rfl, Nat.le_of_ble_eq_true rfl⟩) (g5_preV hPc hK hDc hN hT hS hFc (ci := 12) (q0 := 0) rfl rfl) rfl rfl hl.1 rfl (lv_room (Nat.le_of_ble_eq_true rfl)) dX12_row_222 ⟨Nat.le_of_ble_eq_true rfl, Nat.le_of_ble_eq_true rfl⟩) hS (fun q _ h => hFc q h) hFc (fun u t H1 locs ht hvm hw hB hz1 hk1 hS => ?_)
                              obtain ⟨hP1, hD1⟩ := hB
                              rw [ht] at hP1
                              obtain ⟨z77, i_75, i_76, rfl⟩ := hw
                              have i_75 : MI z77 := i_75
                              have i_76 : z77 = stR k35_ro y25.toInt y33.toInt y40.toInt ((-1) : Int32) := i_76
                              obtain ⟨hP, hD⟩ := va_join (wr := [(b_rf, (arI G 7 v_rf)), (b_tp, (arI G 400 v_tp))]) hP hD [2, 3] [0, 1] rfl rfl (by decide) (by decide) hk1 hFc hP1 hD1
                              generalize H1 = H at hP hS ⊢
                              refine g5_rs [(b_rf, (arI G 7 v_rf)), (b_tp, (arI G 400 v_tp)), (b_o, (oc12 0 u_sa b_rf b_ro b_im b_ke k35_fd b_tp 0 u_fr u_to u_so u_wo u_fa u_bd u_nc b_nl u_co b_op b_ar u_le b_pi b_pa u_pd u_od b_ws b_hw u_la b_se b_re u_bk u_va u_su u_ce u_ho u_wy u_bt u_ps b_pt u_tg u_sn b_ip u_ic b_ah b_be b_me u_wd b_tr b_ld u_st b_wn u_id)), (b_ro, (arI G 5740 z77))] hP hD (fun hP hD => ?_)
                              refine lv_iinc (v := (k35_2 + 1)) (lv' := [(2, .int (k35_2 + 1)), (4, .int 1), (3, .int k35_3), (1, .int u_td), (0, .ref b_o)]) hx hb dX12_row_225 hl (k := 1) rfl rfl (by decide) rfl (fun ls hl => ?_)
                              have t_78 : (k35_2 + 1).toInt = k35_2.toInt + 1 := g5_iadd (a := k35_2.toInt) (b := 1) rfl (by decide) (by omega) (by omega)
                              refine lv_goto (tgt := 241) hx hb dX12_row_228 (by decide) ?_
                              refine lv_iinc (v := (k35_3 + 4)) (lv' := [(3, .int (k35_3 + 4)), (2, .int (k35_2 + 1)), (4, .int 1), (1, .int u_td), (0, .ref b_o)]) hx hb dX12_row_241 hl (k := 2) rfl rfl (by decide) rfl (fun ls hl => ?_)
                              have t_79 : (k35_3 + 4).toInt = k35_3.toInt + 4 := g5_iadd (a := k35_3.toInt) (b := 4) rfl (by decide) (by omega) (by omega)
                              refine lv_goto (tgt := 35) hx hb dX12_row_244 (by decide) ?_
                              exact ih_35_11 ((k35_3 + 4), (k35_2 + 1), k35_fd, z77) ls H locs (show Int.toNat (404 - (k35_3 + 4).toInt) < Int.toNat (404 - k35_3.toInt) from g_up (show k35_3.toInt < (k35_3 + 4).toInt by omega) (show k35_3.toInt < 404 by omega)) ⟨lv_sub hl [1, 0, 3, 4] rfl, hP.sub [2, 0, 3, 1] rfl, hD.sub [2, 0, 3, 1] (by decide) rfl, hS, ⟨by omega, by omega⟩, ⟨by omega, by omega⟩, i_75, by omega, by omega, i_7, by omega, (by rw [show ((k35_3 + 4).toInt / 4).toNat = (k35_3.toInt / 4).toNat + 1 by omega, rwC_S (k := k35_3.toInt.toNat) (by omega), ← i_9, ← i_10, cif_t ((cq_mk (td := u_td.toInt) (f := k35_ro) (t := v_tp) (k := k35_3.toInt.toNat) hy_25 hy_33 hy_40 hy_59 (cq_255 (by omega))).mpr ⟨by omega, i_27, by have zm : (-1 : Int32).toInt = -1 := (by decide); unfold okS; omega, (fun q => by have q1 := q.1; have zm : (-1 : Int32).toInt = -1 := (by decide); omega)⟩)]; omega), (by rw [show ((k35_3 + 4).toInt / 4).toNat = (k35_3.toInt / 4).toNat + 1 by omega, rwS_S (k := k35_3.toInt.toNat) (by omega), ← i_10, rw_stayY ((cq_mk (td := u_td.toInt) (f := k35_ro) (t := v_tp) (k := k35_3.toInt.toNat) hy_25 hy_33 hy_40 hy_59 (cq_255 (by omega))).mpr ⟨by omega, i_27, by have zm : (-1 : Int32).toInt = -1 := (by decide); unfold okS; omega, (fun q => by have q1 := q.1; have zm : (-1 : Int32).toInt = -1 := (by decide); omega)⟩), hy_25, hy_33, hy_40, hy_59, cq_255 (by omega)]; exact i_76)⟩
                        ·
                          have n_61 : gNe (y59.toInt) (255) := by have z := g5_eqN (a := y59.toInt) (b := 255) (by rfl) (by decide) c_61; unfold gNe; omega
                          have i_61 : y59.toInt ≤ 254 := by have z := g5_eqN (a := y59.toInt) (b := 255) (by rfl) (by decide) c_61; omega
                          refine lv_aload_n hx hb dX12_row_133 rfl (lv_at hl 4 rfl) ?_
                          refine va_get (D := G.1) (ci := 12) (v := .ref b_tp) (C := RX12) (T := TX12) (N := 52) hx hb hts inG_X12 hown hK hP 2 rfl rfl 7 (by decide) (hts _ fl_X12_23) (fun _ h9 => h9) rfl dX12_row_134 ?_
                          refine lv_iload_n hx hb dX12_row_137 rfl (lv_at hl 2 rfl) ?_
                          refine lv_iconst (v := 3) hx hb dX12_row_138 (by decide) ?_
                          refine lv_iadd hx hb dX12_row_139 ?_
                          have t_80 : (k35_3 + 3).toInt = k35_3.toInt + 3 := g5_iadd (a := k35_3.toInt) (b := 3) (by rfl) (by decide) (by omega) (by omega)
                          refine va_iald hx hb hK hP 1 0 rfl rfl (i := (k35_3 + 3)) (vp_in_iff.mpr ⟨by omega, by omega⟩) dX12_row_140 ?_
                          have hr_81 : 0 ≤ (v_tp (k35_3 + 3).toNatClampNeg).toInt ∧ (v_tp (k35_3 + 3).toNatClampNeg).toInt ≤ 255 := r_tp ((k35_3 + 3).toNatClampNeg)
                          have hq_82 : (v_tp (k35_3 + 3).toNatClampNeg) = y59 := by rw [← hy_59]; congr 1; have zz := g5_clamp (k35_3 + 3); omega
                          refine g5_ti (v := y59) hq_82 ?_
                          refine lv_bipush (v := 64) hx hb dX12_row_141 (by decide) ?_
                          refine lv_icmp_ge (tgt := 165) hx hb dX12_row_143 (by decide) (fun c_83 => ?_) (fun c_83 => ?_)
                          ·
                            have i_83 : y59.toInt ≥ 64 := by have z := g5_ge (a := y59.toInt) (b := 64) (by rfl) (by decide) c_83; omega
                            refine lv_iconst (v := 0) hx hb dX12_row_165 (by decide) ?_
                            refine lv_istore (lv' := [(4, .int 0), (2, .int k35_2), (3, .int k35_3), (1, .int u_td), (0, .ref b_o)]) hx hb dX12_row_166 hl (by decide) rfl (fun ls hl => ?_)
                            refine lv_iload hx hb dX12_row_168 (lv_at hl 0 rfl) ?_
                            refine lv_if_eq (tgt := 231) hx hb dX12_row_170 (by decide) (fun c_84 => ?_) (fun c_84 => ?_)
                            ·
                              refine lv_aload_n hx hb dX12_row_231 rfl (lv_at hl 4 rfl) ?_
                              refine lv_dup hx hb dX12_row_232 rfl ?_
                              refine va_get (D := G.1) (ci := 12) (v := .int k35_fd) (C := RX12) (T := TX12) (N := 52) hx hb hts inG_X12 hown hK hP 2 rfl rfl 6 (by decide) (hts _ fl_X12_195) (fun _ h9 => h9) rfl dX12_row_233 ?_
                              refine lv_iconst (v := 1) hx hb dX12_row_236 (by decide) ?_
                              refine lv_iadd hx hb dX12_row_237 ?_
                              have t_85 : (k35_fd + 1).toInt = k35_fd.toInt + 1 := g5_iadd (a := k35_fd.toInt) (b := 1) (by rfl) (by decide) (by omega) (by omega)
                              refine va_put (D := G.1) (ci := 12) (v := .int (k35_fd + 1)) (ty := .int) (C := RX12) (T := TX12) (N := 52) hx hb hts inG_X12 tyX12 tyX12_ok nmX12 hown hK hP hD hS 2 rfl rfl 6 (by decide) (hts _ fl_X12_195) (fun _ h9 => h9) rfl (by decide +kernel) rfl rfl (Nat.le_of_ble_eq_true rfl) dX12_row_238 (fun H locs hP hD hS => ?_)
                              refine g5_rs [(b_rf, (arI G 7 v_rf)), (b_tp, (arI G 400 v_tp)), (b_o, (oc12 0 u_sa b_rf b_ro b_im b_ke (k35_fd + 1) b_tp 0 u_fr u_to u_so u_wo u_fa u_bd u_nc b_nl u_co b_op b_ar u_le b_pi b_pa u_pd u_od b_ws b_hw u_la b_se b_re u_bk u_va u_su u_ce u_ho u_wy u_bt u_ps b_pt u_tg u_sn b_ip u_ic b_ah b_be b_me u_wd b_tr b_ld u_st b_wn u_id)), (b_ro, (arI G 5740 k35_ro))] hP hD (fun hP hD => ?_)
                              refine lv_iinc (v := (k35_3 + 4)) (lv' := [(3, .int (k35_3 + 4)), (4, .int 0), (2, .int k35_2), (1, .int u_td), (0, .ref b_o)]) hx hb dX12_row_241 hl (k := 2) rfl rfl (by decide) rfl (fun ls hl => ?_)
                              have t_86 : (k35_3 + 4).toInt = k35_3.toInt + 4 := g5_iadd (a := k35_3.toInt) (b := 4) rfl (by decide) (by omega) (by omega)
                              refine lv_goto (tgt := 35) hx hb dX12_row_244 (by decide) ?_
                              exact ih_35_11 ((k35_3 + 4), k35_2, (k35_fd + 1), k35_ro) ls H locs (show Int.toNat (404 - (k35_3 + 4).toInt) < Int.toNat (404 - k35_3.toInt) from g_up (show k35_3.toInt < (k35_3 + 4).toInt by omega) (show k35_3.toInt < 404 by omega)) ⟨lv_sub hl [2, 0, 3, 4] rfl, hP.sub [2, 0, 3, 1] rfl, hD.sub [2, 0, 3, 1] (by decide) rfl, hS, ⟨by omega, by omega⟩, i_3, i_4, by omega, by omega, ⟨by omega, by omega⟩, by omega, (by rw [show ((k35_3 + 4).toInt / 4).toNat = (k35_3.toInt / 4).toNat + 1 by omega, rwC_S (k := k35_3.toInt.toNat) (by omega), ← i_9, ← i_10, cif_f (fun q => by have q := (cq_mk (td := u_td.toInt) (f := k35_ro) (t := v_tp) (k := k35_3.toInt.toNat) hy_25 hy_33 hy_40 hy_59 (cq_n n_61)).mp q; have q2 := q.2.2.1; unfold okS at q2; omega)]; omega), (by rw [show ((k35_3 + 4).toInt / 4).toNat = (k35_3.toInt / 4).toNat + 1 by omega, rwS_S (k := k35_3.toInt.toNat) (by omega), ← i_10, rw_stayN (fun q => by have q := (cq_mk (td := u_td.toInt) (f := k35_ro) (t := v_tp) (k := k35_3.toInt.toNat) hy_25 hy_33 hy_40 hy_59 (cq_n n_61)).mp q; have q2 := q.2.2.1; unfold okS at q2; omega)])⟩
                            ·
                              exact absurd c_84 (by decide)
                          ·
                            have i_83 : y59.toInt < 64 := by have z := g5_geN (a := y59.toInt) (b := 64) (by rfl) (by decide) c_83; omega
                            refine lv_aload_n hx hb dX12_row_146 rfl (lv_at hl 4 rfl) ?_
                            refine lv_aload_n hx hb dX12_row_147 rfl (lv_at hl 4 rfl) ?_
                            refine va_get (D := G.1) (ci := 12) (v := .ref b_tp) (C := RX12) (T := TX12) (N := 52) hx hb hts inG_X12 hown hK hP 2 rfl rfl 7 (by decide) (hts _ fl_X12_23) (fun _ h9 => h9) rfl dX12_row_148 ?_
                            refine lv_iload_n hx hb dX12_row_151 rfl (lv_at hl 2 rfl) ?_
                            refine lv_iconst (v := 3) hx hb dX12_row_152 (by decide) ?_
                            refine lv_iadd hx hb dX12_row_153 ?_
                            have t_87 : (k35_3 + 3).toInt = k35_3.toInt + 3 := g5_iadd (a := k35_3.toInt) (b := 3) (by rfl) (by decide) (by omega) (by omega)
                            refine va_iald hx hb hK hP 1 0 rfl rfl (i := (k35_3 + 3)) (vp_in_iff.mpr ⟨by omega, by omega⟩) dX12_row_154 ?_
                            have hr_88 : 0 ≤ (v_tp (k35_3 + 3).toNatClampNeg).toInt ∧ (v_tp (k35_3 + 3).toNatClampNeg).toInt ≤ 255 := r_tp ((k35_3 + 3).toNatClampNeg)
                            have hq_89 : (v_tp (k35_3 + 3).toNatClampNeg) = y59 := by rw [← hy_59]; congr 1; have zz := g5_clamp (k35_3 + 3); omega
                            refine g5_ti (v := y59) hq_89 ?_
                            obtain ⟨hPc, hDc, hFc⟩ := g5_sub3 (wc := [(b_o, (oc12 0 u_sa b_rf b_ro b_im b_ke k35_fd b_tp 0 u_fr u_to u_so u_wo u_fa u_bd u_nc b_nl u_co b_op b_ar u_le b_pi b_pa u_pd u_od b_ws b_hw u_la b_se b_re u_bk u_va u_su u_ce u_ho u_wy u_bt u_ps b_pt u_tg u_sn b_ip u_ic b_ah b_be b_me u_wd b_tr b_ld u_st b_wn u_id)), (b_ro, (arI G 5740 k35_ro))]) hP hD hS hA [2, 3] (by decide) rfl
                            refine va_calli (va_runV (As := [.int y59]) (rest := []) ⟨hx, hb, hml, hown, hts⟩ (n_isWallE l G b_o b_ro b_rf b_im b_ke b_tp b_nl b_op b_ar b_pi b_pa b_ws b_hw b_se b_re b_pt b_ip b_ah b_be b_me b_tr b_ld b_wn H.size 0 u_sa k35_fd 0 u_fr u_to u_so u_fa u_bd u_nc u_co u_le u_pd u_od u_la u_bk u_ce u_ho u_wy u_bt u_ps u_tg u_sn u_ic u_wd u_id y59 u_wo u_va u_su u_st k35_ro ⟨by decide, by decide⟩ h_u_fr h_u_to h_u_bd h_u_nc h_u_co h_u_pd h_u_la h_u_bk h_u_ce h_u_ho h_u_wy h_u_bt h_u_ps h_u_ic h_u_id ⟨by omega, by omega⟩ (i_4)) (cwV 1 hts gV_X12_160 rfl rfl rfl hv_X12_isWall ⟨Nat.le_of_ble_eq_true rfl, Nat.le_of_ble_eq_true rfl⟩) (g5_preV hPc hK hDc hN hT hS hFc (ci := 12) (q0 := 0) rfl rfl) rfl rfl hl.1 rfl (lv_room (Nat.le_of_ble_eq_true rfl)) dX12_row_155 ⟨Nat.le_of_ble_eq_true rfl, Nat.le_of_ble_eq_true rfl⟩) hS (fun q _ h => hFc q h) hFc (fun r u t H1 locs ht hvm hw hB hz1 hk1 hS => ?_)
                            obtain ⟨hP1, hD1⟩ := hB
                            rw [ht] at hP1
                            rcases hw with ⟨i_90, rfl, rfl⟩ | ⟨i_91, rfl, rfl⟩
                            ·
                              have i_90 : wallAt k35_ro y59.toInt := i_90
                              obtain ⟨hP, hD⟩ := va_join (wr := [(b_rf, (arI G 7 v_rf)), (b_tp, (arI G 400 v_tp))]) hP hD [2, 3] [0, 1] rfl rfl (by decide) (by decide) hk1 hFc hP1 hD1
                              generalize H1 = H at hP hS ⊢
                              refine g5_rs [(b_rf, (arI G 7 v_rf)), (b_tp, (arI G 400 v_tp)), (b_o, (oc12 0 u_sa b_rf b_ro b_im b_ke k35_fd b_tp 0 u_fr u_to u_so u_wo u_fa u_bd u_nc b_nl u_co b_op b_ar u_le b_pi b_pa u_pd u_od b_ws b_hw u_la b_se b_re u_bk u_va u_su u_ce u_ho u_wy u_bt u_ps b_pt u_tg u_sn b_ip u_ic b_ah b_be b_me u_wd b_tr b_ld u_st b_wn u_id)), (b_ro, (arI G 5740 k35_ro))] hP hD (fun hP hD => ?_)
                              refine lv_if_ne (tgt := 165) hx hb dX12_row_158 (by decide) (fun c_92 => ?_) (fun c_92 => ?_)
                              ·
                                refine lv_iconst (v := 0) hx hb dX12_row_165 (by decide) ?_
                                refine lv_istore (lv' := [(4, .int 0), (2, .int k35_2), (3, .int k35_3), (1, .int u_td), (0, .ref b_o)]) hx hb dX12_row_166 hl (by decide) rfl (fun ls hl => ?_)
                                refine lv_iload hx hb dX12_row_168 (lv_at hl 0 rfl) ?_
                                refine lv_if_eq (tgt := 231) hx hb dX12_row_170 (by decide) (fun c_93 => ?_) (fun c_93 => ?_)
                                ·
                                  refine lv_aload_n hx hb dX12_row_231 rfl (lv_at hl 4 rfl) ?_
                                  refine lv_dup hx hb dX12_row_232 rfl ?_
                                  refine va_get (D := G.1) (ci := 12) (v := .int k35_fd) (C := RX12) (T := TX12) (N := 52) hx hb hts inG_X12 hown hK hP 2 rfl rfl 6 (by decide) (hts _ fl_X12_195) (fun _ h9 => h9) rfl dX12_row_233 ?_
                                  refine lv_iconst (v := 1) hx hb dX12_row_236 (by decide) ?_
                                  refine lv_iadd hx hb dX12_row_237 ?_
                                  have t_94 : (k35_fd + 1).toInt = k35_fd.toInt + 1 := g5_iadd (a := k35_fd.toInt) (b := 1) (by rfl) (by decide) (by omega) (by omega)
                                  refine va_put (D := G.1) (ci := 12) (v := .int (k35_fd + 1)) (ty := .int) (C := RX12) (T := TX12) (N := 52) hx hb hts inG_X12 tyX12 tyX12_ok nmX12 hown hK hP hD hS 2 rfl rfl 6 (by decide) (hts _ fl_X12_195) (fun _ h9 => h9) rfl (by decide +kernel) rfl rfl (Nat.le_of_ble_eq_true rfl) dX12_row_238 (fun H locs hP hD hS => ?_)
                                  refine g5_rs [(b_rf, (arI G 7 v_rf)), (b_tp, (arI G 400 v_tp)), (b_o, (oc12 0 u_sa b_rf b_ro b_im b_ke (k35_fd + 1) b_tp 0 u_fr u_to u_so u_wo u_fa u_bd u_nc b_nl u_co b_op b_ar u_le b_pi b_pa u_pd u_od b_ws b_hw u_la b_se b_re u_bk u_va u_su u_ce u_ho u_wy u_bt u_ps b_pt u_tg u_sn b_ip u_ic b_ah b_be b_me u_wd b_tr b_ld u_st b_wn u_id)), (b_ro, (arI G 5740 k35_ro))] hP hD (fun hP hD => ?_)
                                  refine lv_iinc (v := (k35_3 + 4)) (lv' := [(3, .int (k35_3 + 4)), (4, .int 0), (2, .int k35_2), (1, .int u_td), (0, .ref b_o)]) hx hb dX12_row_241 hl (k := 2) rfl rfl (by decide) rfl (fun ls hl => ?_)
                                  have t_95 : (k35_3 + 4).toInt = k35_3.toInt + 4 := g5_iadd (a := k35_3.toInt) (b := 4) rfl (by decide) (by omega) (by omega)
                                  refine lv_goto (tgt := 35) hx hb dX12_row_244 (by decide) ?_
                                  exact ih_35_11 ((k35_3 + 4), k35_2, (k35_fd + 1), k35_ro) ls H locs (show Int.toNat (404 - (k35_3 + 4).toInt) < Int.toNat (404 - k35_3.toInt) from g_up (show k35_3.toInt < (k35_3 + 4).toInt by omega) (show k35_3.toInt < 404 by omega)) ⟨lv_sub hl [2, 0, 3, 4] rfl, hP.sub [2, 0, 3, 1] rfl, hD.sub [2, 0, 3, 1] (by decide) rfl, hS, ⟨by omega, by omega⟩, i_3, i_4, by omega, by omega, ⟨by omega, by omega⟩, by omega, (by rw [show ((k35_3 + 4).toInt / 4).toNat = (k35_3.toInt / 4).toNat + 1 by omega, rwC_S (k := k35_3.toInt.toNat) (by omega), ← i_9, ← i_10, cif_f (fun q => by have q := (cq_mk (td := u_td.toInt) (f := k35_ro) (t := v_tp) (k := k35_3.toInt.toNat) hy_25 hy_33 hy_40 hy_59 (cq_n n_61)).mp q; exact q.2.2.2 i_90)]; omega), (by rw [show ((k35_3 + 4).toInt / 4).toNat = (k35_3.toInt / 4).toNat + 1 by omega, rwS_S (k := k35_3.toInt.toNat) (by omega), ← i_10, rw_stayN (fun q => by have q := (cq_mk (td := u_td.toInt) (f := k35_ro) (t := v_tp) (k := k35_3.toInt.toNat) hy_25 hy_33 hy_40 hy_59 (cq_n n_61)).mp q; exact q.2.2.2 i_90)])⟩
                                ·
                                  exact absurd c_93 (by decide)
                              ·
                                exact absurd c_92 (by decide)
                            ·
                              have i_91 : ¬ wallAt k35_ro y59.toInt := i_91
                              obtain ⟨hP, hD⟩ := va_join (wr := [(b_rf, (arI G 7 v_rf)), (b_tp, (arI G 400 v_tp))]) hP hD [2, 3] [0, 1] rfl rfl (by decide) (by decide) hk1 hFc hP1 hD1
                              generalize H1 = H at hP hS ⊢
                              refine g5_rs [(b_rf, (arI G 7 v_rf)), (b_tp, (arI G 400 v_tp)), (b_o, (oc12 0 u_sa b_rf b_ro b_im b_ke k35_fd b_tp 0 u_fr u_to u_so u_wo u_fa u_bd u_nc b_nl u_co b_op b_ar u_le b_pi b_pa u_pd u_od b_ws b_hw u_la b_se b_re u_bk u_va u_su u_ce u_ho u_wy u_bt u_ps b_pt u_tg u_sn b_ip u_ic b_ah b_be b_me u_wd b_tr b_ld u_st b_wn u_id)), (b_ro, (arI G 5740 k35_ro))] hP hD (fun hP hD => ?_)
                              refine lv_if_ne (tgt := 165) hx hb dX12_row_158 (by decide) (fun c_96 => ?_) (fun c_96 => ?_)
                              ·
                                exact absurd c_96 (by decide)
                              ·
                                refine lv_iconst (v := 1) hx hb dX12_row_161 (by decide) ?_
                                refine lv_goto (tgt := 166) hx hb dX12_row_162 (by decide) ?_
                                refine lv_istore (lv' := [(4, .int 1), (2, .int k35_2), (3, .int k35_3), (1, .int u_td), (0, .ref b_o)]) hx hb dX12_row_166 hl (by decide) rfl (fun ls hl => ?_)
                                refine lv_iload hx hb dX12_row_168 (lv_at hl 0 rfl) ?_
                                refine lv_if_eq (tgt := 231) hx hb dX12_row_170 (by decide) (fun c_97 => ?_) (fun c_97 => ?_)
                                ·
                                  exact absurd c_97 (by decide)
                                ·
                                  refine lv_aload_n hx hb dX12_row_173 rfl (lv_at hl 4 rfl) ?_
                                  refine lv_aload_n hx hb dX12_row_174 rfl (lv_at hl 4 rfl) ?_
                                  refine va_get (D := G.1) (ci := 12) (v := .ref b_tp) (C := RX12) (T := TX12) (N := 52) hx hb hts inG_X12 hown hK hP 2 rfl rfl 7 (by decide) (hts _ fl_X12_23) (fun _ h9 => h9) rfl dX12_row_175 ?_
                                  refine lv_iload_n hx hb dX12_row_178 rfl (lv_at hl 2 rfl) ?_
                                  refine va_iald hx hb hK hP 1 0 rfl rfl (i := k35_3) (vp_in_iff.mpr ⟨by omega, by omega⟩) dX12_row_179 ?_
                                  have hr_98 : 0 ≤ (v_tp k35_3.toNatClampNeg).toInt ∧ (v_tp k35_3.toNatClampNeg).toInt ≤ 255 := r_tp (k35_3.toNatClampNeg)
                                  have hq_99 : (v_tp k35_3.toNatClampNeg) = y25 := hy_25
                                  refine g5_ti (v := y25) hq_99 ?_
                                  refine lv_aload_n hx hb dX12_row_180 rfl (lv_at hl 4 rfl) ?_
                                  refine va_get (D := G.1) (ci := 12) (v := .ref b_tp) (C := RX12) (T := TX12) (N := 52) hx hb hts inG_X12 hown hK hP 2 rfl rfl 7 (by decide) (hts _ fl_X12_23) (fun _ h9 => h9) rfl dX12_row_181 ?_
                                  refine lv_iload_n hx hb dX12_row_184 rfl (lv_at hl 2 rfl) ?_
                                  refine lv_iconst (v := 1) hx hb dX12_row_185 (by decide) ?_
                                  refine lv_iadd hx hb dX12_row_186 ?_
                                  have t_100 : (k35_3 + 1).toInt = k35_3.toInt + 1 := g5_iadd (a := k35_3.toInt) (b := 1) (by rfl) (by decide) (by omega) (by omega)
                                  refine va_iald hx hb hK hP 1 0 rfl rfl (i := (k35_3 + 1)) (vp_in_iff.mpr ⟨by omega, by omega⟩) dX12_row_187 ?_
                                  have hr_101 : 0 ≤ (v_tp (k35_3 + 1).toNatClampNeg).toInt ∧ (v_tp (k35_3 + 1).toNatClampNeg).toInt ≤ 255 := r_tp ((k35_3 + 1).toNatClampNeg)
                                  have hq_102 : (v_tp (k35_3 + 1).toNatClampNeg) = y33 := by rw [← hy_33]; congr 1; have zz := g5_clamp (k35_3 + 1); omega
                                  refine g5_ti (v := y33) hq_102 ?_
                                  refine lv_aload_n hx hb dX12_row_188 rfl (lv_at hl 4 rfl) ?_
                                  refine va_get (D := G.1) (ci := 12) (v := .ref b_tp) (C := RX12) (T := TX12) (N := 52) hx hb hts inG_X12 hown hK hP 2 rfl rfl 7 (by decide) (hts _ fl_X12_23) (fun _ h9 => h9) rfl dX12_row_189 ?_
                                  refine lv_iload_n hx hb dX12_row_192 rfl (lv_at hl 2 rfl) ?_
                                  refine lv_iconst (v := 2) hx hb dX12_row_193 (by decide) ?_
                                  refine lv_iadd hx hb dX12_row_194 ?_
                                  have t_103 : (k35_3 + 2).toInt = k35_3.toInt + 2 := g5_iadd (a := k35_3.toInt) (b := 2) (by rfl) (by decide) (by omega) (by omega)
                                  refine va_iald hx hb hK hP 1 0 rfl rfl (i := (k35_3 + 2)) (vp_in_iff.mpr ⟨by omega, by omega⟩) dX12_row_195 ?_
                                  have hr_104 : 0 ≤ (v_tp (k35_3 + 2).toNatClampNeg).toInt ∧ (v_tp (k35_3 + 2).toNatClampNeg).toInt ≤ 255 := r_tp ((k35_3 + 2).toNatClampNeg)
                                  have hq_105 : (v_tp (k35_3 + 2).toNatClampNeg) = y40 := by rw [← hy_40]; congr 1; have zz := g5_clamp (k35_3 + 2); omega
                                  refine g5_ti (v := y40) hq_105 ?_
                                  refine lv_aload_n hx hb dX12_row_196 rfl (lv_at hl 4 rfl) ?_
                                  refine va_get (D := G.1) (ci := 12) (v := .ref b_tp) (C := RX12) (T := TX12) (N := 52) hx hb hts inG_X12 hown hK hP 2 rfl rfl 7 (by decide) (hts _ fl_X12_23) (fun _ h9 => h9) rfl dX12_row_197 ?_
                                  refine lv_iload_n hx hb dX12_row_200 rfl (lv_at hl 2 rfl) ?_
                                  refine lv_iconst (v := 3) hx hb dX12_row_201 (by decide) ?_
                                  refine lv_iadd hx hb dX12_row_202 ?_
                                  have t_106 : (k35_3 + 3).toInt = k35_3.toInt + 3 := g5_iadd (a := k35_3.toInt) (b := 3) (by rfl) (by decide) (by omega) (by omega)
                                  refine va_iald hx hb hK hP 1 0 rfl rfl (i := (k35_3 + 3)) (vp_in_iff.mpr ⟨by omega, by omega⟩) dX12_row_203 ?_
                                  have hr_107 : 0 ≤ (v_tp (k35_3 + 3).toNatClampNeg).toInt ∧ (v_tp (k35_3 + 3).toNatClampNeg).toInt ≤ 255 := r_tp ((k35_3 + 3).toNatClampNeg)
                                  have hq_108 : (v_tp (k35_3 + 3).toNatClampNeg) = y59 := by rw [← hy_59]; congr 1; have zz := g5_clamp (k35_3 + 3); omega
                                  refine g5_ti (v := y59) hq_108 ?_
                                  refine lv_sipush (v := 255) hx hb dX12_row_204 (by decide) ?_
                                  refine lv_icmp_ne (tgt := 214) hx hb dX12_row_207 (by decide) (fun c_109 => ?_) (fun c_109 => ?_)
                                  ·
                                    have n_109 : gNe (y59.toInt) (255) := by have z := g5_ne (a := y59.toInt) (b := 255) (by rfl) (by decide) c_109; unfold gNe; omega
                                    refine lv_aload_n hx hb dX12_row_214 rfl (lv_at hl 4 rfl) ?_
                                    refine va_get (D := G.1) (ci := 12) (v := .ref b_tp) (C := RX12) (T := TX12) (N := 52) hx hb hts inG_X12 hown hK hP 2 rfl rfl 7 (by decide) (hts _ fl_X12_23) (fun _ h9 => h9) rfl dX12_row_215 ?_
                                    refine lv_iload_n hx hb dX12_row_218 rfl (lv_at hl 2 rfl) ?_
                                    refine lv_iconst (v := 3) hx hb dX12_row_219 (by decide) ?_
                                    refine lv_iadd hx hb dX12_row_220 ?_
                                    have t_110 : (k35_3 + 3).toInt = k35_3.toInt + 3 := g5_iadd (a := k35_3.toInt) (b := 3) (by rfl) (by decide) (by omega) (by omega)
                                    refine va_iald hx hb hK hP 1 0 rfl rfl (i := (k35_3 + 3)) (vp_in_iff.mpr ⟨by omega, by omega⟩) dX12_row_221 ?_
                                    have hr_111 : 0 ≤ (v_tp (k35_3 + 3).toNatClampNeg).toInt ∧ (v_tp (k35_3 + 3).toNatClampNeg).toInt ≤ 255 := r_tp ((k35_3 + 3).toNatClampNeg)
                                    have hq_112 : (v_tp (k35_3 + 3).toNatClampNeg) = y59 := by rw [← hy_59]; congr 1; have zz := g5_clamp (k35_3 + 3); omega
                                    refine g5_ti (v := y59) hq_112 ?_
                                    obtain ⟨hPc, hDc, hFc⟩ := g5_sub3 (wc := [(b_o, (oc12 0 u_sa b_rf b_ro b_im b_ke k35_fd b_tp 0 u_fr u_to u_so u_wo u_fa u_bd u_nc b_nl u_co b_op b_ar u_le b_pi b_pa u_pd u_od b_ws b_hw u_la b_se b_re u_bk u_va u_su u_ce u_ho u_wy u_bt u_ps b_pt u_tg u_sn b_ip u_ic b_ah b_be b_me u_wd b_tr b_ld u_st b_wn u_id)), (b_ro, (arI G 5740 k35_ro))]) hP hD hS hA [2, 3] (by decide) rfl
                                    refine va_callv (va_runV (As := [.int y25, .int y33, .int y40, .int y59]) (rest := []) ⟨hx, hb, hml, hown, hts⟩ (n_staysE l G b_o b_ro b_rf b_im b_ke b_tp b_nl b_op b_ar b_pi b_pa b_ws b_hw b_se b_re b_pt b_ip b_ah b_be b_me b_tr b_ld b_wn H.size 0 u_sa k35_fd 0 u_fr u_to u_so u_fa u_bd u_nc u_co u_le u_pd u_od u_la u_bk u_ce u_ho u_wy u_bt u_ps u_tg u_sn u_ic u_wd u_id y25 y33 y40 y59 u_wo u_va u_su u_st k35_ro ⟨by decide, by decide⟩ h_u_fr h_u_to h_u_bd h_u_nc h_u_co h_u_pd h_u_la h_u_bk h_u_ce h_u_ho h_u_wy h_u_bt h_u_ps h_u_ic h_u_id i_28 i_35 i_42 ⟨by omega, by omega⟩ (i_4) (by omega)) (cwV 4 hts gV_X12_183 rfl rfl rfl hv_X12_stays ⟨Nat.le_of_ble_eq_true rfl, Nat.le_of_ble_eq_true rfl⟩) (g5_preV hPc hK hDc hN hT hS hFc (ci := 12) (q0 := 0) rfl rfl) rfl rfl hl.1 rfl (lv_room (Nat.le_of_ble_eq_true rfl)) dX12_row_222 ⟨Nat.le_of_ble_eq_true rfl, Nat.le_of_ble_eq_true rfl⟩) hS (fun q _ h => hFc q h) hFc (fun u t H1 locs ht hvm hw hB hz1 hk1 hS => ?_)
                                    obtain ⟨hP1, hD1⟩ := hB
                                    rw [ht] at hP1
                                    obtain ⟨z115, i_113, i_114, rfl⟩ := hw
                                    have i_113 : MI z115 := i_113
                                    have i_114 : z115 = stR k35_ro y25.toInt y33.toInt y40.toInt y59 := i_114
                                    obtain ⟨hP, hD⟩ := va_join (wr := [(b_rf, (arI G 7 v_rf)), (b_tp, (arI G 400 v_tp))]) hP hD [2, 3] [0, 1] rfl rfl (by decide) (by decide) hk1 hFc hP1 hD1
                                    generalize H1 = H at hP hS ⊢
                                    refine g5_rs [(b_rf, (arI G 7 v_rf)), (b_tp, (arI G 400 v_tp)), (b_o, (oc12 0 u_sa b_rf b_ro b_im b_ke k35_fd b_tp 0 u_fr u_to u_so u_wo u_fa u_bd u_nc b_nl u_co b_op b_ar u_le b_pi b_pa u_pd u_od b_ws b_hw u_la b_se b_re u_bk u_va u_su u_ce u_ho u_wy u_bt u_ps b_pt u_tg u_sn b_ip u_ic b_ah b_be b_me u_wd b_tr b_ld u_st b_wn u_id)), (b_ro, (arI G 5740 z115))] hP hD (fun hP hD => ?_)
                                    refine lv_iinc (v := (k35_2 + 1)) (lv' := [(2, .int (k35_2 + 1)), (4, .int 1), (3, .int k35_3), (1, .int u_td), (0, .ref b_o)]) hx hb dX12_row_225 hl (k := 1) rfl rfl (by decide) rfl (fun ls hl => ?_)
                                    have t_116 : (k35_2 + 1).toInt = k35_2.toInt + 1 := g5_iadd (a := k35_2.toInt) (b := 1) rfl (by decide) (by omega) (by omega)
                                    refine lv_goto (tgt := 241) hx hb dX12_row_228 (by decide) ?_
                                    refine lv_iinc (v := (k35_3 + 4)) (lv' := [(3, .int (k35_3 + 4)), (2, .int (k35_2 + 1)), (4, .int 1), (1, .int u_td), (0, .ref b_o)]) hx hb dX12_row_241 hl (k := 2) rfl rfl (by decide) rfl (fun ls hl => ?_)
                                    have t_117 : (k35_3 + 4).toInt = k35_3.toInt + 4 := g5_iadd (a := k35_3.toInt) (b := 4) rfl (by decide) (by omega) (by omega)
                                    refine lv_goto (tgt := 35) hx hb dX12_row_244 (by decide) ?_
                                    exact ih_35_11 ((k35_3 + 4), (k35_2 + 1), k35_fd, z115) ls H locs (show Int.toNat (404 - (k35_3 + 4).toInt) < Int.toNat (404 - k35_3.toInt) from g_up (show k35_3.toInt < (k35_3 + 4).toInt by omega) (show k35_3.toInt < 404 by omega)) ⟨lv_sub hl [1, 0, 3, 4] rfl, hP.sub [2, 0, 3, 1] rfl, hD.sub [2, 0, 3, 1] (by decide) rfl, hS, ⟨by omega, by omega⟩, ⟨by omega, by omega⟩, i_113, by omega, by omega, i_7, by omega, (by rw [show ((k35_3 + 4).toInt / 4).toNat = (k35_3.toInt / 4).toNat + 1 by omega, rwC_S (k := k35_3.toInt.toNat) (by omega), ← i_9, ← i_10, cif_t ((cq_mk (td := u_td.toInt) (f := k35_ro) (t := v_tp) (k := k35_3.toInt.toNat) hy_25 hy_33 hy_40 hy_59 (cq_n n_109)).mpr ⟨by omega, i_27, by unfold okS; omega, i_91⟩)]; omega), (by rw [show ((k35_3 + 4).toInt / 4).toNat = (k35_3.toInt / 4).toNat + 1 by omega, rwS_S (k := k35_3.toInt.toNat) (by omega), ← i_10, rw_stayY ((cq_mk (td := u_td.toInt) (f := k35_ro) (t := v_tp) (k := k35_3.toInt.toNat) hy_25 hy_33 hy_40 hy_59 (cq_n n_109)).mpr ⟨by omega, i_27, by unfold okS; omega, i_91⟩), hy_25, hy_33, hy_40, hy_59, cq_n (by omega)]; exact i_114)⟩
                                  ·
                                    have i_109 : y59.toInt = 255 := by have z := g5_neN (a := y59.toInt) (b := 255) (by rfl) (by decide) c_109; omega
                                    omega
                ·
                  have i_43 : y40.toInt < 0 ∨ 23 < y40.toInt := i_43
                  have hP := g5_same hP hk1
                  generalize H1 = H at hP hS ⊢
                  refine lv_if_eq (tgt := 111) hx hb dX12_row_85 (by decide) (fun c_118 => ?_) (fun c_118 => ?_)
                  ·
                    refine lv_iconst (v := 0) hx hb dX12_row_111 (by decide) ?_
                    refine lv_istore (lv' := [(4, .int 0), (2, .int k35_2), (3, .int k35_3), (1, .int u_td), (0, .ref b_o)]) hx hb dX12_row_112 hl (by decide) rfl (fun ls hl => ?_)
                    refine lv_iload hx hb dX12_row_114 (lv_at hl 0 rfl) ?_
                    refine lv_if_eq (tgt := 165) hx hb dX12_row_116 (by decide) (fun c_119 => ?_) (fun c_119 => ?_)
                    ·
                      refine lv_iconst (v := 0) hx hb dX12_row_165 (by decide) ?_
                      refine lv_istore (lv' := [(4, .int 0), (2, .int k35_2), (3, .int k35_3), (1, .int u_td), (0, .ref b_o)]) hx hb dX12_row_166 hl (by decide) rfl (fun ls hl => ?_)
                      refine lv_iload hx hb dX12_row_168 (lv_at hl 0 rfl) ?_
                      refine lv_if_eq (tgt := 231) hx hb dX12_row_170 (by decide) (fun c_120 => ?_) (fun c_120 => ?_)
                      ·
                        refine lv_aload_n hx hb dX12_row_231 rfl (lv_at hl 4 rfl) ?_
                        refine lv_dup hx hb dX12_row_232 rfl ?_
                        refine va_get (D := G.1) (ci := 12) (v := .int k35_fd) (C := RX12) (T := TX12) (N := 52) hx hb hts inG_X12 hown hK hP 2 rfl rfl 6 (by decide) (hts _ fl_X12_195) (fun _ h9 => h9) rfl dX12_row_233 ?_
                        refine lv_iconst (v := 1) hx hb dX12_row_236 (by decide) ?_
                        refine lv_iadd hx hb dX12_row_237 ?_
                        have t_121 : (k35_fd + 1).toInt = k35_fd.toInt + 1 := g5_iadd (a := k35_fd.toInt) (b := 1) (by rfl) (by decide) (by omega) (by omega)
                        refine va_put (D := G.1) (ci := 12) (v := .int (k35_fd + 1)) (ty := .int) (C := RX12) (T := TX12) (N := 52) hx hb hts inG_X12 tyX12 tyX12_ok nmX12 hown hK hP hD hS 2 rfl rfl 6 (by decide) (hts _ fl_X12_195) (fun _ h9 => h9) rfl (by decide +kernel) rfl rfl (Nat.le_of_ble_eq_true rfl) dX12_row_238 (fun H locs hP hD hS => ?_)
                        refine g5_rs [(b_rf, (arI G 7 v_rf)), (b_tp, (arI G 400 v_tp)), (b_o, (oc12 0 u_sa b_rf b_ro b_im b_ke (k35_fd + 1) b_tp 0 u_fr u_to u_so u_wo u_fa u_bd u_nc b_nl u_co b_op b_ar u_le b_pi b_pa u_pd u_od b_ws b_hw u_la b_se b_re u_bk u_va u_su u_ce u_ho u_wy u_bt u_ps b_pt u_tg u_sn b_ip u_ic b_ah b_be b_me u_wd b_tr b_ld u_st b_wn u_id)), (b_ro, (arI G 5740 k35_ro))] hP hD (fun hP hD => ?_)
                        refine lv_iinc (v := (k35_3 + 4)) (lv' := [(3, .int (k35_3 + 4)), (4, .int 0), (2, .int k35_2), (1, .int u_td), (0, .ref b_o)]) hx hb dX12_row_241 hl (k := 2) rfl rfl (by decide) rfl (fun ls hl => ?_)
                        have t_122 : (k35_3 + 4).toInt = k35_3.toInt + 4 := g5_iadd (a := k35_3.toInt) (b := 4) rfl (by decide) (by omega) (by omega)
                        refine lv_goto (tgt := 35) hx hb dX12_row_244 (by decide) ?_
                        exact ih_35_11 ((k35_3 + 4), k35_2, (k35_fd + 1), k35_ro) ls H locs (show Int.toNat (404 - (k35_3 + 4).toInt) < Int.toNat (404 - k35_3.toInt) from g_up (show k35_3.toInt < (k35_3 + 4).toInt by omega) (show k35_3.toInt < 404 by omega)) ⟨lv_sub hl [2, 0, 3, 4] rfl, hP.sub [2, 0, 3, 1] rfl, hD.sub [2, 0, 3, 1] (by decide) rfl, hS, ⟨by omega, by omega⟩, i_3, i_4, by omega, by omega, ⟨by omega, by omega⟩, by omega, (by rw [show ((k35_3 + 4).toInt / 4).toNat = (k35_3.toInt / 4).toNat + 1 by omega, rwC_S (k := k35_3.toInt.toNat) (by omega), ← i_9, ← i_10, cif_f (fun q => by have q := (cq_mk (td := u_td.toInt) (f := k35_ro) (t := v_tp) (k := k35_3.toInt.toNat) hy_25 hy_33 hy_40 rfl (rfl)).mp q; have q2 := q.2.2.1; unfold okS at q2; omega)]; omega), (by rw [show ((k35_3 + 4).toInt / 4).toNat = (k35_3.toInt / 4).toNat + 1 by omega, rwS_S (k := k35_3.toInt.toNat) (by omega), ← i_10, rw_stayN (fun q => by have q := (cq_mk (td := u_td.toInt) (f := k35_ro) (t := v_tp) (k := k35_3.toInt.toNat) hy_25 hy_33 hy_40 rfl (rfl)).mp q; have q2 := q.2.2.1; unfold okS at q2; omega)])⟩
                      ·
                        exact absurd c_120 (by decide)
                    ·
                      exact absurd c_119 (by decide)
                  ·
                    exact absurd c_118 (by decide)
            ·
              have i_36 : y33.toInt < 0 ∨ 23 < y33.toInt := i_36
              have hP := g5_same hP hk1
              generalize H1 = H at hP hS ⊢
              refine lv_if_eq (tgt := 111) hx hb dX12_row_71 (by decide) (fun c_123 => ?_) (fun c_123 => ?_)
              ·
                refine lv_iconst (v := 0) hx hb dX12_row_111 (by decide) ?_
                refine lv_istore (lv' := [(4, .int 0), (2, .int k35_2), (3, .int k35_3), (1, .int u_td), (0, .ref b_o)]) hx hb dX12_row_112 hl (by decide) rfl (fun ls hl => ?_)
                refine lv_iload hx hb dX12_row_114 (lv_at hl 0 rfl) ?_
                refine lv_if_eq (tgt := 165) hx hb dX12_row_116 (by decide) (fun c_124 => ?_) (fun c_124 => ?_)
                ·
                  refine lv_iconst (v := 0) hx hb dX12_row_165 (by decide) ?_
                  refine lv_istore (lv' := [(4, .int 0), (2, .int k35_2), (3, .int k35_3), (1, .int u_td), (0, .ref b_o)]) hx hb dX12_row_166 hl (by decide) rfl (fun ls hl => ?_)
                  refine lv_iload hx hb dX12_row_168 (lv_at hl 0 rfl) ?_
                  refine lv_if_eq (tgt := 231) hx hb dX12_row_170 (by decide) (fun c_125 => ?_) (fun c_125 => ?_)
                  ·
                    refine lv_aload_n hx hb dX12_row_231 rfl (lv_at hl 4 rfl) ?_
                    refine lv_dup hx hb dX12_row_232 rfl ?_
                    refine va_get (D := G.1) (ci := 12) (v := .int k35_fd) (C := RX12) (T := TX12) (N := 52) hx hb hts inG_X12 hown hK hP 2 rfl rfl 6 (by decide) (hts _ fl_X12_195) (fun _ h9 => h9) rfl dX12_row_233 ?_
                    refine lv_iconst (v := 1) hx hb dX12_row_236 (by decide) ?_
                    refine lv_iadd hx hb dX12_row_237 ?_
                    have t_126 : (k35_fd + 1).toInt = k35_fd.toInt + 1 := g5_iadd (a := k35_fd.toInt) (b := 1) (by rfl) (by decide) (by omega) (by omega)
                    refine va_put (D := G.1) (ci := 12) (v := .int (k35_fd + 1)) (ty := .int) (C := RX12) (T := TX12) (N := 52) hx hb hts inG_X12 tyX12 tyX12_ok nmX12 hown hK hP hD hS 2 rfl rfl 6 (by decide) (hts _ fl_X12_195) (fun _ h9 => h9) rfl (by decide +kernel) rfl rfl (Nat.le_of_ble_eq_true rfl) dX12_row_238 (fun H locs hP hD hS => ?_)
                    refine g5_rs [(b_rf, (arI G 7 v_rf)), (b_tp, (arI G 400 v_tp)), (b_o, (oc12 0 u_sa b_rf b_ro b_im b_ke (k35_fd + 1) b_tp 0 u_fr u_to u_so u_wo u_fa u_bd u_nc b_nl u_co b_op b_ar u_le b_pi b_pa u_pd u_od b_ws b_hw u_la b_se b_re u_bk u_va u_su u_ce u_ho u_wy u_bt u_ps b_pt u_tg u_sn b_ip u_ic b_ah b_be b_me u_wd b_tr b_ld u_st b_wn u_id)), (b_ro, (arI G 5740 k35_ro))] hP hD (fun hP hD => ?_)
                    refine lv_iinc (v := (k35_3 + 4)) (lv' := [(3, .int (k35_3 + 4)), (4, .int 0), (2, .int k35_2), (1, .int u_td), (0, .ref b_o)]) hx hb dX12_row_241 hl (k := 2) rfl rfl (by decide) rfl (fun ls hl => ?_)
                    have t_127 : (k35_3 + 4).toInt = k35_3.toInt + 4 := g5_iadd (a := k35_3.toInt) (b := 4) rfl (by decide) (by omega) (by omega)
                    refine lv_goto (tgt := 35) hx hb dX12_row_244 (by decide) ?_
                    exact ih_35_11 ((k35_3 + 4), k35_2, (k35_fd + 1), k35_ro) ls H locs (show Int.toNat (404 - (k35_3 + 4).toInt) < Int.toNat (404 - k35_3.toInt) from g_up (show k35_3.toInt < (k35_3 + 4).toInt by omega) (show k35_3.toInt < 404 by omega)) ⟨lv_sub hl [2, 0, 3, 4] rfl, hP.sub [2, 0, 3, 1] rfl, hD.sub [2, 0, 3, 1] (by decide) rfl, hS, ⟨by omega, by omega⟩, i_3, i_4, by omega, by omega, ⟨by omega, by omega⟩, by omega, (by rw [show ((k35_3 + 4).toInt / 4).toNat = (k35_3.toInt / 4).toNat + 1 by omega, rwC_S (k := k35_3.toInt.toNat) (by omega), ← i_9, ← i_10, cif_f (fun q => by have q := (cq_mk (td := u_td.toInt) (f := k35_ro) (t := v_tp) (k := k35_3.toInt.toNat) hy_25 hy_33 rfl rfl (rfl)).mp q; have q2 := q.2.2.1; unfold okS at q2; omega)]; omega), (by rw [show ((k35_3 + 4).toInt / 4).toNat = (k35_3.toInt / 4).toNat + 1 by omega, rwS_S (k := k35_3.toInt.toNat) (by omega), ← i_10, rw_stayN (fun q => by have q := (cq_mk (td := u_td.toInt) (f := k35_ro) (t := v_tp) (k := k35_3.toInt.toNat) hy_25 hy_33 rfl rfl (rfl)).mp q; have q2 := q.2.2.1; unfold okS at q2; omega)])⟩
                  ·
                    exact absurd c_125 (by decide)
                ·
                  exact absurd c_124 (by decide)
              ·
                exact absurd c_123 (by decide)
        ·
          have i_29 : ¬ isB k35_ro y25 := i_29
          obtain ⟨hP, hD⟩ := va_join (wr := [(b_rf, (arI G 7 v_rf)), (b_tp, (arI G 400 v_tp))]) hP hD [0, 2] [1, 3] rfl rfl (by decide) (by decide) hk1 hFc hP1 hD1
          generalize H1 = H at hP hS ⊢
          refine g5_rs [(b_rf, (arI G 7 v_rf)), (b_tp, (arI G 400 v_tp)), (b_o, (oc12 0 u_sa b_rf b_ro b_im b_ke k35_fd b_tp 0 u_fr u_to u_so u_wo u_fa u_bd u_nc b_nl u_co b_op b_ar u_le b_pi b_pa u_pd u_od b_ws b_hw u_la b_se b_re u_bk u_va u_su u_ce u_ho u_wy u_bt u_ps b_pt u_tg u_sn b_ip u_ic b_ah b_be b_me u_wd b_tr b_ld u_st b_wn u_id)), (b_ro, (arI G 5740 k35_ro))] hP hD (fun hP hD => ?_)
          refine lv_if_eq (tgt := 111) hx hb dX12_row_57 (by decide) (fun c_128 => ?_) (fun c_128 => ?_)
          ·
            refine lv_iconst (v := 0) hx hb dX12_row_111 (by decide) ?_
            refine lv_istore (lv' := [(4, .int 0), (2, .int k35_2), (3, .int k35_3), (1, .int u_td), (0, .ref b_o)]) hx hb dX12_row_112 hl (by decide) rfl (fun ls hl => ?_)
            refine lv_iload hx hb dX12_row_114 (lv_at hl 0 rfl) ?_
            refine lv_if_eq (tgt := 165) hx hb dX12_row_116 (by decide) (fun c_129 => ?_) (fun c_129 => ?_)
            ·
              refine lv_iconst (v := 0) hx hb dX12_row_165 (by decide) ?_
              refine lv_istore (lv' := [(4, .int 0), (2, .int k35_2), (3, .int k35_3), (1, .int u_td), (0, .ref b_o)]) hx hb dX12_row_166 hl (by decide) rfl (fun ls hl => ?_)
              refine lv_iload hx hb dX12_row_168 (lv_at hl 0 rfl) ?_
              refine lv_if_eq (tgt := 231) hx hb dX12_row_170 (by decide) (fun c_130 => ?_) (fun c_130 => ?_)
              ·
                refine lv_aload_n hx hb dX12_row_231 rfl (lv_at hl 4 rfl) ?_
                refine lv_dup hx hb dX12_row_232 rfl ?_
                refine va_get (D := G.1) (ci := 12) (v := .int k35_fd) (C := RX12) (T := TX12) (N := 52) hx hb hts inG_X12 hown hK hP 2 rfl rfl 6 (by decide) (hts _ fl_X12_195) (fun _ h9 => h9) rfl dX12_row_233 ?_
                refine lv_iconst (v := 1) hx hb dX12_row_236 (by decide) ?_
                refine lv_iadd hx hb dX12_row_237 ?_
                have t_131 : (k35_fd + 1).toInt = k35_fd.toInt + 1 := g5_iadd (a := k35_fd.toInt) (b := 1) (by rfl) (by decide) (by omega) (by omega)
                refine va_put (D := G.1) (ci := 12) (v := .int (k35_fd + 1)) (ty := .int) (C := RX12) (T := TX12) (N := 52) hx hb hts inG_X12 tyX12 tyX12_ok nmX12 hown hK hP hD hS 2 rfl rfl 6 (by decide) (hts _ fl_X12_195) (fun _ h9 => h9) rfl (by decide +kernel) rfl rfl (Nat.le_of_ble_eq_true rfl) dX12_row_238 (fun H locs hP hD hS => ?_)
                refine g5_rs [(b_rf, (arI G 7 v_rf)), (b_tp, (arI G 400 v_tp)), (b_o, (oc12 0 u_sa b_rf b_ro b_im b_ke (k35_fd + 1) b_tp 0 u_fr u_to u_so u_wo u_fa u_bd u_nc b_nl u_co b_op b_ar u_le b_pi b_pa u_pd u_od b_ws b_hw u_la b_se b_re u_bk u_va u_su u_ce u_ho u_wy u_bt u_ps b_pt u_tg u_sn b_ip u_ic b_ah b_be b_me u_wd b_tr b_ld u_st b_wn u_id)), (b_ro, (arI G 5740 k35_ro))] hP hD (fun hP hD => ?_)
                refine lv_iinc (v := (k35_3 + 4)) (lv' := [(3, .int (k35_3 + 4)), (4, .int 0), (2, .int k35_2), (1, .int u_td), (0, .ref b_o)]) hx hb dX12_row_241 hl (k := 2) rfl rfl (by decide) rfl (fun ls hl => ?_)
                have t_132 : (k35_3 + 4).toInt = k35_3.toInt + 4 := g5_iadd (a := k35_3.toInt) (b := 4) rfl (by decide) (by omega) (by omega)
                refine lv_goto (tgt := 35) hx hb dX12_row_244 (by decide) ?_
                exact ih_35_11 ((k35_3 + 4), k35_2, (k35_fd + 1), k35_ro) ls H locs (show Int.toNat (404 - (k35_3 + 4).toInt) < Int.toNat (404 - k35_3.toInt) from g_up (show k35_3.toInt < (k35_3 + 4).toInt by omega) (show k35_3.toInt < 404 by omega)) ⟨lv_sub hl [2, 0, 3, 4] rfl, hP.sub [2, 0, 3, 1] rfl, hD.sub [2, 0, 3, 1] (by decide) rfl, hS, ⟨by omega, by omega⟩, i_3, i_4, by omega, by omega, ⟨by omega, by omega⟩, by omega, (by rw [show ((k35_3 + 4).toInt / 4).toNat = (k35_3.toInt / 4).toNat + 1 by omega, rwC_S (k := k35_3.toInt.toNat) (by omega), ← i_9, ← i_10, cif_f (fun q => by have q := (cq_mk (td := u_td.toInt) (f := k35_ro) (t := v_tp) (k := k35_3.toInt.toNat) hy_25 rfl rfl rfl (rfl)).mp q; exact i_29 q.2.1)]; omega), (by rw [show ((k35_3 + 4).toInt / 4).toNat = (k35_3.toInt / 4).toNat + 1 by omega, rwS_S (k := k35_3.toInt.toNat) (by omega), ← i_10, rw_stayN (fun q => by have q := (cq_mk (td := u_td.toInt) (f := k35_ro) (t := v_tp) (k := k35_3.toInt.toNat) hy_25 rfl rfl rfl (rfl)).mp q; exact i_29 q.2.1)])⟩
              ·
                exact absurd c_130 (by decide)
            ·
              exact absurd c_129 (by decide)
          ·
            exact absurd c_128 (by decide)
  ·
    have i_1 : u_td.toInt = 0 := by have z := g5_neN (a := u_td.toInt) (b := 0) (by rfl) (by decide) c_1; omega
    refine lv_aload_n hx hb dX12_row_19 rfl (lv_at hl 1 rfl) ?_
    refine lv_bipush (v := (-6)) hx hb dX12_row_20 (by decide) ?_
    obtain ⟨hPc, hDc, hFc⟩ := g5_sub3 (wc := [(b_o, (oc12 0 u_sa b_rf b_ro b_im b_ke u_fd b_tp 0 u_fr u_to u_so u_wo u_fa u_bd u_nc b_nl u_co b_op b_ar u_le b_pi b_pa u_pd u_od b_ws b_hw u_la b_se b_re u_bk u_va u_su u_ce u_ho u_wy u_bt u_ps b_pt u_tg u_sn b_ip u_ic b_ah b_be b_me u_wd b_tr b_ld u_st b_wn u_id)), (b_rf, (arI G 7 v_rf))]) hP hD hS hA [0, 1] (by decide) rfl
    refine va_calli (va_runV (As := [.int (-6)]) (rest := []) ⟨hx, hb, hml, hown, hts⟩ (n_tell6 l G b_o b_rf b_ro b_im b_ke b_tp b_nl b_op b_ar b_pi b_pa b_ws b_hw b_se b_re b_pt b_ip b_ah b_be b_me b_tr b_ld b_wn H.size 0 u_sa u_fd 0 u_fr u_to u_so u_fa u_bd u_nc u_co u_le u_pd u_od u_la u_bk u_ce u_ho u_wy u_bt u_ps u_tg u_sn u_ic u_wd u_id u_wo u_va u_su u_st v_rf ⟨by decide, by decide⟩ h_u_fr h_u_to h_u_bd h_u_nc h_u_co h_u_pd h_u_la h_u_bk h_u_ce h_u_ho h_u_wy h_u_bt h_u_ps h_u_ic h_u_id) (cwV 1 hts gV_X12_125 rfl rfl rfl hv_X12_tell ⟨Nat.le_of_ble_eq_true rfl, Nat.le_of_ble_eq_true rfl⟩) (g5_preV hPc hK hDc hN hT hS hFc (ci := 12) (q0 := 0) rfl rfl) rfl rfl hl.1 rfl (lv_room (Nat.le_of_ble_eq_true rfl)) dX12_row_22 ⟨Nat.le_of_ble_eq_true rfl, Nat.le_of_ble_eq_true rfl⟩) hS (fun q _ h => hFc q h) hFc (fun r u t H1 locs ht hvm hw hB hz1 hk1 hS => ?_)
    obtain ⟨hP1, hD1⟩ := hB
    rw [ht] at hP1
    obtain ⟨z134, z135, z136, i_133, rfl, rfl⟩ := hw
    have i_133 : 0 ≤ z135.toInt ∧ z135.toInt ≤ 1 := i_133
    obtain ⟨hP, hD⟩ := va_join (wr := [(b_ro, (arI G 5740 v_ro)), (b_tp, (arI G 400 v_tp))]) hP hD [0, 1] [2, 3] rfl rfl (by decide) (by decide) hk1 hFc hP1 hD1
    generalize H1 = H at hP hS ⊢
    refine g5_rs [(b_ro, (arI G 5740 v_ro)), (b_tp, (arI G 400 v_tp)), (b_o, (oc12 0 z134 b_rf b_ro b_im b_ke u_fd b_tp 0 u_fr u_to u_so u_wo u_fa u_bd u_nc b_nl u_co b_op b_ar u_le b_pi b_pa u_pd u_od b_ws b_hw u_la b_se b_re u_bk u_va u_su u_ce u_ho u_wy u_bt u_ps b_pt u_tg u_sn b_ip z135 b_ah b_be b_me u_wd b_tr b_ld u_st b_wn u_id)), (b_rf, (arI G 7 z136))] hP hD (fun hP hD => ?_)
    exact W.iret (v := (-6)) hx hb hr (fun t ht hW => ⟨⟨(-6), [(b_o, (oc12 0 z134 b_rf b_ro b_im b_ke u_fd b_tp 0 u_fr u_to u_so u_wo u_fa u_bd u_nc b_nl u_co b_op b_ar u_le b_pi b_pa u_pd u_od b_ws b_hw u_la b_se b_re u_bk u_va u_su u_ce u_ho u_wy u_bt u_ps b_pt u_tg u_sn b_ip z135 b_ah b_be b_me u_wd b_tr b_ld u_st b_wn u_id)), (b_rf, (arI G 7 z136)), (b_ro, (arI G 5740 v_ro)), (b_tp, (arI G 400 v_tp))], rfl, ⟨(-6), 0, z134, u_fd, 0, z135, z136, v_ro, r_ro, ⟨by have zc_o_td : (0 : Int32).toInt = 0 := (by decide); omega, by have zc_o_td : (0 : Int32).toInt = 0 := (by decide); omega⟩, i_133, by decide, rfl, (row_6 (t := v_tp) (td := u_td) (fd := u_fd) (f := v_ro) (by omega)).1.symm, (row_6 (t := v_tp) (td := u_td) (fd := u_fd) (f := v_ro) (by omega)).2.1.symm, (row_6 (t := v_tp) (td := u_td) (fd := u_fd) (f := v_ro) (by omega)).2.2.symm, rfl, rfl⟩, by rw [ht]; exact hP.sub [2, 3, 0, 1] rfl, hD.sub [2, 3, 0, 1] (by decide) rfl⟩, hS.F ht⟩) hS.2.2 dX12_row_25
