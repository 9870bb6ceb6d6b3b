set_option maxHeartbeats 4000000 in
set_option maxRecDepth 100000 in
theorem n_passes (l : Launch) (G : g5_G) (b_o b_ro b_se b_re b_rf b_im b_ke b_tp b_nl b_op b_ar b_pi b_pa b_ws b_hw b_pt b_ip b_ah b_be b_me b_tr b_ld b_wn : Nat) (sz : Nat) (u_th : Int32) (u_sa : Int32) (u_fd : Int32) (u_td : Int32) (u_fr : Int32) (u_to : Int32) (u_so : Int32) (u_fa : Int32) (u_bd : Int32) (u_nc : Int32) (u_co : Int32) (u_le : Int32) (u_pd : Int32) (u_od : Int32) (u_la : Int32) (u_bk : Int32) (u_ce : Int32) (u_ho : Int32) (u_wy : Int32) (u_bt : Int32) (u_ps : Int32) (u_tg : Int32) (u_sn : Int32) (u_ic : Int32) (u_wd : Int32) (u_id : Int32) (p_1 : Int32) (u_wo : Int64) (u_va : Int64) (u_su : Int64) (u_st : Int64) (v_ro : Nat → Int32) (v_se : Nat → Int64) (v_re : Nat → Int64) (h_u_td : 0 ≤ u_td.toInt ∧ u_td.toInt ≤ 400) (h_u_fr : 0 ≤ u_fr.toInt ∧ u_fr.toInt ≤ 400) (h_u_to : 0 ≤ u_to.toInt ∧ u_to.toInt ≤ 400) (h_u_bd : 0 ≤ u_bd.toInt ∧ u_bd.toInt ≤ 1) (h_u_nc : 0 ≤ u_nc.toInt ∧ u_nc.toInt ≤ 12) (h_u_co : 0 ≤ u_co.toInt ∧ u_co.toInt ≤ 400) (h_u_pd : 0 ≤ u_pd.toInt ∧ u_pd.toInt ≤ 400) (h_u_la : 0 ≤ u_la.toInt ∧ u_la.toInt ≤ 4840) (h_u_bk : 0 ≤ u_bk.toInt ∧ u_bk.toInt ≤ 1) (h_u_ce : 0 ≤ u_ce.toInt ∧ u_ce.toInt ≤ 63) (h_u_ho : 0 ≤ u_ho.toInt ∧ u_ho.toInt ≤ 23) (h_u_wy : 0 ≤ u_wy.toInt ∧ u_wy.toInt ≤ 3) (h_u_bt : 0 ≤ u_bt.toInt ∧ u_bt.toInt ≤ 1000000) (h_u_ps : 0 ≤ u_ps.toInt ∧ u_ps.toInt ≤ 200) (h_u_ic : 0 ≤ u_ic.toInt ∧ u_ic.toInt ≤ 1) (h_u_id : 0 ≤ u_id.toInt ∧ u_id.toInt ≤ 1) (r_ro : MI v_ro) : Met l yX12_passes (wsG yX12_passes cX12_passes 3 (some .boolean)) ({ frames := 5, cells := 0, slots := 0, locals := 128 }) (va_Pc [.ref b_o, .int p_1] (g5_P G [(b_o, (oc12 u_th u_sa b_rf b_ro b_im b_ke u_fd b_tp u_td u_fr u_to u_so u_wo u_fa u_bd u_nc b_nl u_co b_op b_ar u_le b_pi b_pa u_pd u_od b_ws b_hw u_la b_se b_re u_bk u_va u_su u_ce u_ho u_wy u_bt u_ps b_pt u_tg u_sn b_ip u_ic b_ah b_be b_me u_wd b_tr b_ld u_st b_wn u_id)), (b_ro, (arI G 5740 v_ro)), (b_se, (arJ G 13 v_se)), (b_re, (arJ G 400 v_re))] sz)) (va_Qi (fun (r : Int32) (u : va_W) => (∃ (o_r : Int32) (o_la : Int32) (o_bk : Int32) (o_va : Int64) (o_su : Int64) (o_ho : Int32) (o_wy : Int32) (o_bt : Int32) (o_tg : Int32) (o_se : Nat → Int64) (o_re : Nat → Int64), (0 ≤ o_r.toInt ∧ o_r.toInt ≤ 1) ∧ (0 ≤ o_la.toInt ∧ o_la.toInt ≤ 4840) ∧ (0 ≤ o_bk.toInt ∧ o_bk.toInt ≤ 1) ∧ (0 ≤ o_ho.toInt ∧ o_ho.toInt ≤ 23) ∧ (0 ≤ o_wy.toInt ∧ o_wy.toInt ≤ 3) ∧ (0 ≤ o_bt.toInt ∧ o_bt.toInt ≤ 1000000) ∧ (r = o_r) ∧ (u = [(b_o, (oc12 u_th u_sa b_rf b_ro b_im b_ke u_fd b_tp u_td u_fr u_to u_so u_wo u_fa u_bd u_nc b_nl u_co b_op b_ar u_le b_pi b_pa u_pd u_od b_ws b_hw o_la b_se b_re o_bk o_va o_su u_ce o_ho o_wy o_bt u_ps b_pt o_tg u_sn b_ip u_ic b_ah b_be b_me u_wd b_tr b_ld u_st b_wn u_id)), (b_ro, (arI G 5740 v_ro)), (b_se, (arJ G 13 o_se)), (b_re, (arJ G 400 o_re))]))) (g5_B G (va_A [(b_o, (oc12 u_th u_sa b_rf b_ro b_im b_ke u_fd b_tp u_td u_fr u_to u_so u_wo u_fa u_bd u_nc b_nl u_co b_op b_ar u_le b_pi b_pa u_pd u_od b_ws b_hw u_la b_se b_re u_bk u_va u_su u_ce u_ho u_wy u_bt u_ps b_pt u_tg u_sn b_ip u_ic b_ah b_be b_me u_wd b_tr b_ld u_st b_wn u_id)), (b_ro, (arI G 5740 v_ro)), (b_se, (arJ G 13 v_se)), (b_re, (arJ G 400 v_re))] sz)) (va_A [(b_o, (oc12 u_th u_sa b_rf b_ro b_im b_ke u_fd b_tp u_td u_fr u_to u_so u_wo u_fa u_bd u_nc b_nl u_co b_op b_ar u_le b_pi b_pa u_pd u_od b_ws b_hw u_la b_se b_re u_bk u_va u_su u_ce u_ho u_wy u_bt u_ps b_pt u_tg u_sn b_ip u_ic b_ah b_be b_me u_wd b_tr b_ld u_st b_wn u_id)), (b_ro, (arI G 5740 v_ro)), (b_se, (arJ G 13 v_se)), (b_re, (arJ G 400 v_re))] sz)) 0 0 (va_A [(b_o, (oc12 u_th u_sa b_rf b_ro b_im b_ke u_fd b_tp u_td u_fr u_to u_so u_wo u_fa u_bd u_nc b_nl u_co b_op b_ar u_le b_pi b_pa u_pd u_od b_ws b_hw u_la b_se b_re u_bk u_va u_su u_ce u_ho u_wy u_bt u_ps b_pt u_tg u_sn b_ip u_ic b_ah b_be b_me u_wd b_tr b_ld u_st b_wn u_id)), (b_ro, (arI G 5740 v_ro)), (b_se, (arJ G 13 v_se)), (b_re, (arJ G 400 v_re))] sz) := by
  refine Met.ofW (cc := cX12_passes) (maxL := 3) (ret := (some .boolean)) (by decide) rfl ?_
  intro p e s m args below meth c s₁ B hml hv
  obtain ⟨rfl, hsz, hP, hK, hD0, hN, hT⟩ := hv
  have hx := B.exec
  have hb := B.bytes
  have hr := B.returns
  have hts : ∀ w ∈ tblG, w.before _ s = true := fun w h => atoms_spec (ws := (wsG yX12_passes cX12_passes 3 (some .boolean))) B.pre w (List.mem_cons_of_mem _ h)
  have hown : s.vm.findClass RX12 = some m.cls := findClass_of_methodNamed B.named
  have hlocks := B.notSynchronized
  subst hsz
  have hD := hD0.self (sz := s.heap.size)
  generalize hAe : va_A [(b_o, (oc12 u_th u_sa b_rf b_ro b_im b_ke u_fd b_tp u_td u_fr u_to u_so u_wo u_fa u_bd u_nc b_nl u_co b_op b_ar u_le b_pi b_pa u_pd u_od b_ws b_hw u_la b_se b_re u_bk u_va u_su u_ce u_ho u_wy u_bt u_ps b_pt u_tg u_sn b_ip u_ic b_ah b_be b_me u_wd b_tr b_ld u_st b_wn u_id)), (b_ro, (arI G 5740 v_ro)), (b_se, (arJ G 13 v_se)), (b_re, (arJ G 400 v_re))] s.heap.size = A at hD hT ⊢
  have hA : ∀ q : Nat, s.heap.size ≤ q → A q := fun q h => by rw [← hAe]; exact Or.inr h
  have hS : va_S A s.heap s.heap [] := va_S.rf
  have hP : va_P G.1 vwCl [(b_o, (oc12 u_th u_sa b_rf b_ro b_im b_ke u_fd b_tp u_td u_fr u_to u_so u_wo u_fa u_bd u_nc b_nl u_co b_op b_ar u_le b_pi b_pa u_pd u_od b_ws b_hw u_la b_se b_re u_bk u_va u_su u_ce u_ho u_wy u_bt u_ps b_pt u_tg u_sn b_ip u_ic b_ah b_be b_me u_wd b_tr b_ld u_st b_wn u_id)), (b_ro, (arI G 5740 v_ro)), (b_se, (arJ G 13 v_se)), (b_re, (arJ G 400 v_re))] s.heap := hP
  have hl := lv_entry ([.ref b_o, .int p_1]) (n := 3) (Nat.le_of_ble_eq_true rfl)
  rw [lg_entry_eq]
  generalize (lg_sl ([.ref b_o, .int p_1]) ++ List.replicate (3 - (lg_sl ([.ref b_o, .int p_1])).length) Slot.unset).toArray = ls at hl ⊢
  have hl : lv_has ls 3 [(0, .ref b_o), (1, .int p_1)] := hl
  refine lv_iconst (v := 0) hx hb dX12_passes_0 (by decide) ?_
  refine lv_istore_n (lv' := [(2, .int 0), (0, .ref b_o), (1, .int p_1)]) hx hb dX12_passes_1 rfl hl (by decide) rfl (fun ls hl => ?_)
  refine g5_loop (α := (Int32) × (Int32) × (Int32) × (Int64) × (Int64) × (Int32) × (Int32) × (Int32) × (Int32) × (Nat → Int64) × (Nat → Int64)) (fun (q : (Int32) × (Int32) × (Int32) × (Int64) × (Int64) × (Int32) × (Int32) × (Int32) × (Int32) × (Nat → Int64) × (Nat → Int64)) (ls : Array Slot) (H : Heap) (locs : List Loc) => match q with | (k2_2, k2_la, k2_bk, k2_va, k2_su, k2_ho, k2_wy, k2_bt, k2_tg, k2_se, k2_re) => lv_has ls 3 [(2, .int k2_2), (0, .ref b_o), (1, .int p_1)] ∧ va_P G.1 vwCl [(b_o, (oc12 u_th u_sa b_rf b_ro b_im b_ke u_fd b_tp u_td u_fr u_to u_so u_wo u_fa u_bd u_nc b_nl u_co b_op b_ar u_le b_pi b_pa u_pd u_od b_ws b_hw k2_la b_se b_re k2_bk k2_va k2_su u_ce k2_ho k2_wy k2_bt u_ps b_pt k2_tg u_sn b_ip u_ic b_ah b_be b_me u_wd b_tr b_ld u_st b_wn u_id)), (b_ro, (arI G 5740 v_ro)), (b_se, (arJ G 13 k2_se)), (b_re, (arJ G 400 k2_re))] H ∧ va_D A [(b_o, (oc12 u_th u_sa b_rf b_ro b_im b_ke u_fd b_tp u_td u_fr u_to u_so u_wo u_fa u_bd u_nc b_nl u_co b_op b_ar u_le b_pi b_pa u_pd u_od b_ws b_hw k2_la b_se b_re k2_bk k2_va k2_su u_ce k2_ho k2_wy k2_bt u_ps b_pt k2_tg u_sn b_ip u_ic b_ah b_be b_me u_wd b_tr b_ld u_st b_wn u_id)), (b_ro, (arI G 5740 v_ro)), (b_se, (arJ G 13 k2_se)), (b_re, (arJ G 400 k2_re))] ∧ va_S A s.heap H locs ∧ (0 ≤ k2_2.toInt ∧ k2_2.toInt ≤ 6) ∧ (0 ≤ k2_la.toInt ∧ k2_la.toInt ≤ 4840) ∧ (0 ≤ k2_bk.toInt ∧ k2_bk.toInt ≤ 1) ∧ (0 ≤ k2_ho.toInt ∧ k2_ho.toInt ≤ 23) ∧ (0 ≤ k2_wy.toInt ∧ k2_wy.toInt ≤ 3) ∧ (0 ≤ k2_bt.toInt ∧ k2_bt.toInt ≤ 1000000)) (fun (q : (Int32) × (Int32) × (Int32) × (Int64) × (Int64) × (Int32) × (Int32) × (Int32) × (Int32) × (Nat → Int64) × (Nat → Int64)) => match q with | (k2_2, k2_la, k2_bk, k2_va, k2_su, k2_ho, k2_wy, k2_bt, k2_tg, k2_se, k2_re) => Int.toNat (6 - k2_2.toInt)) (0, u_la, u_bk, u_va, u_su, u_ho, u_wy, u_bt, u_tg, v_se, v_re) ⟨lv_sub hl [0, 1, 2] rfl, hP, hD, hS, ⟨by decide, by decide⟩, h_u_la, h_u_bk, h_u_ho, h_u_wy, h_u_bt⟩ ?_
  rintro ⟨k2_2, k2_la, k2_bk, k2_va, k2_su, k2_ho, k2_wy, k2_bt, k2_tg, k2_se, k2_re⟩ ls H locs ⟨hl, hP, hD, hS, i_1, i_2, i_3, i_4, i_5, i_6⟩ ih_2_7
  have hl : lv_has ls 3 [(2, .int k2_2), (0, .ref b_o), (1, .int p_1)] := hl
  have i_1 : 0 ≤ k2_2.toInt ∧ k2_2.toInt ≤ 6 := i_1
  have i_2 : 0 ≤ k2_la.toInt ∧ k2_la.toInt ≤ 4840 := i_2
  have i_3 : 0 ≤ k2_bk.toInt ∧ k2_bk.toInt ≤ 1 := i_3
  have i_4 : 0 ≤ k2_ho.toInt ∧ k2_ho.toInt ≤ 23 := i_4
  have i_5 : 0 ≤ k2_wy.toInt ∧ k2_wy.toInt ≤ 3 := i_5
  have i_6 : 0 ≤ k2_bt.toInt ∧ k2_bt.toInt ≤ 1000000 := i_6
  refine g5_rs [(b_o, (oc12 u_th u_sa b_rf b_ro b_im b_ke u_fd b_tp u_td u_fr u_to u_so u_wo u_fa u_bd u_nc b_nl u_co b_op b_ar u_le b_pi b_pa u_pd u_od b_ws b_hw k2_la b_se b_re k2_bk k2_va k2_su u_ce k2_ho k2_wy k2_bt u_ps b_pt k2_tg u_sn b_ip u_ic b_ah b_be b_me u_wd b_tr b_ld u_st b_wn u_id)), (b_ro, (arI G 5740 v_ro)), (b_se, (arJ G 13 k2_se)), (b_re, (arJ G 400 k2_re))] hP hD (fun hP hD => ?_)
  refine lv_iload_n hx hb dX12_passes_2 rfl (lv_at hl 0 rfl) ?_
  refine lv_aload_n hx hb dX12_passes_3 rfl (lv_at hl 1 rfl) ?_
  refine va_get (D := G.1) (ci := 12) (v := .ref b_ro) (C := RX12) (T := TX12) (N := 52) hx hb hts inG_X12 hown hK hP 0 rfl rfl 3 (by decide) (hts _ fl_X12_13) (fun _ h9 => h9) rfl dX12_passes_4 ?_
  refine lv_iconst (v := 0) hx hb dX12_passes_7 (by decide) ?_
  refine va_iald hx hb hK hP 1 0 rfl rfl (i := 0) (by unfold vp_in; decide) dX12_passes_8 ?_
  refine g5_ti (v := (v_ro 0)) rfl ?_
  have hr_8 : 0 ≤ (v_ro 0).toInt ∧ (v_ro 0).toInt ≤ 6 := mi_0 r_ro
  refine lv_icmp_ge (tgt := 68) hx hb dX12_passes_9 (by decide) (fun c_9 => ?_) (fun c_9 => ?_)
  ·
    have i_9 : k2_2.toInt ≥ (v_ro 0).toInt := by have z := g5_ge (a := k2_2.toInt) (b := (v_ro 0).toInt) (by rfl) (by rfl) c_9; omega
    refine lv_iconst (v := 0) hx hb dX12_passes_68 (by decide) ?_
    refine lv_istore_n (lv' := [(2, .int 0), (0, .ref b_o), (1, .int p_1)]) hx hb dX12_passes_69 rfl hl (by decide) rfl (fun ls hl => ?_)
    refine g5_loop (α := (Int32) × (Int32) × (Int32) × (Int64) × (Int64) × (Int32) × (Int32) × (Int32) × (Int32) × (Nat → Int64) × (Nat → Int64)) (fun (q : (Int32) × (Int32) × (Int32) × (Int64) × (Int64) × (Int32) × (Int32) × (Int32) × (Int32) × (Nat → Int64) × (Nat → Int64)) (ls : Array Slot) (H : Heap) (locs : List Loc) => match q with | (k70_2, k70_la, k70_bk, k70_va, k70_su, k70_ho, k70_wy, k70_bt, k70_tg, k70_se, k70_re) => lv_has ls 3 [(2, .int k70_2), (0, .ref b_o), (1, .int p_1)] ∧ va_P G.1 vwCl [(b_o, (oc12 u_th u_sa b_rf b_ro b_im b_ke u_fd b_tp u_td u_fr u_to u_so u_wo u_fa u_bd u_nc b_nl u_co b_op b_ar u_le b_pi b_pa u_pd u_od b_ws b_hw k70_la b_se b_re k70_bk k70_va k70_su u_ce k70_ho k70_wy k70_bt u_ps b_pt k70_tg u_sn b_ip u_ic b_ah b_be b_me u_wd b_tr b_ld u_st b_wn u_id)), (b_ro, (arI G 5740 v_ro)), (b_se, (arJ G 13 k70_se)), (b_re, (arJ G 400 k70_re))] H ∧ va_D A [(b_o, (oc12 u_th u_sa b_rf b_ro b_im b_ke u_fd b_tp u_td u_fr u_to u_so u_wo u_fa u_bd u_nc b_nl u_co b_op b_ar u_le b_pi b_pa u_pd u_od b_ws b_hw k70_la b_se b_re k70_bk k70_va k70_su u_ce k70_ho k70_wy k70_bt u_ps b_pt k70_tg u_sn b_ip u_ic b_ah b_be b_me u_wd b_tr b_ld u_st b_wn u_id)), (b_ro, (arI G 5740 v_ro)), (b_se, (arJ G 13 k70_se)), (b_re, (arJ G 400 k70_re))] ∧ va_S A s.heap H locs ∧ (0 ≤ k70_2.toInt ∧ k70_2.toInt ≤ 8) ∧ (0 ≤ k70_la.toInt ∧ k70_la.toInt ≤ 4840) ∧ (0 ≤ k70_bk.toInt ∧ k70_bk.toInt ≤ 1) ∧ (0 ≤ k70_ho.toInt ∧ k70_ho.toInt ≤ 23) ∧ (0 ≤ k70_wy.toInt ∧ k70_wy.toInt ≤ 3) ∧ (0 ≤ k70_bt.toInt ∧ k70_bt.toInt ≤ 1000000)) (fun (q : (Int32) × (Int32) × (Int32) × (Int64) × (Int64) × (Int32) × (Int32) × (Int32) × (Int32) × (Nat → Int64) × (Nat → Int64)) => match q with | (k70_2, k70_la, k70_bk, k70_va, k70_su, k70_ho, k70_wy, k70_bt, k70_tg, k70_se, k70_re) => Int.toNat (8 - k70_2.toInt)) (0, k2_la, k2_bk, k2_va, k2_su, k2_ho, k2_wy, k2_bt, k2_tg, k2_se, k2_re) ⟨lv_sub hl [0, 1, 2] rfl, hP, hD, hS, ⟨by decide, by decide⟩, i_2, i_3, i_4, i_5, i_6⟩ ?_
    rintro ⟨k70_2, k70_la, k70_bk, k70_va, k70_su, k70_ho, k70_wy, k70_bt, k70_tg, k70_se, k70_re⟩ ls H locs ⟨hl, hP, hD, hS, i_10, i_11, i_12, i_13, i_14, i_15⟩ ih_70_16
    have hl : lv_has ls 3 [(2, .int k70_2), (0, .ref b_o), (1, .int p_1)] := hl
    have i_10 : 0 ≤ k70_2.toInt ∧ k70_2.toInt ≤ 8 := i_10
    have i_11 : 0 ≤ k70_la.toInt ∧ k70_la.toInt ≤ 4840 := i_11
    have i_12 : 0 ≤ k70_bk.toInt ∧ k70_bk.toInt ≤ 1 := i_12
    have i_13 : 0 ≤ k70_ho.toInt ∧ k70_ho.toInt ≤ 23 := i_13
    have i_14 : 0 ≤ k70_wy.toInt ∧ k70_wy.toInt ≤ 3 := i_14
    have i_15 : 0 ≤ k70_bt.toInt ∧ k70_bt.toInt ≤ 1000000 := i_15
    refine g5_rs [(b_o, (oc12 u_th u_sa b_rf b_ro b_im b_ke u_fd b_tp u_td u_fr u_to u_so u_wo u_fa u_bd u_nc b_nl u_co b_op b_ar u_le b_pi b_pa u_pd u_od b_ws b_hw k70_la b_se b_re k70_bk k70_va k70_su u_ce k70_ho k70_wy k70_bt u_ps b_pt k70_tg u_sn b_ip u_ic b_ah b_be b_me u_wd b_tr b_ld u_st b_wn u_id)), (b_ro, (arI G 5740 v_ro)), (b_se, (arJ G 13 k70_se)), (b_re, (arJ G 400 k70_re))] hP hD (fun hP hD => ?_)
    refine lv_iload_n hx hb dX12_passes_70 rfl (lv_at hl 0 rfl) ?_
    refine lv_aload_n hx hb dX12_passes_71 rfl (lv_at hl 1 rfl) ?_
    refine va_get (D := G.1) (ci := 12) (v := .ref b_ro) (C := RX12) (T := TX12) (N := 52) hx hb hts inG_X12 hown hK hP 0 rfl rfl 3 (by decide) (hts _ fl_X12_13) (fun _ h9 => h9) rfl dX12_passes_72 ?_
    refine lv_bipush (v := 7) hx hb dX12_passes_75 (by decide) ?_
    refine va_iald hx hb hK hP 1 0 rfl rfl (i := 7) (by unfold vp_in; decide) dX12_passes_77 ?_
    refine g5_ti (v := (v_ro 7)) rfl ?_
    have hr_17 : 0 ≤ (v_ro 7).toInt ∧ (v_ro 7).toInt ≤ 8 := mi_7 r_ro
    refine lv_icmp_ge (tgt := 153) hx hb dX12_passes_78 (by decide) (fun c_18 => ?_) (fun c_18 => ?_)
    ·
      have i_18 : k70_2.toInt ≥ (v_ro 7).toInt := by have z := g5_ge (a := k70_2.toInt) (b := (v_ro 7).toInt) (by rfl) (by rfl) c_18; omega
      refine lv_iconst (v := 1) hx hb dX12_passes_153 (by decide) ?_
      exact W.zret (v := 1) hx hb hr rfl (fun t ht hW => ⟨⟨1, [(b_o, (oc12 u_th u_sa b_rf b_ro b_im b_ke u_fd b_tp u_td u_fr u_to u_so u_wo u_fa u_bd u_nc b_nl u_co b_op b_ar u_le b_pi b_pa u_pd u_od b_ws b_hw k70_la b_se b_re k70_bk k70_va k70_su u_ce k70_ho k70_wy k70_bt u_ps b_pt k70_tg u_sn b_ip u_ic b_ah b_be b_me u_wd b_tr b_ld u_st b_wn u_id)), (b_ro, (arI G 5740 v_ro)), (b_se, (arJ G 13 k70_se)), (b_re, (arJ G 400 k70_re))], rfl, ⟨1, k70_la, k70_bk, k70_va, k70_su, k70_ho, k70_wy, k70_bt, k70_tg, k70_se, k70_re, ⟨by have zc_o_r : (1 : Int32).toInt = 1 := (by decide); omega, by have zc_o_r : (1 : Int32).toInt = 1 := (by decide); omega⟩, i_11, i_12, i_13, i_14, i_15, rfl, rfl⟩, by rw [ht]; exact hP.sub [0, 1, 2, 3] rfl, hD.sub [0, 1, 2, 3] (by decide) rfl⟩, hS.F ht⟩) hS.2.2 dX12_passes_154
    ·
      have i_18 : k70_2.toInt < (v_ro 7).toInt := by have z := g5_geN (a := k70_2.toInt) (b := (v_ro 7).toInt) (by rfl) (by rfl) c_18; omega
      refine lv_iload_n hx hb dX12_passes_81 rfl (lv_at hl 2 rfl) ?_
      refine lv_iload_n hx hb dX12_passes_82 rfl (lv_at hl 0 rfl) ?_
      obtain ⟨hPc, hDc, hFc⟩ := g5_sub3 (wc := []) hP hD hS hA [] (by decide) rfl
      refine va_calli (va_runS (As := [.int p_1, .int k70_2]) (rest := []) ⟨hx, hb, hml, hown, hts⟩ (n_is l G H.size p_1 k70_2) (va_cwS 2 hts gS_X12_387 rfl rfl rfl hs_X12_is ⟨Nat.le_of_ble_eq_true rfl, Nat.le_of_ble_eq_true rfl⟩) (g5_preS hPc hK hDc hN hT hS hFc) rfl rfl hl.1 rfl (lv_room (Nat.le_of_ble_eq_true rfl)) dX12_passes_83 ⟨Nat.le_of_ble_eq_true rfl, Nat.le_of_ble_eq_true rfl⟩) hS (fun q _ h => hFc q h) hFc (fun r u t H1 locs ht hvm hw hB hz1 hk1 hS => ?_)
      obtain ⟨hP1, hD1⟩ := hB
      rw [ht] at hP1
      obtain ⟨z20, i_19, y21, rfl⟩ := hw
      have i_19 : 0 ≤ z20.toInt ∧ z20.toInt ≤ 1 := i_19
      have hP := g5_same hP hk1
      generalize H1 = H at hP hS ⊢
      refine g5_ti (v := z20) y21 ?_
      refine lv_if_eq (tgt := 147) hx hb dX12_passes_86 (by decide) (fun c_22 => ?_) (fun c_22 => ?_)
      ·
        have i_22 : z20.toInt = 0 := by have z := g5_eq (a := z20.toInt) (b := 0) (by rfl) (by decide) c_22; omega
        refine lv_iinc (v := (k70_2 + 1)) (lv' := [(2, .int (k70_2 + 1)), (0, .ref b_o), (1, .int p_1)]) hx hb dX12_passes_147 hl (k := 0) rfl rfl (by decide) rfl (fun ls hl => ?_)
        have t_23 : (k70_2 + 1).toInt = k70_2.toInt + 1 := g5_iadd (a := k70_2.toInt) (b := 1) rfl (by decide) (by omega) (by omega)
        refine lv_goto (tgt := 70) hx hb dX12_passes_150 (by decide) ?_
        exact ih_70_16 ((k70_2 + 1), k70_la, k70_bk, k70_va, k70_su, k70_ho, k70_wy, k70_bt, k70_tg, k70_se, k70_re) ls H locs (show Int.toNat (8 - (k70_2 + 1).toInt) < Int.toNat (8 - k70_2.toInt) from g_up (show k70_2.toInt < (k70_2 + 1).toInt by omega) (show k70_2.toInt < 8 by omega)) ⟨lv_sub hl [0, 1, 2] rfl, hP, hD, hS, ⟨by omega, by omega⟩, i_11, i_12, i_13, i_14, i_15⟩
      ·
        have n_22 : gNe (z20.toInt) (0) := by have z := g5_eqN (a := z20.toInt) (b := 0) (by rfl) (by decide) c_22; unfold gNe; omega
        have i_22 : z20.toInt ≥ 1 := by have z := g5_eqN (a := z20.toInt) (b := 0) (by rfl) (by decide) c_22; omega
        refine lv_aload_n hx hb dX12_passes_89 rfl (lv_at hl 1 rfl) ?_
        refine va_get (D := G.1) (ci := 12) (v := .ref b_ro) (C := RX12) (T := TX12) (N := 52) hx hb hts inG_X12 hown hK hP 0 rfl rfl 3 (by decide) (hts _ fl_X12_13) (fun _ h9 => h9) rfl dX12_passes_90 ?_
        refine lv_sipush (v := 270) hx hb dX12_passes_93 (by decide) ?_
        refine lv_iconst (v := 3) hx hb dX12_passes_96 (by decide) ?_
        refine lv_iload_n hx hb dX12_passes_97 rfl (lv_at hl 0 rfl) ?_
        refine lv_imul hx hb dX12_passes_98 ?_
        have t_24 : (3 * k70_2).toInt = 3 * k70_2.toInt := g5_imul (a := 3) (b := k70_2.toInt) (by decide) (by rfl) (by omega) (by omega)
        refine lv_iadd hx hb dX12_passes_99 ?_
        have t_25 : (270 + (3 * k70_2)).toInt = 270 + (3 * k70_2).toInt := g5_iadd (a := 270) (b := (3 * k70_2).toInt) (by decide) (by rfl) (by omega) (by omega)
        refine va_iald hx hb hK hP 1 0 rfl rfl (i := (270 + (3 * k70_2))) (vp_in_iff.mpr ⟨by omega, by omega⟩) dX12_passes_100 ?_
        refine lv_aload_n hx hb dX12_passes_101 rfl (lv_at hl 1 rfl) ?_
        refine va_get (D := G.1) (ci := 12) (v := .int u_ce) (C := RX12) (T := TX12) (N := 52) hx hb hts inG_X12 hown hK hP 0 rfl rfl 33 (by decide) (hts _ fl_X12_349) (fun _ h9 => h9) rfl dX12_passes_102 ?_
        refine lv_icmp_ne (tgt := 147) hx hb dX12_passes_105 (by decide) (fun c_26 => ?_) (fun c_26 => ?_)
        ·
          have n_26 : gNe ((v_ro (270 + (3 * k70_2)).toNatClampNeg).toInt) (u_ce.toInt) := by have z := g5_ne (a := (v_ro (270 + (3 * k70_2)).toNatClampNeg).toInt) (b := u_ce.toInt) (by rfl) (by rfl) c_26; unfold gNe; omega
          refine lv_iinc (v := (k70_2 + 1)) (lv' := [(2, .int (k70_2 + 1)), (0, .ref b_o), (1, .int p_1)]) hx hb dX12_passes_147 hl (k := 0) rfl rfl (by decide) rfl (fun ls hl => ?_)
          have t_27 : (k70_2 + 1).toInt = k70_2.toInt + 1 := g5_iadd (a := k70_2.toInt) (b := 1) rfl (by decide) (by omega) (by omega)
          refine lv_goto (tgt := 70) hx hb dX12_passes_150 (by decide) ?_
          exact ih_70_16 ((k70_2 + 1), k70_la, k70_bk, k70_va, k70_su, k70_ho, k70_wy, k70_bt, k70_tg, k70_se, k70_re) ls H locs (show Int.toNat (8 - (k70_2 + 1).toInt) < Int.toNat (8 - k70_2.toInt) from g_up (show k70_2.toInt < (k70_2 + 1).toInt by omega) (show k70_2.toInt < 8 by omega)) ⟨lv_sub hl [0, 1, 2] rfl, hP, hD, hS, ⟨by omega, by omega⟩, i_11, i_12, i_13, i_14, i_15⟩
        ·
          have i_26 : (v_ro (270 + (3 * k70_2)).toNatClampNeg).toInt = u_ce.toInt := by have z := g5_neN (a := (v_ro (270 + (3 * k70_2)).toNatClampNeg).toInt) (b := u_ce.toInt) (by rfl) (by rfl) c_26; omega
          refine lv_aload_n hx hb dX12_passes_108 rfl (lv_at hl 1 rfl) ?_
          refine lv_bipush (v := 6) hx hb dX12_passes_109 (by decide) ?_
          refine lv_iload_n hx hb dX12_passes_111 rfl (lv_at hl 0 rfl) ?_
          refine lv_iadd hx hb dX12_passes_112 ?_
          have t_28 : (6 + k70_2).toInt = 6 + k70_2.toInt := g5_iadd (a := 6) (b := k70_2.toInt) (by decide) (by rfl) (by omega) (by omega)
          refine lv_aload_n hx hb dX12_passes_113 rfl (lv_at hl 1 rfl) ?_
          refine va_get (D := G.1) (ci := 12) (v := .ref b_ro) (C := RX12) (T := TX12) (N := 52) hx hb hts inG_X12 hown hK hP 0 rfl rfl 3 (by decide) (hts _ fl_X12_13) (fun _ h9 => h9) rfl dX12_passes_114 ?_
          refine lv_sipush (v := 270) hx hb dX12_passes_117 (by decide) ?_
          refine lv_iconst (v := 3) hx hb dX12_passes_120 (by decide) ?_
          refine lv_iload_n hx hb dX12_passes_121 rfl (lv_at hl 0 rfl) ?_
          refine lv_imul hx hb dX12_passes_122 ?_
          have t_29 : (3 * k70_2).toInt = 3 * k70_2.toInt := g5_imul (a := 3) (b := k70_2.toInt) (by decide) (by rfl) (by omega) (by omega)
          refine lv_iadd hx hb dX12_passes_123 ?_
          have t_30 : (270 + (3 * k70_2)).toInt = 270 + (3 * k70_2).toInt := g5_iadd (a := 270) (b := (3 * k70_2).toInt) (by decide) (by rfl) (by omega) (by omega)
          refine lv_iconst (v := 1) hx hb dX12_passes_124 (by decide) ?_
          refine lv_iadd hx hb dX12_passes_125 ?_
          have t_31 : ((270 + (3 * k70_2)) + 1).toInt = (270 + (3 * k70_2)).toInt + 1 := g5_iadd (a := (270 + (3 * k70_2)).toInt) (b := 1) (by rfl) (by decide) (by omega) (by omega)
          refine va_iald hx hb hK hP 1 0 rfl rfl (i := ((270 + (3 * k70_2)) + 1)) (vp_in_iff.mpr ⟨by omega, by omega⟩) dX12_passes_126 ?_
          have hv_32 : 0 ≤ (v_ro ((270 + (3 * k70_2)) + 1).toNatClampNeg).toInt ∧ (v_ro ((270 + (3 * k70_2)) + 1).toNatClampNeg).toInt ≤ 5 := mi_270_1 r_ro (by have zz := g5_clamp ((270 + (3 * k70_2)) + 1); omega) (by have zz := g5_clamp ((270 + (3 * k70_2)) + 1); omega) (by have zz := g5_clamp ((270 + (3 * k70_2)) + 1); omega)
          refine lv_aload_n hx hb dX12_passes_127 rfl (lv_at hl 1 rfl) ?_
          refine va_get (D := G.1) (ci := 12) (v := .ref b_ro) (C := RX12) (T := TX12) (N := 52) hx hb hts inG_X12 hown hK hP 0 rfl rfl 3 (by decide) (hts _ fl_X12_13) (fun _ h9 => h9) rfl dX12_passes_128 ?_
          refine lv_sipush (v := 270) hx hb dX12_passes_131 (by decide) ?_
          refine lv_iconst (v := 3) hx hb dX12_passes_134 (by decide) ?_
          refine lv_iload_n hx hb dX12_passes_135 rfl (lv_at hl 0 rfl) ?_
          refine lv_imul hx hb dX12_passes_136 ?_
          have t_33 : (3 * k70_2).toInt = 3 * k70_2.toInt := g5_imul (a := 3) (b := k70_2.toInt) (by decide) (by rfl) (by omega) (by omega)
          refine lv_iadd hx hb dX12_passes_137 ?_
          have t_34 : (270 + (3 * k70_2)).toInt = 270 + (3 * k70_2).toInt := g5_iadd (a := 270) (b := (3 * k70_2).toInt) (by decide) (by rfl) (by omega) (by omega)
          refine lv_iconst (v := 2) hx hb dX12_passes_138 (by decide) ?_
          refine lv_iadd hx hb dX12_passes_139 ?_
          have t_35 : ((270 + (3 * k70_2)) + 2).toInt = (270 + (3 * k70_2)).toInt + 2 := g5_iadd (a := (270 + (3 * k70_2)).toInt) (b := 2) (by rfl) (by decide) (by omega) (by omega)
          refine va_iald hx hb hK hP 1 0 rfl rfl (i := ((270 + (3 * k70_2)) + 2)) (vp_in_iff.mpr ⟨by omega, by omega⟩) dX12_passes_140 ?_
          have hv_36 : 0 ≤ (v_ro ((270 + (3 * k70_2)) + 2).toNatClampNeg).toInt ∧ (v_ro ((270 + (3 * k70_2)) + 2).toNatClampNeg).toInt ≤ 23 := mi_270_2 r_ro (by have zz := g5_clamp ((270 + (3 * k70_2)) + 2); omega) (by have zz := g5_clamp ((270 + (3 * k70_2)) + 2); omega) (by have zz := g5_clamp ((270 + (3 * k70_2)) + 2); omega)
          refine lv_iconst (v := 0) hx hb dX12_passes_141 (by decide) ?_
          refine lv_iconst (v := 0) hx hb dX12_passes_142 (by decide) ?_
          obtain ⟨hPc, hDc, hFc⟩ := g5_sub3 (wc := [(b_o, (oc12 u_th u_sa b_rf b_ro b_im b_ke u_fd b_tp u_td u_fr u_to u_so u_wo u_fa u_bd u_nc b_nl u_co b_op b_ar u_le b_pi b_pa u_pd u_od b_ws b_hw k70_la b_se b_re k70_bk k70_va k70_su u_ce k70_ho k70_wy k70_bt u_ps b_pt k70_tg u_sn b_ip u_ic b_ah b_be b_me u_wd b_tr b_ld u_st b_wn u_id)), (b_ro, (arI G 5740 v_ro)), (b_se, (arJ G 13 k70_se)), (b_re, (arJ G 400 k70_re))]) hP hD hS hA [0, 1, 2, 3] (by decide) rfl
          refine va_calli (va_runV (As := [.int (6 + k70_2), .int (v_ro ((270 + (3 * k70_2)) + 1).toNatClampNeg), .int (v_ro ((270 + (3 * k70_2)) + 2).toNatClampNeg), .int 0, .int 0]) (rest := []) ⟨hx, hb, hml, hown, hts⟩ (n_turns l G b_o b_ro b_se b_re b_rf b_im b_ke b_tp b_nl b_op b_ar b_pi b_pa b_ws b_hw b_pt b_ip b_ah b_be b_me b_tr b_ld b_wn H.size u_th u_sa u_fd u_td u_fr u_to u_so u_fa u_bd u_nc u_co u_le u_pd u_od k70_la k70_bk u_ce k70_ho k70_wy k70_bt u_ps k70_tg u_sn u_ic u_wd u_id (6 + k70_2) (v_ro ((270 + (3 * k70_2)) + 1).toNatClampNeg) (v_ro ((270 + (3 * k70_2)) + 2).toNatClampNeg) 0 0 u_wo k70_va k70_su u_st v_ro k70_se k70_re h_u_td h_u_fr h_u_to h_u_bd h_u_nc h_u_co h_u_pd i_11 i_12 h_u_ce i_13 i_14 i_15 h_u_ps h_u_ic h_u_id ⟨by omega, by omega⟩ ⟨by omega, by omega⟩ ⟨by decide, by decide⟩ ⟨by decide, by decide⟩ (r_ro)) (cwV 5 hts gV_X12_390 rfl rfl rfl hv_X12_turns ⟨Nat.le_of_ble_eq_true rfl, Nat.le_of_ble_eq_true rfl⟩) (g5_preV hPc hK hDc hN hT hS hFc (ci := 12) (q0 := 0) rfl rfl) rfl rfl hl.1 rfl (lv_room (Nat.le_of_ble_eq_true rfl)) dX12_passes_143 ⟨Nat.le_of_ble_eq_true rfl, Nat.le_of_ble_eq_true rfl⟩) hS (fun q _ h => hFc q h) hFc (fun r u t H1 locs ht hvm hw hB hz1 hk1 hS => ?_)
          obtain ⟨hP1, hD1⟩ := hB
          rw [ht] at hP1
          obtain ⟨z43, z44, z45, z46, z47, z48, z49, z50, z51, z52, z53, i_37, i_38, i_39, i_40, i_41, i_42, y54, rfl⟩ := hw
          have i_37 : 0 ≤ z43.toInt ∧ z43.toInt ≤ 1 := i_37
          have i_38 : 0 ≤ z44.toInt ∧ z44.toInt ≤ 4840 := i_38
          have i_39 : 0 ≤ z45.toInt ∧ z45.toInt ≤ 1 := i_39
          have i_40 : 0 ≤ z48.toInt ∧ z48.toInt ≤ 23 := i_40
          have i_41 : 0 ≤ z49.toInt ∧ z49.toInt ≤ 3 := i_41
          have i_42 : 0 ≤ z50.toInt ∧ z50.toInt ≤ 1000000 := i_42
          obtain ⟨hP, hD⟩ := va_join (wr := []) hP hD [0, 1, 2, 3] [] rfl rfl (by decide) (by decide) hk1 hFc hP1 hD1
          generalize H1 = H at hP hS ⊢
          refine g5_rs [(b_o, (oc12 u_th u_sa b_rf b_ro b_im b_ke u_fd b_tp u_td u_fr u_to u_so u_wo u_fa u_bd u_nc b_nl u_co b_op b_ar u_le b_pi b_pa u_pd u_od b_ws b_hw z44 b_se b_re z45 z46 z47 u_ce z48 z49 z50 u_ps b_pt z51 u_sn b_ip u_ic b_ah b_be b_me u_wd b_tr b_ld u_st b_wn u_id)), (b_ro, (arI G 5740 v_ro)), (b_se, (arJ G 13 z52)), (b_re, (arJ G 400 z53))] hP hD (fun hP hD => ?_)
          refine g5_ti (v := z43) y54 ?_
          exact W.zret (v := z43) hx hb hr (g_nb (by omega) (by omega)) (fun t ht hW => ⟨⟨z43, [(b_o, (oc12 u_th u_sa b_rf b_ro b_im b_ke u_fd b_tp u_td u_fr u_to u_so u_wo u_fa u_bd u_nc b_nl u_co b_op b_ar u_le b_pi b_pa u_pd u_od b_ws b_hw z44 b_se b_re z45 z46 z47 u_ce z48 z49 z50 u_ps b_pt z51 u_sn b_ip u_ic b_ah b_be b_me u_wd b_tr b_ld u_st b_wn u_id)), (b_ro, (arI G 5740 v_ro)), (b_se, (arJ G 13 z52)), (b_re, (arJ G 400 z53))], rfl, ⟨z43, z44, z45, z46, z47, z48, z49, z50, z51, z52, z53, i_37, i_38, i_39, i_40, i_41, i_42, rfl, rfl⟩, by rw [ht]; exact hP.sub [0, 1, 2, 3] rfl, hD.sub [0, 1, 2, 3] (by decide) rfl⟩, hS.F ht⟩) hS.2.2 dX12_passes_146
  ·
    have i_9 : k2_2.toInt < (v_ro 0).toInt := by have z := g5_geN (a := k2_2.toInt) (b := (v_ro 0).toInt) (by rfl) (by rfl) c_9; omega
    refine lv_aload_n hx hb dX12_passes_12 rfl (lv_at hl 1 rfl) ?_
    refine lv_iload_n hx hb dX12_passes_13 rfl (lv_at hl 0 rfl) ?_
    refine lv_iconst (v := 0) hx hb dX12_passes_14 (by decide) ?_
    obtain ⟨hPc, hDc, hFc⟩ := g5_sub3 (wc := [(b_o, (oc12 u_th u_sa b_rf b_ro b_im b_ke u_fd b_tp u_td u_fr u_to u_so u_wo u_fa u_bd u_nc b_nl u_co b_op b_ar u_le b_pi b_pa u_pd u_od b_ws b_hw k2_la b_se b_re k2_bk k2_va k2_su u_ce k2_ho k2_wy k2_bt u_ps b_pt k2_tg u_sn b_ip u_ic b_ah b_be b_me u_wd b_tr b_ld u_st b_wn u_id)), (b_ro, (arI G 5740 v_ro))]) hP hD hS hA [0, 1] (by decide) rfl
    refine va_calli (va_runV (As := [.int k2_2, .int 0]) (rest := []) ⟨hx, hb, hml, hown, hts⟩ (n_ofGlass0 l G b_o b_ro b_rf b_im b_ke b_tp b_nl b_op b_ar b_pi b_pa b_ws b_hw b_se b_re b_pt b_ip b_ah b_be b_me b_tr b_ld b_wn H.size u_th u_sa u_fd u_td u_fr u_to u_so u_fa u_bd u_nc u_co u_le u_pd u_od k2_la k2_bk u_ce k2_ho k2_wy k2_bt u_ps k2_tg u_sn u_ic u_wd u_id k2_2 u_wo k2_va k2_su u_st v_ro h_u_td h_u_fr h_u_to h_u_bd h_u_nc h_u_co h_u_pd i_2 i_3 h_u_ce i_4 i_5 i_6 h_u_ps h_u_ic h_u_id ⟨by omega, by omega⟩ (r_ro)) (cwV 2 hts gV_X12_134 rfl rfl rfl hv_X12_ofGlass ⟨Nat.le_of_ble_eq_true rfl, Nat.le_of_ble_eq_true rfl⟩) (g5_preV hPc hK hDc hN hT hS hFc (ci := 12) (q0 := 0) rfl rfl) rfl rfl hl.1 rfl (lv_room (Nat.le_of_ble_eq_true rfl)) dX12_passes_15 ⟨Nat.le_of_ble_eq_true rfl, Nat.le_of_ble_eq_true rfl⟩) hS (fun q _ h => hFc q h) hFc (fun r u t H1 locs ht hvm hw hB hz1 hk1 hS => ?_)
    obtain ⟨hP1, hD1⟩ := hB
    rw [ht] at hP1
    obtain ⟨z56, i_55, y57, rfl⟩ := hw
    have i_55 : 0 ≤ z56.toInt ∧ z56.toInt ≤ 63 := i_55
    obtain ⟨hP, hD⟩ := va_join (wr := [(b_se, (arJ G 13 k2_se)), (b_re, (arJ G 400 k2_re))]) hP hD [0, 1] [2, 3] rfl rfl (by decide) (by decide) hk1 hFc hP1 hD1
    generalize H1 = H at hP hS ⊢
    refine g5_rs [(b_se, (arJ G 13 k2_se)), (b_re, (arJ G 400 k2_re)), (b_o, (oc12 u_th u_sa b_rf b_ro b_im b_ke u_fd b_tp u_td u_fr u_to u_so u_wo u_fa u_bd u_nc b_nl u_co b_op b_ar u_le b_pi b_pa u_pd u_od b_ws b_hw k2_la b_se b_re k2_bk k2_va k2_su u_ce k2_ho k2_wy k2_bt u_ps b_pt k2_tg u_sn b_ip u_ic b_ah b_be b_me u_wd b_tr b_ld u_st b_wn u_id)), (b_ro, (arI G 5740 v_ro))] hP hD (fun hP hD => ?_)
    refine g5_ti (v := z56) y57 ?_
    refine lv_aload_n hx hb dX12_passes_18 rfl (lv_at hl 1 rfl) ?_
    refine va_get (D := G.1) (ci := 12) (v := .int u_ce) (C := RX12) (T := TX12) (N := 52) hx hb hts inG_X12 hown hK hP 2 rfl rfl 33 (by decide) (hts _ fl_X12_349) (fun _ h9 => h9) rfl dX12_passes_19 ?_
    refine lv_icmp_ne (tgt := 62) hx hb dX12_passes_22 (by decide) (fun c_58 => ?_) (fun c_58 => ?_)
    ·
      have n_58 : gNe (z56.toInt) (u_ce.toInt) := by have z := g5_ne (a := z56.toInt) (b := u_ce.toInt) (by rfl) (by rfl) c_58; unfold gNe; omega
      refine lv_iinc (v := (k2_2 + 1)) (lv' := [(2, .int (k2_2 + 1)), (0, .ref b_o), (1, .int p_1)]) hx hb dX12_passes_62 hl (k := 0) rfl rfl (by decide) rfl (fun ls hl => ?_)
      have t_59 : (k2_2 + 1).toInt = k2_2.toInt + 1 := g5_iadd (a := k2_2.toInt) (b := 1) rfl (by decide) (by omega) (by omega)
      refine lv_goto (tgt := 2) hx hb dX12_passes_65 (by decide) ?_
      exact ih_2_7 ((k2_2 + 1), k2_la, k2_bk, k2_va, k2_su, k2_ho, k2_wy, k2_bt, k2_tg, k2_se, k2_re) ls H locs (show Int.toNat (6 - (k2_2 + 1).toInt) < Int.toNat (6 - k2_2.toInt) from g_up (show k2_2.toInt < (k2_2 + 1).toInt by omega) (show k2_2.toInt < 6 by omega)) ⟨lv_sub hl [0, 1, 2] rfl, hP.sub [2, 3, 0, 1] rfl, hD.sub [2, 3, 0, 1] (by decide) rfl, hS, ⟨by omega, by omega⟩, i_2, i_3, i_4, i_5, i_6⟩
    ·
      have i_58 : z56.toInt = u_ce.toInt := by have z := g5_neN (a := z56.toInt) (b := u_ce.toInt) (by rfl) (by rfl) c_58; omega
      refine lv_aload_n hx hb dX12_passes_25 rfl (lv_at hl 1 rfl) ?_
      refine lv_iload_n hx hb dX12_passes_26 rfl (lv_at hl 0 rfl) ?_
      refine lv_aload_n hx hb dX12_passes_27 rfl (lv_at hl 1 rfl) ?_
      refine lv_iload_n hx hb dX12_passes_28 rfl (lv_at hl 0 rfl) ?_
      refine lv_iconst (v := 1) hx hb dX12_passes_29 (by decide) ?_
      obtain ⟨hPc, hDc, hFc⟩ := g5_sub3 (wc := [(b_o, (oc12 u_th u_sa b_rf b_ro b_im b_ke u_fd b_tp u_td u_fr u_to u_so u_wo u_fa u_bd u_nc b_nl u_co b_op b_ar u_le b_pi b_pa u_pd u_od b_ws b_hw k2_la b_se b_re k2_bk k2_va k2_su u_ce k2_ho k2_wy k2_bt u_ps b_pt k2_tg u_sn b_ip u_ic b_ah b_be b_me u_wd b_tr b_ld u_st b_wn u_id)), (b_ro, (arI G 5740 v_ro))]) hP hD hS hA [2, 3] (by decide) rfl
      refine va_calli (va_runV (As := [.int k2_2, .int 1]) (rest := [.int k2_2, .ref b_o]) ⟨hx, hb, hml, hown, hts⟩ (n_ofGlass1 l G b_o b_ro b_rf b_im b_ke b_tp b_nl b_op b_ar b_pi b_pa b_ws b_hw b_se b_re b_pt b_ip b_ah b_be b_me b_tr b_ld b_wn H.size u_th u_sa u_fd u_td u_fr u_to u_so u_fa u_bd u_nc u_co u_le u_pd u_od k2_la k2_bk u_ce k2_ho k2_wy k2_bt u_ps k2_tg u_sn u_ic u_wd u_id k2_2 u_wo k2_va k2_su u_st v_ro h_u_td h_u_fr h_u_to h_u_bd h_u_nc h_u_co h_u_pd i_2 i_3 h_u_ce i_4 i_5 i_6 h_u_ps h_u_ic h_u_id ⟨by omega, by omega⟩ (r_ro)) (cwV 2 hts gV_X12_134 rfl rfl rfl hv_X12_ofGlass ⟨Nat.le_of_ble_eq_true rfl, Nat.le_of_ble_eq_true rfl⟩) (g5_preV hPc hK hDc hN hT hS hFc (ci := 12) (q0 := 0) rfl rfl) rfl rfl hl.1 rfl (lv_room (Nat.le_of_ble_eq_true rfl)) dX12_passes_30 ⟨Nat.le_of_ble_eq_true rfl, Nat.le_of_ble_eq_true rfl⟩) hS (fun q _ h => hFc q h) hFc (fun r u t H1 locs ht hvm hw hB hz1 hk1 hS => ?_)
      obtain ⟨hP1, hD1⟩ := hB
      rw [ht] at hP1
      obtain ⟨z61, i_60, y62, rfl⟩ := hw
      have i_60 : 0 ≤ z61.toInt ∧ z61.toInt ≤ 5 := i_60
      obtain ⟨hP, hD⟩ := va_join (wr := [(b_se, (arJ G 13 k2_se)), (b_re, (arJ G 400 k2_re))]) hP hD [2, 3] [0, 1] rfl rfl (by decide) (by decide) hk1 hFc hP1 hD1
      generalize H1 = H at hP hS ⊢
      refine g5_rs [(b_se, (arJ G 13 k2_se)), (b_re, (arJ G 400 k2_re)), (b_o, (oc12 u_th u_sa b_rf b_ro b_im b_ke u_fd b_tp u_td u_fr u_to u_so u_wo u_fa u_bd u_nc b_nl u_co b_op b_ar u_le b_pi b_pa u_pd u_od b_ws b_hw k2_la b_se b_re k2_bk k2_va k2_su u_ce k2_ho k2_wy k2_bt u_ps b_pt k2_tg u_sn b_ip u_ic b_ah b_be b_me u_wd b_tr b_ld u_st b_wn u_id)), (b_ro, (arI G 5740 v_ro))] hP hD (fun hP hD => ?_)
      refine g5_ti (v := z61) y62 ?_
      refine lv_aload_n hx hb dX12_passes_33 rfl (lv_at hl 1 rfl) ?_
      refine lv_iload_n hx hb dX12_passes_34 rfl (lv_at hl 0 rfl) ?_
      refine lv_iconst (v := 2) hx hb dX12_passes_35 (by decide) ?_
      obtain ⟨hPc, hDc, hFc⟩ := g5_sub3 (wc := [(b_o, (oc12 u_th u_sa b_rf b_ro b_im b_ke u_fd b_tp u_td u_fr u_to u_so u_wo u_fa u_bd u_nc b_nl u_co b_op b_ar u_le b_pi b_pa u_pd u_od b_ws b_hw k2_la b_se b_re k2_bk k2_va k2_su u_ce k2_ho k2_wy k2_bt u_ps b_pt k2_tg u_sn b_ip u_ic b_ah b_be b_me u_wd b_tr b_ld u_st b_wn u_id)), (b_ro, (arI G 5740 v_ro))]) hP hD hS hA [2, 3] (by decide) rfl
      refine va_calli (va_runV (As := [.int k2_2, .int 2]) (rest := [.int z61, .int k2_2, .ref b_o]) ⟨hx, hb, hml, hown, hts⟩ (n_ofGlass2 l G b_o b_ro b_rf b_im b_ke b_tp b_nl b_op b_ar b_pi b_pa b_ws b_hw b_se b_re b_pt b_ip b_ah b_be b_me b_tr b_ld b_wn H.size u_th u_sa u_fd u_td u_fr u_to u_so u_fa u_bd u_nc u_co u_le u_pd u_od k2_la k2_bk u_ce k2_ho k2_wy k2_bt u_ps k2_tg u_sn u_ic u_wd u_id k2_2 u_wo k2_va k2_su u_st v_ro h_u_td h_u_fr h_u_to h_u_bd h_u_nc h_u_co h_u_pd i_2 i_3 h_u_ce i_4 i_5 i_6 h_u_ps h_u_ic h_u_id ⟨by omega, by omega⟩ (r_ro)) (cwV 2 hts gV_X12_134 rfl rfl rfl hv_X12_ofGlass ⟨Nat.le_of_ble_eq_true rfl, Nat.le_of_ble_eq_true rfl⟩) (g5_preV hPc hK hDc hN hT hS hFc (ci := 12) (q0 := 0) rfl rfl) rfl rfl hl.1 rfl (lv_room (Nat.le_of_ble_eq_true rfl)) dX12_passes_36 ⟨Nat.le_of_ble_eq_true rfl, Nat.le_of_ble_eq_true rfl⟩) hS (fun q _ h => hFc q h) hFc (fun r u t H1 locs ht hvm hw hB hz1 hk1 hS => ?_)
      obtain ⟨hP1, hD1⟩ := hB
      rw [ht] at hP1
      obtain ⟨z64, i_63, y65, rfl⟩ := hw
      have i_63 : 0 ≤ z64.toInt ∧ z64.toInt ≤ 23 := i_63
      obtain ⟨hP, hD⟩ := va_join (wr := [(b_se, (arJ G 13 k2_se)), (b_re, (arJ G 400 k2_re))]) hP hD [2, 3] [0, 1] rfl rfl (by decide) (by decide) hk1 hFc hP1 hD1
      generalize H1 = H at hP hS ⊢
      refine g5_rs [(b_se, (arJ G 13 k2_se)), (b_re, (arJ G 400 k2_re)), (b_o, (oc12 u_th u_sa b_rf b_ro b_im b_ke u_fd b_tp u_td u_fr u_to u_so u_wo u_fa u_bd u_nc b_nl u_co b_op b_ar u_le b_pi b_pa u_pd u_od b_ws b_hw k2_la b_se b_re k2_bk k2_va k2_su u_ce k2_ho k2_wy k2_bt u_ps b_pt k2_tg u_sn b_ip u_ic b_ah b_be b_me u_wd b_tr b_ld u_st b_wn u_id)), (b_ro, (arI G 5740 v_ro))] hP hD (fun hP hD => ?_)
      refine g5_ti (v := z64) y65 ?_
      refine lv_aload_n hx hb dX12_passes_39 rfl (lv_at hl 1 rfl) ?_
      refine lv_iload_n hx hb dX12_passes_40 rfl (lv_at hl 0 rfl) ?_
      refine lv_iconst (v := 3) hx hb dX12_passes_41 (by decide) ?_
      obtain ⟨hPc, hDc, hFc⟩ := g5_sub3 (wc := [(b_o, (oc12 u_th u_sa b_rf b_ro b_im b_ke u_fd b_tp u_td u_fr u_to u_so u_wo u_fa u_bd u_nc b_nl u_co b_op b_ar u_le b_pi b_pa u_pd u_od b_ws b_hw k2_la b_se b_re k2_bk k2_va k2_su u_ce k2_ho k2_wy k2_bt u_ps b_pt k2_tg u_sn b_ip u_ic b_ah b_be b_me u_wd b_tr b_ld u_st b_wn u_id)), (b_ro, (arI G 5740 v_ro))]) hP hD hS hA [2, 3] (by decide) rfl
      refine va_calli (va_runV (As := [.int k2_2, .int 3]) (rest := [.int z64, .int z61, .int k2_2, .ref b_o]) ⟨hx, hb, hml, hown, hts⟩ (n_ofGlass3 l G b_o b_ro b_rf b_im b_ke b_tp b_nl b_op b_ar b_pi b_pa b_ws b_hw b_se b_re b_pt b_ip b_ah b_be b_me b_tr b_ld b_wn H.size u_th u_sa u_fd u_td u_fr u_to u_so u_fa u_bd u_nc u_co u_le u_pd u_od k2_la k2_bk u_ce k2_ho k2_wy k2_bt u_ps k2_tg u_sn u_ic u_wd u_id k2_2 u_wo k2_va k2_su u_st v_ro h_u_td h_u_fr h_u_to h_u_bd h_u_nc h_u_co h_u_pd i_2 i_3 h_u_ce i_4 i_5 i_6 h_u_ps h_u_ic h_u_id ⟨by omega, by omega⟩ (r_ro)) (cwV 2 hts gV_X12_134 rfl rfl rfl hv_X12_ofGlass ⟨Nat.le_of_ble_eq_true rfl, Nat.le_of_ble_eq_true rfl⟩) (g5_preV hPc hK hDc hN hT hS hFc (ci := 12) (q0 := 0) rfl rfl) rfl rfl hl.1 rfl (lv_room (Nat.le_of_ble_eq_true rfl)) dX12_passes_42 ⟨Nat.le_of_ble_eq_true rfl, Nat.le_of_ble_eq_true rfl⟩) hS (fun q _ h => hFc q h) hFc (fun r u t H1 locs ht hvm hw hB hz1 hk1 hS => ?_)
      obtain ⟨hP1, hD1⟩ := hB
      rw [ht] at hP1
      obtain ⟨z67, i_66, y68, rfl⟩ := hw
      have i_66 : 0 ≤ z67.toInt ∧ z67.toInt ≤ 10 := i_66
      obtain ⟨hP, hD⟩ := va_join (wr := [(b_se, (arJ G 13 k2_se)), (b_re, (arJ G 400 k2_re))]) hP hD [2, 3] [0, 1] rfl rfl (by decide) (by decide) hk1 hFc hP1 hD1
      generalize H1 = H at hP hS ⊢
      refine g5_rs [(b_se, (arJ G 13 k2_se)), (b_re, (arJ G 400 k2_re)), (b_o, (oc12 u_th u_sa b_rf b_ro b_im b_ke u_fd b_tp u_td u_fr u_to u_so u_wo u_fa u_bd u_nc b_nl u_co b_op b_ar u_le b_pi b_pa u_pd u_od b_ws b_hw k2_la b_se b_re k2_bk k2_va k2_su u_ce k2_ho k2_wy k2_bt u_ps b_pt k2_tg u_sn b_ip u_ic b_ah b_be b_me u_wd b_tr b_ld u_st b_wn u_id)), (b_ro, (arI G 5740 v_ro))] hP hD (fun hP hD => ?_)
      refine g5_ti (v := z67) y68 ?_
      refine lv_aload_n hx hb dX12_passes_45 rfl (lv_at hl 1 rfl) ?_
      refine lv_iload_n hx hb dX12_passes_46 rfl (lv_at hl 0 rfl) ?_
      refine lv_iconst (v := 4) hx hb dX12_passes_47 (by decide) ?_
      obtain ⟨hPc, hDc, hFc⟩ := g5_sub3 (wc := [(b_o, (oc12 u_th u_sa b_rf b_ro b_im b_ke u_fd b_tp u_td u_fr u_to u_so u_wo u_fa u_bd u_nc b_nl u_co b_op b_ar u_le b_pi b_pa u_pd u_od b_ws b_hw k2_la b_se b_re k2_bk k2_va k2_su u_ce k2_ho k2_wy k2_bt u_ps b_pt k2_tg u_sn b_ip u_ic b_ah b_be b_me u_wd b_tr b_ld u_st b_wn u_id)), (b_ro, (arI G 5740 v_ro))]) hP hD hS hA [2, 3] (by decide) rfl
      refine va_calli (va_runV (As := [.int k2_2, .int 4]) (rest := [.int z67, .int z64, .int z61, .int k2_2, .ref b_o]) ⟨hx, hb, hml, hown, hts⟩ (n_ofGlass l G b_o b_ro b_rf b_im b_ke b_tp b_nl b_op b_ar b_pi b_pa b_ws b_hw b_se b_re b_pt b_ip b_ah b_be b_me b_tr b_ld b_wn H.size u_th u_sa u_fd u_td u_fr u_to u_so u_fa u_bd u_nc u_co u_le u_pd u_od k2_la k2_bk u_ce k2_ho k2_wy k2_bt u_ps k2_tg u_sn u_ic u_wd u_id k2_2 4 u_wo k2_va k2_su u_st v_ro h_u_td h_u_fr h_u_to h_u_bd h_u_nc h_u_co h_u_pd i_2 i_3 h_u_ce i_4 i_5 i_6 h_u_ps h_u_ic h_u_id ⟨by omega, by omega⟩ ⟨by decide, by decide⟩ (r_ro)) (cwV 2 hts gV_X12_134 rfl rfl rfl hv_X12_ofGlass ⟨Nat.le_of_ble_eq_true rfl, Nat.le_of_ble_eq_true rfl⟩) (g5_preV hPc hK hDc hN hT hS hFc (ci := 12) (q0 := 0) rfl rfl) rfl rfl hl.1 rfl (lv_room (Nat.le_of_ble_eq_true rfl)) dX12_passes_48 ⟨Nat.le_of_ble_eq_true rfl, Nat.le_of_ble_eq_true rfl⟩) hS (fun q _ h => hFc q h) hFc (fun r u t H1 locs ht hvm hw hB hz1 hk1 hS => ?_)
      obtain ⟨hP1, hD1⟩ := hB
      rw [ht] at hP1
      obtain ⟨z69, y70, rfl⟩ := hw
      obtain ⟨hP, hD⟩ := va_join (wr := [(b_se, (arJ G 13 k2_se)), (b_re, (arJ G 400 k2_re))]) hP hD [2, 3] [0, 1] rfl rfl (by decide) (by decide) hk1 hFc hP1 hD1
      generalize H1 = H at hP hS ⊢
      refine g5_rs [(b_se, (arJ G 13 k2_se)), (b_re, (arJ G 400 k2_re)), (b_o, (oc12 u_th u_sa b_rf b_ro b_im b_ke u_fd b_tp u_td u_fr u_to u_so u_wo u_fa u_bd u_nc b_nl u_co b_op b_ar u_le b_pi b_pa u_pd u_od b_ws b_hw k2_la b_se b_re k2_bk k2_va k2_su u_ce k2_ho k2_wy k2_bt u_ps b_pt k2_tg u_sn b_ip u_ic b_ah b_be b_me u_wd b_tr b_ld u_st b_wn u_id)), (b_ro, (arI G 5740 v_ro))] hP hD (fun hP hD => ?_)
      refine g5_ti (v := z69) y70 ?_
      refine lv_aload_n hx hb dX12_passes_51 rfl (lv_at hl 1 rfl) ?_
      refine va_get (D := G.1) (ci := 12) (v := .int k2_ho) (C := RX12) (T := TX12) (N := 52) hx hb hts inG_X12 hown hK hP 2 rfl rfl 34 (by decide) (hts _ fl_X12_352) (fun _ h9 => h9) rfl dX12_passes_52 ?_
      obtain ⟨hPc, hDc, hFc⟩ := g5_sub3 (wc := []) hP hD hS hA [] (by decide) rfl
      refine va_calli (va_runS (As := [.int z69, .int k2_ho]) (rest := [.int z67, .int z64, .int z61, .int k2_2, .ref b_o]) ⟨hx, hb, hml, hown, hts⟩ (n_is l G H.size z69 k2_ho) (va_cwS 2 hts gS_X12_387 rfl rfl rfl hs_X12_is ⟨Nat.le_of_ble_eq_true rfl, Nat.le_of_ble_eq_true rfl⟩) (g5_preS hPc hK hDc hN hT hS hFc) rfl rfl hl.1 rfl (lv_room (Nat.le_of_ble_eq_true rfl)) dX12_passes_55 ⟨Nat.le_of_ble_eq_true rfl, Nat.le_of_ble_eq_true rfl⟩) hS (fun q _ h => hFc q h) hFc (fun r u t H1 locs ht hvm hw hB hz1 hk1 hS => ?_)
      obtain ⟨hP1, hD1⟩ := hB
      rw [ht] at hP1
      obtain ⟨z72, i_71, y73, rfl⟩ := hw
      have i_71 : 0 ≤ z72.toInt ∧ z72.toInt ≤ 1 := i_71
      have hP := g5_same hP hk1
      generalize H1 = H at hP hS ⊢
      refine g5_ti (v := z72) y73 ?_
      obtain ⟨hPc, hDc, hFc⟩ := g5_sub3 (wc := [(b_o, (oc12 u_th u_sa b_rf b_ro b_im b_ke u_fd b_tp u_td u_fr u_to u_so u_wo u_fa u_bd u_nc b_nl u_co b_op b_ar u_le b_pi b_pa u_pd u_od b_ws b_hw k2_la b_se b_re k2_bk k2_va k2_su u_ce k2_ho k2_wy k2_bt u_ps b_pt k2_tg u_sn b_ip u_ic b_ah b_be b_me u_wd b_tr b_ld u_st b_wn u_id)), (b_ro, (arI G 5740 v_ro)), (b_se, (arJ G 13 k2_se)), (b_re, (arJ G 400 k2_re))]) hP hD hS hA [2, 3, 0, 1] (by decide) rfl
      refine va_calli (va_runV (As := [.int k2_2, .int z61, .int z64, .int z67, .int z72]) (rest := []) ⟨hx, hb, hml, hown, hts⟩ (n_turns l G b_o b_ro b_se b_re b_rf b_im b_ke b_tp b_nl b_op b_ar b_pi b_pa b_ws b_hw b_pt b_ip b_ah b_be b_me b_tr b_ld b_wn H.size u_th u_sa u_fd u_td u_fr u_to u_so u_fa u_bd u_nc u_co u_le u_pd u_od k2_la k2_bk u_ce k2_ho k2_wy k2_bt u_ps k2_tg u_sn u_ic u_wd u_id k2_2 z61 z64 z67 z72 u_wo k2_va k2_su u_st v_ro k2_se k2_re h_u_td h_u_fr h_u_to h_u_bd h_u_nc h_u_co h_u_pd i_2 i_3 h_u_ce i_4 i_5 i_6 h_u_ps h_u_ic h_u_id i_60 i_63 i_66 i_71 (r_ro)) (cwV 5 hts gV_X12_390 rfl rfl rfl hv_X12_turns ⟨Nat.le_of_ble_eq_true rfl, Nat.le_of_ble_eq_true rfl⟩) (g5_preV hPc hK hDc hN hT hS hFc (ci := 12) (q0 := 0) rfl rfl) rfl rfl hl.1 rfl (lv_room (Nat.le_of_ble_eq_true rfl)) dX12_passes_58 ⟨Nat.le_of_ble_eq_true rfl, Nat.le_of_ble_eq_true rfl⟩) hS (fun q _ h => hFc q h) hFc (fun r u t H1 locs ht hvm hw hB hz1 hk1 hS => ?_)
      obtain ⟨hP1, hD1⟩ := hB
      rw [ht] at hP1
      obtain ⟨z80, z81, z82, z83, z84, z85, z86, z87, z88, z89, z90, i_74, i_75, i_76, i_77, i_78, i_79, y91, rfl⟩ := hw
      have i_74 : 0 ≤ z80.toInt ∧ z80.toInt ≤ 1 := i_74
      have i_75 : 0 ≤ z81.toInt ∧ z81.toInt ≤ 4840 := i_75
      have i_76 : 0 ≤ z82.toInt ∧ z82.toInt ≤ 1 := i_76
      have i_77 : 0 ≤ z85.toInt ∧ z85.toInt ≤ 23 := i_77
      have i_78 : 0 ≤ z86.toInt ∧ z86.toInt ≤ 3 := i_78
      have i_79 : 0 ≤ z87.toInt ∧ z87.toInt ≤ 1000000 := i_79
      obtain ⟨hP, hD⟩ := va_join (wr := []) hP hD [2, 3, 0, 1] [] rfl rfl (by decide) (by decide) hk1 hFc hP1 hD1
      generalize H1 = H at hP hS ⊢
      refine g5_rs [(b_o, (oc12 u_th u_sa b_rf b_ro b_im b_ke u_fd b_tp u_td u_fr u_to u_so u_wo u_fa u_bd u_nc b_nl u_co b_op b_ar u_le b_pi b_pa u_pd u_od b_ws b_hw z81 b_se b_re z82 z83 z84 u_ce z85 z86 z87 u_ps b_pt z88 u_sn b_ip u_ic b_ah b_be b_me u_wd b_tr b_ld u_st b_wn u_id)), (b_ro, (arI G 5740 v_ro)), (b_se, (arJ G 13 z89)), (b_re, (arJ G 400 z90))] hP hD (fun hP hD => ?_)
      refine g5_ti (v := z80) y91 ?_
      exact W.zret (v := z80) hx hb hr (g_nb (by omega) (by omega)) (fun t ht hW => ⟨⟨z80, [(b_o, (oc12 u_th u_sa b_rf b_ro b_im b_ke u_fd b_tp u_td u_fr u_to u_so u_wo u_fa u_bd u_nc b_nl u_co b_op b_ar u_le b_pi b_pa u_pd u_od b_ws b_hw z81 b_se b_re z82 z83 z84 u_ce z85 z86 z87 u_ps b_pt z88 u_sn b_ip u_ic b_ah b_be b_me u_wd b_tr b_ld u_st b_wn u_id)), (b_ro, (arI G 5740 v_ro)), (b_se, (arJ G 13 z89)), (b_re, (arJ G 400 z90))], rfl, ⟨z80, z81, z82, z83, z84, z85, z86, z87, z88, z89, z90, i_74, i_75, i_76, i_77, i_78, i_79, rfl, rfl⟩, by rw [ht]; exact hP.sub [0, 1, 2, 3] rfl, hD.sub [0, 1, 2, 3] (by decide) rfl⟩, hS.F ht⟩) hS.2.2 dX12_passes_61
theorem dgX12_go_0 : ∀ r ∈ ([(0, (.aload_n 0, 1)), (1, (.iload_n 1, 1)), (2, (.putfield 349, 3)), (5, (.aload_n 0, 1)), (6, (.iload_n 2, 1)), (7, (.putfield 355, 3)), (10, (.aload_n 0, 1)), (11, (.iload_n 3, 1)), (12, (.putfield 352, 3)), (15, (.aload_n 0, 1)), (16, (.ldc_w 367, 3)), (19, (.putfield 361, 3)), (22, (.aload_n 0, 1)), (23, (.iconst 0, 1)), (24, (.putfield 358, 3)), (27, (.aload_n 0, 1)), (28, (.iconst 0, 1)), (29, (.putfield 368, 3)), (32, (.aload_n 0, 1)), (33, (.iconst (-1), 1)), (34, (.putfield 371, 3)), (37, (.iconst 1, 1)), (38, (.istore 5, 2)), (40, (.iload 5, 2)), (42, (.ifCond .eq 125, 3)), (45, (.aload_n 0, 1)), (46, (.getfield 358, 3)), (49, (.sipush 200, 3)), (52, (.if_icmp .ge 115, 3)), (55, (.aload_n 0, 1)), (56, (.getfield 349, 3)), (59, (.aload_n 0, 1)), (60, (.getfield 355, 3)), (63, (.invokestatic 374, 3)), (66, (.istore 6, 2)), (68, (.iload 6, 2)), (70, (.iconst (-1), 1)), (71, (.if_icmp .eq 25, 3)), (74, (.aload_n 0, 1)), (75, (.iload 6, 2))] : List (Nat × (Instr × Nat))), decode cX12_go r.1 = .ok r.2 := by decide +kernel
theorem dX12_go_0 : decode cX12_go 0 = .ok (.aload_n 0, 1) := dgX12_go_0 (0, (.aload_n 0, 1)) (List.mem_of_getElem? (i := 0) rfl)
theorem dX12_go_1 : decode cX12_go 1 = .ok (.iload_n 1, 1) := dgX12_go_0 (1, (.iload_n 1, 1)) (List.mem_of_getElem? (i := 1) rfl)
theorem dX12_go_2 : decode cX12_go 2 = .ok (.putfield 349, 3) := dgX12_go_0 (2, (.putfield 349, 3)) (List.mem_of_getElem? (i := 2) rfl)
theorem dX12_go_5 : decode cX12_go 5 = .ok (.aload_n 0, 1) := dgX12_go_0 (5, (.aload_n 0, 1)) (List.mem_of_getElem? (i := 3) rfl)
theorem dX12_go_6 : decode cX12_go 6 = .ok (.iload_n 2, 1) := dgX12_go_0 (6, (.iload_n 2, 1)) (List.mem_of_getElem? (i := 4) rfl)
theorem dX12_go_7 : decode cX12_go 7 = .ok (.putfield 355, 3) := dgX12_go_0 (7, (.putfield 355, 3)) (List.mem_of_getElem? (i := 5) rfl)
theorem dX12_go_10 : decode cX12_go 10 = .ok (.aload_n 0, 1) := dgX12_go_0 (10, (.aload_n 0, 1)) (List.mem_of_getElem? (i := 6) rfl)
theorem dX12_go_11 : decode cX12_go 11 = .ok (.iload_n 3, 1) := dgX12_go_0 (11, (.iload_n 3, 1)) (List.mem_of_getElem? (i := 7) rfl)
theorem dX12_go_12 : decode cX12_go 12 = .ok (.putfield 352, 3) := dgX12_go_0 (12, (.putfield 352, 3)) (List.mem_of_getElem? (i := 8) rfl)
theorem dX12_go_15 : decode cX12_go 15 = .ok (.aload_n 0, 1) := dgX12_go_0 (15, (.aload_n 0, 1)) (List.mem_of_getElem? (i := 9) rfl)
theorem dX12_go_16 : decode cX12_go 16 = .ok (.ldc_w 367, 3) := dgX12_go_0 (16, (.ldc_w 367, 3)) (List.mem_of_getElem? (i := 10) rfl)
theorem dX12_go_19 : decode cX12_go 19 = .ok (.putfield 361, 3) := dgX12_go_0 (19, (.putfield 361, 3)) (List.mem_of_getElem? (i := 11) rfl)
theorem dX12_go_22 : decode cX12_go 22 = .ok (.aload_n 0, 1) := dgX12_go_0 (22, (.aload_n 0, 1)) (List.mem_of_getElem? (i := 12) rfl)
theorem dX12_go_23 : decode cX12_go 23 = .ok (.iconst 0, 1) := dgX12_go_0 (23, (.iconst 0, 1)) (List.mem_of_getElem? (i := 13) rfl)
theorem dX12_go_24 : decode cX12_go 24 = .ok (.putfield 358, 3) := dgX12_go_0 (24, (.putfield 358, 3)) (List.mem_of_getElem? (i := 14) rfl)
theorem dX12_go_27 : decode cX12_go 27 = .ok (.aload_n 0, 1) := dgX12_go_0 (27, (.aload_n 0, 1)) (List.mem_of_getElem? (i := 15) rfl)
theorem dX12_go_28 : decode cX12_go 28 = .ok (.iconst 0, 1) := dgX12_go_0 (28, (.iconst 0, 1)) (List.mem_of_getElem? (i := 16) rfl)
theorem dX12_go_29 : decode cX12_go 29 = .ok (.putfield 368, 3) := dgX12_go_0 (29, (.putfield 368, 3)) (List.mem_of_getElem? (i := 17) rfl)
theorem dX12_go_32 : decode cX12_go 32 = .ok (.aload_n 0, 1) := dgX12_go_0 (32, (.aload_n 0, 1)) (List.mem_of_getElem? (i := 18) rfl)
theorem dX12_go_33 : decode cX12_go 33 = .ok (.iconst (-1), 1) := dgX12_go_0 (33, (.iconst (-1), 1)) (List.mem_of_getElem? (i := 19) rfl)
theorem dX12_go_34 : decode cX12_go 34 = .ok (.putfield 371, 3) := dgX12_go_0 (34, (.putfield 371, 3)) (List.mem_of_getElem? (i := 20) rfl)
theorem dX12_go_37 : decode cX12_go 37 = .ok (.iconst 1, 1) := dgX12_go_0 (37, (.iconst 1, 1)) (List.mem_of_getElem? (i := 21) rfl)
theorem dX12_go_38 : decode cX12_go 38 = .ok (.istore 5, 2) := dgX12_go_0 (38, (.istore 5, 2)) (List.mem_of_getElem? (i := 22) rfl)
theorem dX12_go_40 : decode cX12_go 40 = .ok (.iload 5, 2) := dgX12_go_0 (40, (.iload 5, 2)) (List.mem_of_getElem? (i := 23) rfl)
theorem dX12_go_42 : decode cX12_go 42 = .ok (.ifCond .eq 125, 3) := dgX12_go_0 (42, (.ifCond .eq 125, 3)) (List.mem_of_getElem? (i := 24) rfl)
theorem dX12_go_45 : decode cX12_go 45 = .ok (.aload_n 0, 1) := dgX12_go_0 (45, (.aload_n 0, 1)) (List.mem_of_getElem? (i := 25) rfl)
theorem dX12_go_46 : decode cX12_go 46 = .ok (.getfield 358, 3) := dgX12_go_0 (46, (.getfield 358, 3)) (List.mem_of_getElem? (i := 26) rfl)
theorem dX12_go_49 : decode cX12_go 49 = .ok (.sipush 200, 3) := dgX12_go_0 (49, (.sipush 200, 3)) (List.mem_of_getElem? (i := 27) rfl)
theorem dX12_go_52 : decode cX12_go 52 = .ok (.if_icmp .ge 115, 3) := dgX12_go_0 (52, (.if_icmp .ge 115, 3)) (List.mem_of_getElem? (i := 28) rfl)
theorem dX12_go_55 : decode cX12_go 55 = .ok (.aload_n 0, 1) := dgX12_go_0 (55, (.aload_n 0, 1)) (List.mem_of_getElem? (i := 29) rfl)
theorem dX12_go_56 : decode cX12_go 56 = .ok (.getfield 349, 3) := dgX12_go_0 (56, (.getfield 349, 3)) (List.mem_of_getElem? (i := 30) rfl)
theorem dX12_go_59 : decode cX12_go 59 = .ok (.aload_n 0, 1) := dgX12_go_0 (59, (.aload_n 0, 1)) (List.mem_of_getElem? (i := 31) rfl)
theorem dX12_go_60 : decode cX12_go 60 = .ok (.getfield 355, 3) := dgX12_go_0 (60, (.getfield 355, 3)) (List.mem_of_getElem? (i := 32) rfl)
theorem dX12_go_63 : decode cX12_go 63 = .ok (.invokestatic 374, 3) := dgX12_go_0 (63, (.invokestatic 374, 3)) (List.mem_of_getElem? (i := 33) rfl)
theorem dX12_go_66 : decode cX12_go 66 = .ok (.istore 6, 2) := dgX12_go_0 (66, (.istore 6, 2)) (List.mem_of_getElem? (i := 34) rfl)
theorem dX12_go_68 : decode cX12_go 68 = .ok (.iload 6, 2) := dgX12_go_0 (68, (.iload 6, 2)) (List.mem_of_getElem? (i := 35) rfl)
theorem dX12_go_70 : decode cX12_go 70 = .ok (.iconst (-1), 1) := dgX12_go_0 (70, (.iconst (-1), 1)) (List.mem_of_getElem? (i := 36) rfl)
theorem dX12_go_71 : decode cX12_go 71 = .ok (.if_icmp .eq 25, 3) := dgX12_go_0 (71, (.if_icmp .eq 25, 3)) (List.mem_of_getElem? (i := 37) rfl)
theorem dX12_go_74 : decode cX12_go 74 = .ok (.aload_n 0, 1) := dgX12_go_0 (74, (.aload_n 0, 1)) (List.mem_of_getElem? (i := 38) rfl)
theorem dX12_go_75 : decode cX12_go 75 = .ok (.iload 6, 2) := dgX12_go_0 (75, (.iload 6, 2)) (List.mem_of_getElem? (i := 39) rfl)
theorem dgX12_go_1 : ∀ r ∈ ([(77, (.ifCond .ge 7, 3)), (80, (.iconst 0, 1)), (81, (.goto 5, 3)), (84, (.iload 6, 2)), (86, (.invokevirtual 160, 3)), (89, (.ifCond .ne 7, 3)), (92, (.iconst 1, 1)), (93, (.goto 4, 3)), (96, (.iconst 0, 1)), (97, (.istore 5, 2)), (99, (.iload 5, 2)), (101, (.ifCond .eq 63, 3)), (104, (.aload_n 0, 1)), (105, (.iload 6, 2)), (107, (.putfield 349, 3)), (110, (.aload_n 0, 1)), (111, (.getfield 82, 3)), (114, (.aload_n 0, 1)), (115, (.getfield 358, 3)), (118, (.bipush 64, 2)), (120, (.aload_n 0, 1)), (121, (.getfield 352, 3)), (124, (.imul, 1)), (125, (.aload_n 0, 1)), (126, (.getfield 349, 3)), (129, (.iadd, 1)), (130, (.iastore, 1)), (131, (.aload_n 0, 1)), (132, (.dup, 1)), (133, (.getfield 358, 3)), (136, (.iconst 1, 1)), (137, (.iadd, 1)), (138, (.putfield 358, 3)), (141, (.aload_n 0, 1)), (142, (.invokevirtual 377, 3)), (145, (.ifCond .eq 16, 3)), (148, (.aload_n 0, 1)), (149, (.iload 4, 2)), (151, (.invokevirtual 380, 3)), (154, (.ifCond .eq 7, 3))] : List (Nat × (Instr × Nat))), decode cX12_go r.1 = .ok r.2 := by decide +kernel
theorem dX12_go_77 : decode cX12_go 77 = .ok (.ifCond .ge 7, 3) := dgX12_go_1 (77, (.ifCond .ge 7, 3)) (List.mem_of_getElem? (i := 0) rfl)
theorem dX12_go_84 : decode cX12_go 84 = .ok (.iload 6, 2) := dgX12_go_1 (84, (.iload 6, 2)) (List.mem_of_getElem? (i := 3) rfl)
theorem dX12_go_86 : decode cX12_go 86 = .ok (.invokevirtual 160, 3) := dgX12_go_1 (86, (.invokevirtual 160, 3)) (List.mem_of_getElem? (i := 4) rfl)
theorem dX12_go_89 : decode cX12_go 89 = .ok (.ifCond .ne 7, 3) := dgX12_go_1 (89, (.ifCond .ne 7, 3)) (List.mem_of_getElem? (i := 5) rfl)
theorem dX12_go_92 : decode cX12_go 92 = .ok (.iconst 1, 1) := dgX12_go_1 (92, (.iconst 1, 1)) (List.mem_of_getElem? (i := 6) rfl)
theorem dX12_go_93 : decode cX12_go 93 = .ok (.goto 4, 3) := dgX12_go_1 (93, (.goto 4, 3)) (List.mem_of_getElem? (i := 7) rfl)
theorem dX12_go_96 : decode cX12_go 96 = .ok (.iconst 0, 1) := dgX12_go_1 (96, (.iconst 0, 1)) (List.mem_of_getElem? (i := 8) rfl)
theorem dX12_go_97 : decode cX12_go 97 = .ok (.istore 5, 2) := dgX12_go_1 (97, (.istore 5, 2)) (List.mem_of_getElem? (i := 9) rfl)
theorem dX12_go_99 : decode cX12_go 99 = .ok (.iload 5, 2) := dgX12_go_1 (99, (.iload 5, 2)) (List.mem_of_getElem? (i := 10) rfl)
theorem dX12_go_101 : decode cX12_go 101 = .ok (.ifCond .eq 63, 3) := dgX12_go_1 (101, (.ifCond .eq 63, 3)) (List.mem_of_getElem? (i := 11) rfl)
theorem dX12_go_104 : decode cX12_go 104 = .ok (.aload_n 0, 1) := dgX12_go_1 (104, (.aload_n 0, 1)) (List.mem_of_getElem? (i := 12) rfl)
theorem dX12_go_105 : decode cX12_go 105 = .ok (.iload 6, 2) := dgX12_go_1 (105, (.iload 6, 2)) (List.mem_of_getElem? (i := 13) rfl)
theorem dX12_go_107 : decode cX12_go 107 = .ok (.putfield 349, 3) := dgX12_go_1 (107, (.putfield 349, 3)) (List.mem_of_getElem? (i := 14) rfl)
theorem dX12_go_110 : decode cX12_go 110 = .ok (.aload_n 0, 1) := dgX12_go_1 (110, (.aload_n 0, 1)) (List.mem_of_getElem? (i := 15) rfl)
theorem dX12_go_111 : decode cX12_go 111 = .ok (.getfield 82, 3) := dgX12_go_1 (111, (.getfield 82, 3)) (List.mem_of_getElem? (i := 16) rfl)
theorem dX12_go_114 : decode cX12_go 114 = .ok (.aload_n 0, 1) := dgX12_go_1 (114, (.aload_n 0, 1)) (List.mem_of_getElem? (i := 17) rfl)
theorem dX12_go_115 : decode cX12_go 115 = .ok (.getfield 358, 3) := dgX12_go_1 (115, (.getfield 358, 3)) (List.mem_of_getElem? (i := 18) rfl)
theorem dX12_go_118 : decode cX12_go 118 = .ok (.bipush 64, 2) := dgX12_go_1 (118, (.bipush 64, 2)) (List.mem_of_getElem? (i := 19) rfl)
theorem dX12_go_120 : decode cX12_go 120 = .ok (.aload_n 0, 1) := dgX12_go_1 (120, (.aload_n 0, 1)) (List.mem_of_getElem? (i := 20) rfl)
theorem dX12_go_121 : decode cX12_go 121 = .ok (.getfield 352, 3) := dgX12_go_1 (121, (.getfield 352, 3)) (List.mem_of_getElem? (i := 21) rfl)
theorem dX12_go_124 : decode cX12_go 124 = .ok (.imul, 1) := dgX12_go_1 (124, (.imul, 1)) (List.mem_of_getElem? (i := 22) rfl)
theorem dX12_go_125 : decode cX12_go 125 = .ok (.aload_n 0, 1) := dgX12_go_1 (125, (.aload_n 0, 1)) (List.mem_of_getElem? (i := 23) rfl)
theorem dX12_go_126 : decode cX12_go 126 = .ok (.getfield 349, 3) := dgX12_go_1 (126, (.getfield 349, 3)) (List.mem_of_getElem? (i := 24) rfl)
theorem dX12_go_129 : decode cX12_go 129 = .ok (.iadd, 1) := dgX12_go_1 (129, (.iadd, 1)) (List.mem_of_getElem? (i := 25) rfl)
theorem dX12_go_130 : decode cX12_go 130 = .ok (.iastore, 1) := dgX12_go_1 (130, (.iastore, 1)) (List.mem_of_getElem? (i := 26) rfl)
theorem dX12_go_131 : decode cX12_go 131 = .ok (.aload_n 0, 1) := dgX12_go_1 (131, (.aload_n 0, 1)) (List.mem_of_getElem? (i := 27) rfl)
theorem dX12_go_132 : decode cX12_go 132 = .ok (.dup, 1) := dgX12_go_1 (132, (.dup, 1)) (List.mem_of_getElem? (i := 28) rfl)
theorem dX12_go_133 : decode cX12_go 133 = .ok (.getfield 358, 3) := dgX12_go_1 (133, (.getfield 358, 3)) (List.mem_of_getElem? (i := 29) rfl)
theorem dX12_go_136 : decode cX12_go 136 = .ok (.iconst 1, 1) := dgX12_go_1 (136, (.iconst 1, 1)) (List.mem_of_getElem? (i := 30) rfl)
theorem dX12_go_137 : decode cX12_go 137 = .ok (.iadd, 1) := dgX12_go_1 (137, (.iadd, 1)) (List.mem_of_getElem? (i := 31) rfl)
theorem dX12_go_138 : decode cX12_go 138 = .ok (.putfield 358, 3) := dgX12_go_1 (138, (.putfield 358, 3)) (List.mem_of_getElem? (i := 32) rfl)
theorem dX12_go_141 : decode cX12_go 141 = .ok (.aload_n 0, 1) := dgX12_go_1 (141, (.aload_n 0, 1)) (List.mem_of_getElem? (i := 33) rfl)
theorem dX12_go_142 : decode cX12_go 142 = .ok (.invokevirtual 377, 3) := dgX12_go_1 (142, (.invokevirtual 377, 3)) (List.mem_of_getElem? (i := 34) rfl)
theorem dX12_go_145 : decode cX12_go 145 = .ok (.ifCond .eq 16, 3) := dgX12_go_1 (145, (.ifCond .eq 16, 3)) (List.mem_of_getElem? (i := 35) rfl)
theorem dX12_go_148 : decode cX12_go 148 = .ok (.aload_n 0, 1) := dgX12_go_1 (148, (.aload_n 0, 1)) (List.mem_of_getElem? (i := 36) rfl)
theorem dX12_go_149 : decode cX12_go 149 = .ok (.iload 4, 2) := dgX12_go_1 (149, (.iload 4, 2)) (List.mem_of_getElem? (i := 37) rfl)
theorem dX12_go_151 : decode cX12_go 151 = .ok (.invokevirtual 380, 3) := dgX12_go_1 (151, (.invokevirtual 380, 3)) (List.mem_of_getElem? (i := 38) rfl)
theorem dX12_go_154 : decode cX12_go 154 = .ok (.ifCond .eq 7, 3) := dgX12_go_1 (154, (.ifCond .eq 7, 3)) (List.mem_of_getElem? (i := 39) rfl)
theorem dgX12_go_2 : ∀ r ∈ ([(157, (.iconst 1, 1)), (158, (.goto 4, 3)), (161, (.iconst 0, 1)), (162, (.istore 5, 2)), (164, (.goto (-124), 3)), (167, (.return_, 1))] : List (Nat × (Instr × Nat))), decode cX12_go r.1 = .ok r.2 := by decide +kernel
theorem dX12_go_157 : decode cX12_go 157 = .ok (.iconst 1, 1) := dgX12_go_2 (157, (.iconst 1, 1)) (List.mem_of_getElem? (i := 0) rfl)
theorem dX12_go_158 : decode cX12_go 158 = .ok (.goto 4, 3) := dgX12_go_2 (158, (.goto 4, 3)) (List.mem_of_getElem? (i := 1) rfl)
theorem dX12_go_161 : decode cX12_go 161 = .ok (.iconst 0, 1) := dgX12_go_2 (161, (.iconst 0, 1)) (List.mem_of_getElem? (i := 2) rfl)
theorem dX12_go_162 : decode cX12_go 162 = .ok (.istore 5, 2) := dgX12_go_2 (162, (.istore 5, 2)) (List.mem_of_getElem? (i := 3) rfl)
theorem dX12_go_164 : decode cX12_go 164 = .ok (.goto (-124), 3) := dgX12_go_2 (164, (.goto (-124), 3)) (List.mem_of_getElem? (i := 4) rfl)
theorem dX12_go_167 : decode cX12_go 167 = .ok (.return_, 1) := dgX12_go_2 (167, (.return_, 1)) (List.mem_of_getElem? (i := 5) rfl)
theorem ki_X12_367 : Cond.constant RX12 367 1000000 ∈ tblG := tg 1614 (by decide +kernel) (by decide +kernel)
theorem ml_X12_374 : Cond.methodLink RX12 374 yX12_beside ∈ tblG := tg 1615 (by decide +kernel) (by decide +kernel)
theorem st_X12_beside : Cond.static yX12_beside ∈ tblG := tg 1616 (by decide +kernel) (by decide +kernel)
theorem cd_X12_beside : Cond.code yX12_beside cX12_beside 2 (some .int) ∈ tblG := tg 1617 (by decide +kernel) (by decide +kernel)
theorem gW_X12_beside : GoodIn tblG (wsG yX12_beside cX12_beside 2 (some .int)) := tgi cd_X12_beside
theorem gS_X12_374 : GoodIn tblG (va_wsS RX12 374 yX12_beside (wsG yX12_beside cX12_beside 2 (some .int))) := tgS ml_X12_374 st_X12_beside ini_X12 gW_X12_beside
theorem hs_X12_beside : yX12_beside.cls ≠ "java/lang/invoke/MethodHandle" ∧ yX12_beside.cls ≠ "java/lang/invoke/VarHandle" ∧ (parseMethodDescriptor yX12_beside.desc).map (fun d => d.parameters.length) = some 2 := by decide +kernel
theorem fl_X12_82 : Cond.fieldLink RX12 82 "LateGlassModel" "point" "[I" ∈ tblG := tg 1241 (by decide +kernel) (by decide +kernel)
theorem ml_X12_377 : Cond.methodLink RX12 377 yX12_isFree ∈ tblG := tg 1618 (by decide +kernel) (by decide +kernel)
theorem im_X12_isFree : Cond.instanceMethod yX12_isFree ∈ tblG := tg 1620 (by decide +kernel) (by decide +kernel)
theorem se_X12_isFree : Cond.selects RX12 yX12_isFree yX12_isFree ∈ tblG := tg 63 (by decide +kernel) (by decide +kernel)
theorem cd_X12_isFree : Cond.code yX12_isFree cX12_isFree 2 (some .boolean) ∈ tblG := tg 1621 (by decide +kernel) (by decide +kernel)
theorem gW_X12_isFree : GoodIn tblG (wsG yX12_isFree cX12_isFree 2 (some .boolean)) := tgi cd_X12_isFree
theorem gV_X12_377 : GoodIn tblG (wsV RX12 377 RX12 yX12_isFree (wsG yX12_isFree cX12_isFree 2 (some .boolean))) := tgV ml_X12_377 im_X12_isFree se_X12_isFree ini_X12 gW_X12_isFree
theorem hv_X12_isFree : yX12_isFree.cls = RX12 ∧ yX12_isFree.cls ≠ "java/lang/invoke/MethodHandle" ∧ yX12_isFree.cls ≠ "java/lang/invoke/VarHandle" ∧ (parseMethodDescriptor yX12_isFree.desc).map (fun d => d.parameters.length) = some 0 := by decide +kernel
theorem ml_X12_380 : Cond.methodLink RX12 380 yX12_passes ∈ tblG := tg 1640 (by decide +kernel) (by decide +kernel)
theorem im_X12_passes : Cond.instanceMethod yX12_passes ∈ tblG := tg 1642 (by decide +kernel) (by decide +kernel)
theorem se_X12_passes : Cond.selects RX12 yX12_passes yX12_passes ∈ tblG := tg 68 (by decide +kernel) (by decide +kernel)
theorem cd_X12_passes : Cond.code yX12_passes cX12_passes 3 (some .boolean) ∈ tblG := tg 1643 (by decide +kernel) (by decide +kernel)
theorem gW_X12_passes : GoodIn tblG (wsG yX12_passes cX12_passes 3 (some .boolean)) := tgi cd_X12_passes
theorem gV_X12_380 : GoodIn tblG (wsV RX12 380 RX12 yX12_passes (wsG yX12_passes cX12_passes 3 (some .boolean))) := tgV ml_X12_380 im_X12_passes se_X12_passes ini_X12 gW_X12_passes
theorem hv_X12_passes : yX12_passes.cls = RX12 ∧ yX12_passes.cls ≠ "java/lang/invoke/MethodHandle" ∧ yX12_passes.cls ≠ "java/lang/invoke/VarHandle" ∧ (parseMethodDescriptor yX12_passes.desc).map (fun d => d.parameters.length) = some 1 := by decide +kernel
set_option maxHeartbeats 4000000 in
set_option maxRecDepth 100000 in
theorem n_go (l : Launch) (G : g5_G) (b_o b_ro b_se b_re b_pt b_rf b_im b_ke b_tp b_nl b_op b_ar b_pi b_pa b_ws b_hw b_ip b_ah b_be b_me b_tr b_ld b_wn : Nat) (sz : Nat) (u_th : Int32) (u_sa : Int32) (u_fd : Int32) (u_td : Int32) (u_fr : Int32) (u_to : Int32) (u_so : Int32) (u_fa : Int32) (u_bd : Int32) (u_nc : Int32) (u_co : Int32) (u_le : Int32) (u_pd : Int32) (u_od : Int32) (u_la : Int32) (u_bk : Int32) (u_ce : Int32) (u_ho : Int32) (u_wy : Int32) (u_bt : Int32) (u_ps : Int32) (u_tg : Int32) (u_sn : Int32) (u_ic : Int32) (u_wd : Int32) (u_id : Int32) (p_1 : Int32) (p_2 : Int32) (p_3 : Int32) (p_4 : Int32) (u_wo : Int64) (u_va : Int64) (u_su : Int64) (u_st : Int64) (v_ro : Nat → Int32) (v_se : Nat → Int64) (v_re : Nat → Int64) (v_pt : Nat → Int32) (h_u_td : 0 ≤ u_td.toInt ∧ u_td.toInt ≤ 400) (h_u_fr : 0 ≤ u_fr.toInt ∧ u_fr.toInt ≤ 400) (h_u_to : 0 ≤ u_to.toInt ∧ u_to.toInt ≤ 400) (h_u_bd : 0 ≤ u_bd.toInt ∧ u_bd.toInt ≤ 1) (h_u_nc : 0 ≤ u_nc.toInt ∧ u_nc.toInt ≤ 12) (h_u_co : 0 ≤ u_co.toInt ∧ u_co.toInt ≤ 400) (h_u_pd : 0 ≤ u_pd.toInt ∧ u_pd.toInt ≤ 400) (h_u_la : 0 ≤ u_la.toInt ∧ u_la.toInt ≤ 4840) (h_u_bk : 0 ≤ u_bk.toInt ∧ u_bk.toInt ≤ 1) (h_u_ce : 0 ≤ u_ce.toInt ∧ u_ce.toInt ≤ 63) (h_u_ho : 0 ≤ u_ho.toInt ∧ u_ho.toInt ≤ 23) (h_u_wy : 0 ≤ u_wy.toInt ∧ u_wy.toInt ≤ 3) (h_u_bt : 0 ≤ u_bt.toInt ∧ u_bt.toInt ≤ 1000000) (h_u_ps : 0 ≤ u_ps.toInt ∧ u_ps.toInt ≤ 200) (h_u_ic : 0 ≤ u_ic.toInt ∧ u_ic.toInt ≤ 1) (h_u_id : 0 ≤ u_id.toInt ∧ u_id.toInt ≤ 1) (h_p_1 : 0 ≤ p_1.toInt ∧ p_1.toInt ≤ 63) (h_p_2 : 0 ≤ p_2.toInt ∧ p_2.toInt ≤ 3) (h_p_3 : 0 ≤ p_3.toInt ∧ p_3.toInt ≤ 23) (r_ro : MI v_ro) (r_pt : PTI v_pt) : Met l yX12_go (wsG yX12_go cX12_go 7 none) ({ frames := 6, cells := 0, slots := 0, locals := 150 }) (va_Pc [.ref b_o, .int p_1, .int p_2, .int p_3, .int p_4] (g5_P G [(b_o, (oc12 u_th u_sa b_rf b_ro b_im b_ke u_fd b_tp u_td u_fr u_to u_so u_wo u_fa u_bd u_nc b_nl u_co b_op b_ar u_le b_pi b_pa u_pd u_od b_ws b_hw u_la b_se b_re u_bk u_va u_su u_ce u_ho u_wy u_bt u_ps b_pt u_tg u_sn b_ip u_ic b_ah b_be b_me u_wd b_tr b_ld u_st b_wn u_id)), (b_ro, (arI G 5740 v_ro)), (b_se, (arJ G 13 v_se)), (b_re, (arJ G 400 v_re)), (b_pt, (arI G 200 v_pt))] sz)) (va_Qv (fun (u : va_W) => (∃ (o_la : Int32) (o_bk : Int32) (o_va : Int64) (o_su : Int64) (o_ce : Int32) (o_ho : Int32) (o_wy : Int32) (o_bt : Int32) (o_ps : Int32) (o_tg : Int32) (o_sn : Int32) (o_se : Nat → Int64) (o_re : Nat → Int64) (o_pt : Nat → Int32), (0 ≤ o_la.toInt ∧ o_la.toInt ≤ 4840) ∧ (0 ≤ o_bk.toInt ∧ o_bk.toInt ≤ 1) ∧ (0 ≤ o_ce.toInt ∧ o_ce.toInt ≤ 63) ∧ (0 ≤ o_ho.toInt ∧ o_ho.toInt ≤ 23) ∧ (0 ≤ o_wy.toInt ∧ o_wy.toInt ≤ 3) ∧ (0 ≤ o_bt.toInt ∧ o_bt.toInt ≤ 1000000) ∧ (0 ≤ o_ps.toInt ∧ o_ps.toInt ≤ 200) ∧ (PTI o_pt) ∧ (u = [(b_o, (oc12 u_th u_sa b_rf b_ro b_im b_ke u_fd b_tp u_td u_fr u_to u_so u_wo u_fa u_bd u_nc b_nl u_co b_op b_ar u_le b_pi b_pa u_pd u_od b_ws b_hw o_la b_se b_re o_bk o_va o_su o_ce o_ho o_wy o_bt o_ps b_pt o_tg o_sn b_ip u_ic b_ah b_be b_me u_wd b_tr b_ld u_st b_wn u_id)), (b_ro, (arI G 5740 v_ro)), (b_se, (arJ G 13 o_se)), (b_re, (arJ G 400 o_re)), (b_pt, (arI G 200 o_pt))]))) (g5_B G (va_A [(b_o, (oc12 u_th u_sa b_rf b_ro b_im b_ke u_fd b_tp u_td u_fr u_to u_so u_wo u_fa u_bd u_nc b_nl u_co b_op b_ar u_le b_pi b_pa u_pd u_od b_ws b_hw u_la b_se b_re u_bk u_va u_su u_ce u_ho u_wy u_bt u_ps b_pt u_tg u_sn b_ip u_ic b_ah b_be b_me u_wd b_tr b_ld u_st b_wn u_id)), (b_ro, (arI G 5740 v_ro)), (b_se, (arJ G 13 v_se)), (b_re, (arJ G 400 v_re)), (b_pt, (arI G 200 v_pt))] sz)) (va_A [(b_o, (oc12 u_th u_sa b_rf b_ro b_im b_ke u_fd b_tp u_td u_fr u_to u_so u_wo u_fa u_bd u_nc b_nl u_co b_op b_ar u_le b_pi b_pa u_pd u_od b_ws b_hw u_la b_se b_re u_bk u_va u_su u_ce u_ho u_wy u_bt u_ps b_pt u_tg u_sn b_ip u_ic b_ah b_be b_me u_wd b_tr b_ld u_st b_wn u_id)), (b_ro, (arI G 5740 v_ro)), (b_se, (arJ G 13 v_se)), (b_re, (arJ G 400 v_re)), (b_pt, (arI G 200 v_pt))] sz)) 0 0 (va_A [(b_o, (oc12 u_th u_sa b_rf b_ro b_im b_ke u_fd b_tp u_td u_fr u_to u_so u_wo u_fa u_bd u_nc b_nl u_co b_op b_ar u_le b_pi b_pa u_pd u_od b_ws b_hw u_la b_se b_re u_bk u_va u_su u_ce u_ho u_wy u_bt u_ps b_pt u_tg u_sn b_ip u_ic b_ah b_be b_me u_wd b_tr b_ld u_st b_wn u_id)), (b_ro, (arI G 5740 v_ro)), (b_se, (arJ G 13 v_se)), (b_re, (arJ G 400 v_re)), (b_pt, (arI G 200 v_pt))] sz) := by
  refine Met.ofW (cc := cX12_go) (maxL := 7) (ret := none) (by decide) rfl ?_
  intro p e s m args below meth c s₁ B hml hv
  obtain ⟨rfl, hsz, hP, hK, hD0, hN, hT⟩ := hv
  have hx := B.exec
  have hb := B.bytes
  have hr := B.returns
  have hts : ∀ w ∈ tblG, w.before _ s = true := fun w h => atoms_spec (ws := (wsG yX12_go cX12_go 7 none)) B.pre w (List.mem_cons_of_mem _ h)
  have hown : s.vm.findClass RX12 = some m.cls := findClass_of_methodNamed B.named
  have hlocks := B.notSynchronized
  subst hsz
  have hD := hD0.self (sz := s.heap.size)
  generalize hAe : va_A [(b_o, (oc12 u_th u_sa b_rf b_ro b_im b_ke u_fd b_tp u_td u_fr u_to u_so u_wo u_fa u_bd u_nc b_nl u_co b_op b_ar u_le b_pi b_pa u_pd u_od b_ws b_hw u_la b_se b_re u_bk u_va u_su u_ce u_ho u_wy u_bt u_ps b_pt u_tg u_sn b_ip u_ic b_ah b_be b_me u_wd b_tr b_ld u_st b_wn u_id)), (b_ro, (arI G 5740 v_ro)), (b_se, (arJ G 13 v_se)), (b_re, (arJ G 400 v_re)), (b_pt, (arI G 200 v_pt))] s.heap.size = A at hD hT ⊢
  have hA : ∀ q : Nat, s.heap.size ≤ q → A q := fun q h => by rw [← hAe]; exact Or.inr h
  have hS : va_S A s.heap s.heap [] := va_S.rf
  have hP : va_P G.1 vwCl [(b_o, (oc12 u_th u_sa b_rf b_ro b_im b_ke u_fd b_tp u_td u_fr u_to u_so u_wo u_fa u_bd u_nc b_nl u_co b_op b_ar u_le b_pi b_pa u_pd u_od b_ws b_hw u_la b_se b_re u_bk u_va u_su u_ce u_ho u_wy u_bt u_ps b_pt u_tg u_sn b_ip u_ic b_ah b_be b_me u_wd b_tr b_ld u_st b_wn u_id)), (b_ro, (arI G 5740 v_ro)), (b_se, (arJ G 13 v_se)), (b_re, (arJ G 400 v_re)), (b_pt, (arI G 200 v_pt))] s.heap := hP
  have hl := lv_entry ([.ref b_o, .int p_1, .int p_2, .int p_3, .int p_4]) (n := 7) (Nat.le_of_ble_eq_true rfl)
  rw [lg_entry_eq]
  generalize (lg_sl ([.ref b_o, .int p_1, .int p_2, .int p_3, .int p_4]) ++ List.replicate (7 - (lg_sl ([.ref b_o, .int p_1, .int p_2, .int p_3, .int p_4])).length) Slot.unset).toArray = ls at hl ⊢
  have hl : lv_has ls 7 [(0, .ref b_o), (1, .int p_1), (2, .int p_2), (3, .int p_3), (4, .int p_4)] := hl
  refine lv_aload_n hx hb dX12_go_0 rfl (lv_at hl 0 rfl) ?_
  refine lv_iload_n hx hb dX12_go_1 rfl (lv_at hl 1 rfl) ?_
  refine va_put (D := G.1) (ci := 12) (v := .int p_1) (ty := .int) (C := RX12) (T := TX12) (N := 52) hx hb hts inG_X12 tyX12 tyX12_ok nmX12 hown hK hP hD hS 0 rfl rfl 33 (by decide) (hts _ fl_X12_349) (fun _ h9 => h9) rfl (by decide +kernel) rfl rfl (Nat.le_of_ble_eq_true rfl) dX12_go_2 (fun H locs hP hD hS => ?_)
  refine g5_rs [(b_o, (oc12 u_th u_sa b_rf b_ro b_im b_ke u_fd b_tp u_td u_fr u_to u_so u_wo u_fa u_bd u_nc b_nl u_co b_op b_ar u_le b_pi b_pa u_pd u_od b_ws b_hw u_la b_se b_re u_bk u_va u_su p_1 u_ho u_wy u_bt u_ps b_pt u_tg u_sn b_ip u_ic b_ah b_be b_me u_wd b_tr b_ld u_st b_wn u_id)), (b_ro, (arI G 5740 v_ro)), (b_se, (arJ G 13 v_se)), (b_re, (arJ G 400 v_re)), (b_pt, (arI G 200 v_pt))] hP hD (fun hP hD => ?_)
  refine lv_aload_n hx hb dX12_go_5 rfl (lv_at hl 0 rfl) ?_
  refine lv_iload_n hx hb dX12_go_6 rfl (lv_at hl 2 rfl) ?_
  refine va_put (D := G.1) (ci := 12) (v := .int p_2) (ty := .int) (C := RX12) (T := TX12) (N := 52) hx hb hts inG_X12 tyX12 tyX12_ok nmX12 hown hK hP hD hS 0 rfl rfl 35 (by decide) (hts _ fl_X12_355) (fun _ h9 => h9) rfl (by decide +kernel) rfl rfl (Nat.le_of_ble_eq_true rfl) dX12_go_7 (fun H locs hP hD hS => ?_)
  refine g5_rs [(b_o, (oc12 u_th u_sa b_rf b_ro b_im b_ke u_fd b_tp u_td u_fr u_to u_so u_wo u_fa u_bd u_nc b_nl u_co b_op b_ar u_le b_pi b_pa u_pd u_od b_ws b_hw u_la b_se b_re u_bk u_va u_su p_1 u_ho p_2 u_bt u_ps b_pt u_tg u_sn b_ip u_ic b_ah b_be b_me u_wd b_tr b_ld u_st b_wn u_id)), (b_ro, (arI G 5740 v_ro)), (b_se, (arJ G 13 v_se)), (b_re, (arJ G 400 v_re)), (b_pt, (arI G 200 v_pt))] hP hD (fun hP hD => ?_)
  refine lv_aload_n hx hb dX12_go_10 rfl (lv_at hl 0 rfl) ?_
  refine lv_iload_n hx hb dX12_go_11 rfl (lv_at hl 3 rfl) ?_
  refine va_put (D := G.1) (ci := 12) (v := .int p_3) (ty := .int) (C := RX12) (T := TX12) (N := 52) hx hb hts inG_X12 tyX12 tyX12_ok nmX12 hown hK hP hD hS 0 rfl rfl 34 (by decide) (hts _ fl_X12_352) (fun _ h9 => h9) rfl (by decide +kernel) rfl rfl (Nat.le_of_ble_eq_true rfl) dX12_go_12 (fun H locs hP hD hS => ?_)
  refine g5_rs [(b_o, (oc12 u_th u_sa b_rf b_ro b_im b_ke u_fd b_tp u_td u_fr u_to u_so u_wo u_fa u_bd u_nc b_nl u_co b_op b_ar u_le b_pi b_pa u_pd u_od b_ws b_hw u_la b_se b_re u_bk u_va u_su p_1 p_3 p_2 u_bt u_ps b_pt u_tg u_sn b_ip u_ic b_ah b_be b_me u_wd b_tr b_ld u_st b_wn u_id)), (b_ro, (arI G 5740 v_ro)), (b_se, (arJ G 13 v_se)), (b_re, (arJ G 400 v_re)), (b_pt, (arI G 200 v_pt))] hP hD (fun hP hD => ?_)
  refine lv_aload_n hx hb dX12_go_15 rfl (lv_at hl 0 rfl) ?_
  refine lv_ldcw (v := 1000000) hx hb hown (hts _ ki_X12_367) dX12_go_16 ?_
  refine va_put (D := G.1) (ci := 12) (v := .int 1000000) (ty := .int) (C := RX12) (T := TX12) (N := 52) hx hb hts inG_X12 tyX12 tyX12_ok nmX12 hown hK hP hD hS 0 rfl rfl 36 (by decide) (hts _ fl_X12_361) (fun _ h9 => h9) rfl (by decide +kernel) rfl rfl (Nat.le_of_ble_eq_true rfl) dX12_go_19 (fun H locs hP hD hS => ?_)
  refine g5_rs [(b_o, (oc12 u_th u_sa b_rf b_ro b_im b_ke u_fd b_tp u_td u_fr u_to u_so u_wo u_fa u_bd u_nc b_nl u_co b_op b_ar u_le b_pi b_pa u_pd u_od b_ws b_hw u_la b_se b_re u_bk u_va u_su p_1 p_3 p_2 1000000 u_ps b_pt u_tg u_sn b_ip u_ic b_ah b_be b_me u_wd b_tr b_ld u_st b_wn u_id)), (b_ro, (arI G 5740 v_ro)), (b_se, (arJ G 13 v_se)), (b_re, (arJ G 400 v_re)), (b_pt, (arI G 200 v_pt))] hP hD (fun hP hD => ?_)
  refine lv_aload_n hx hb dX12_go_22 rfl (lv_at hl 0 rfl) ?_
  refine lv_iconst (v := 0) hx hb dX12_go_23 (by decide) ?_
  refine va_put (D := G.1) (ci := 12) (v := .int 0) (ty := .int) (C := RX12) (T := TX12) (N := 52) hx hb hts inG_X12 tyX12 tyX12_ok nmX12 hown hK hP hD hS 0 rfl rfl 37 (by decide) (hts _ fl_X12_358) (fun _ h9 => h9) rfl (by decide +kernel) rfl rfl (Nat.le_of_ble_eq_true rfl) dX12_go_24 (fun H locs hP hD hS => ?_)
  refine g5_rs [(b_o, (oc12 u_th u_sa b_rf b_ro b_im b_ke u_fd b_tp u_td u_fr u_to u_so u_wo u_fa u_bd u_nc b_nl u_co b_op b_ar u_le b_pi b_pa u_pd u_od b_ws b_hw u_la b_se b_re u_bk u_va u_su p_1 p_3 p_2 1000000 0 b_pt u_tg u_sn b_ip u_ic b_ah b_be b_me u_wd b_tr b_ld u_st b_wn u_id)), (b_ro, (arI G 5740 v_ro)), (b_se, (arJ G 13 v_se)), (b_re, (arJ G 400 v_re)), (b_pt, (arI G 200 v_pt))] hP hD (fun hP hD => ?_)
  refine lv_aload_n hx hb dX12_go_27 rfl (lv_at hl 0 rfl) ?_
  refine lv_iconst (v := 0) hx hb dX12_go_28 (by decide) ?_
  refine va_put (D := G.1) (ci := 12) (v := .int 0) (ty := .int) (C := RX12) (T := TX12) (N := 52) hx hb hts inG_X12 tyX12 tyX12_ok nmX12 hown hK hP hD hS 0 rfl rfl 39 (by decide) (hts _ fl_X12_368) (fun _ h9 => h9) rfl (by decide +kernel) rfl rfl (Nat.le_of_ble_eq_true rfl) dX12_go_29 (fun H locs hP hD hS => ?_)
  refine g5_rs [(b_o, (oc12 u_th u_sa b_rf b_ro b_im b_ke u_fd b_tp u_td u_fr u_to u_so u_wo u_fa u_bd u_nc b_nl u_co b_op b_ar u_le b_pi b_pa u_pd u_od b_ws b_hw u_la b_se b_re u_bk u_va u_su p_1 p_3 p_2 1000000 0 b_pt 0 u_sn b_ip u_ic b_ah b_be b_me u_wd b_tr b_ld u_st b_wn u_id)), (b_ro, (arI G 5740 v_ro)), (b_se, (arJ G 13 v_se)), (b_re, (arJ G 400 v_re)), (b_pt, (arI G 200 v_pt))] hP hD (fun hP hD => ?_)
  refine lv_aload_n hx hb dX12_go_32 rfl (lv_at hl 0 rfl) ?_
  refine lv_iconst (v := (-1)) hx hb dX12_go_33 (by decide) ?_
  refine va_put (D := G.1) (ci := 12) (v := .int (-1)) (ty := .int) (C := RX12) (T := TX12) (N := 52) hx hb hts inG_X12 tyX12 tyX12_ok nmX12 hown hK hP hD hS 0 rfl rfl 40 (by decide) (hts _ fl_X12_371) (fun _ h9 => h9) rfl (by decide +kernel) rfl rfl (Nat.le_of_ble_eq_true rfl) dX12_go_34 (fun H locs hP hD hS => ?_)
  refine g5_rs [(b_o, (oc12 u_th u_sa b_rf b_ro b_im b_ke u_fd b_tp u_td u_fr u_to u_so u_wo u_fa u_bd u_nc b_nl u_co b_op b_ar u_le b_pi b_pa u_pd u_od b_ws b_hw u_la b_se b_re u_bk u_va u_su p_1 p_3 p_2 1000000 0 b_pt 0 (-1) b_ip u_ic b_ah b_be b_me u_wd b_tr b_ld u_st b_wn u_id)), (b_ro, (arI G 5740 v_ro)), (b_se, (arJ G 13 v_se)), (b_re, (arJ G 400 v_re)), (b_pt, (arI G 200 v_pt))] hP hD (fun hP hD => ?_)
  refine lv_iconst (v := 1) hx hb dX12_go_37 (by decide) ?_
  refine lv_istore (lv' := [(5, .int 1), (0, .ref b_o), (1, .int p_1), (2, .int p_2), (3, .int p_3), (4, .int p_4)]) hx hb dX12_go_38 hl (by decide) rfl (fun ls hl => ?_)
  refine g5_loop (α := (Int32) × (Int32) × (Int32) × (Int64) × (Int64) × (Int32) × (Int32) × (Int32) × (Int32) × (Int32) × (Int32) × (Int32) × (Nat → Int64) × (Nat → Int64) × (Nat → Int32)) (fun (q : (Int32) × (Int32) × (Int32) × (Int64) × (Int64) × (Int32) × (Int32) × (Int32) × (Int32) × (Int32) × (Int32) × (Int32) × (Nat → Int64) × (Nat → Int64) × (Nat → Int32)) (ls : Array Slot) (H : Heap) (locs : List Loc) => match q with | (k40_5, k40_la, k40_bk, k40_va, k40_su, k40_ce, k40_ho, k40_wy, k40_bt, k40_ps, k40_tg, k40_sn, k40_se, k40_re, k40_pt) => lv_has ls 7 [(5, .int k40_5), (0, .ref b_o), (1, .int p_1), (2, .int p_2), (3, .int p_3), (4, .int p_4)] ∧ va_P G.1 vwCl [(b_o, (oc12 u_th u_sa b_rf b_ro b_im b_ke u_fd b_tp u_td u_fr u_to u_so u_wo u_fa u_bd u_nc b_nl u_co b_op b_ar u_le b_pi b_pa u_pd u_od b_ws b_hw k40_la b_se b_re k40_bk k40_va k40_su k40_ce k40_ho k40_wy k40_bt k40_ps b_pt k40_tg k40_sn b_ip u_ic b_ah b_be b_me u_wd b_tr b_ld u_st b_wn u_id)), (b_ro, (arI G 5740 v_ro)), (b_se, (arJ G 13 k40_se)), (b_re, (arJ G 400 k40_re)), (b_pt, (arI G 200 k40_pt))] H ∧ va_D A [(b_o, (oc12 u_th u_sa b_rf b_ro b_im b_ke u_fd b_tp u_td u_fr u_to u_so u_wo u_fa u_bd u_nc b_nl u_co b_op b_ar u_le b_pi b_pa u_pd u_od b_ws b_hw k40_la b_se b_re k40_bk k40_va k40_su k40_ce k40_ho k40_wy k40_bt k40_ps b_pt k40_tg k40_sn b_ip u_ic b_ah b_be b_me u_wd b_tr b_ld u_st b_wn u_id)), (b_ro, (arI G 5740 v_ro)), (b_se, (arJ G 13 k40_se)), (b_re, (arJ G 400 k40_re)), (b_pt, (arI G 200 k40_pt))] ∧ va_S A s.heap H locs ∧ (0 ≤ k40_5.toInt ∧ k40_5.toInt ≤ 1) ∧ (0 ≤ k40_la.toInt ∧ k40_la.toInt ≤ 4840) ∧ (0 ≤ k40_bk.toInt ∧ k40_bk.toInt ≤ 1) ∧ (0 ≤ k40_ce.toInt ∧ k40_ce.toInt ≤ 63) ∧ (0 ≤ k40_ho.toInt ∧ k40_ho.toInt ≤ 23) ∧ (0 ≤ k40_wy.toInt ∧ k40_wy.toInt ≤ 3) ∧ (0 ≤ k40_bt.toInt ∧ k40_bt.toInt ≤ 1000000) ∧ (0 ≤ k40_ps.toInt ∧ k40_ps.toInt ≤ 200) ∧ (PTI k40_pt)) (fun (q : (Int32) × (Int32) × (Int32) × (Int64) × (Int64) × (Int32) × (Int32) × (Int32) × (Int32) × (Int32) × (Int32) × (Int32) × (Nat → Int64) × (Nat → Int64) × (Nat → Int32)) => match q with | (k40_5, k40_la, k40_bk, k40_va, k40_su, k40_ce, k40_ho, k40_wy, k40_bt, k40_ps, k40_tg, k40_sn, k40_se, k40_re, k40_pt) => Int.toNat (2 * (200 - k40_ps.toInt) + k40_5.toInt)) (1, u_la, u_bk, u_va, u_su, p_1, p_3, p_2, 1000000, 0, 0, (-1), v_se, v_re, v_pt) ⟨lv_sub hl [0, 1, 2, 3, 4, 5] rfl, hP, hD, hS, ⟨by decide, by decide⟩, h_u_la, h_u_bk, h_p_1, h_p_3, h_p_2, ⟨by decide, by decide⟩, ⟨by decide, by decide⟩, r_pt⟩ ?_
  rintro ⟨k40_5, k40_la, k40_bk, k40_va, k40_su, k40_ce, k40_ho, k40_wy, k40_bt, k40_ps, k40_tg, k40_sn, k40_se, k40_re, k40_pt⟩ ls H locs ⟨hl, hP, hD, hS, i_1, i_2, i_3, i_4, i_5, i_6, i_7, i_8, i_9⟩ ih_40_10
  have hl : lv_has ls 7 [(5, .int k40_5), (0, .ref b_o), (1, .int p_1), (2, .int p_2), (3, .int p_3), (4, .int p_4)] := hl
  have i_1 : 0 ≤ k40_5.toInt ∧ k40_5.toInt ≤ 1 := i_1
  have i_2 : 0 ≤ k40_la.toInt ∧ k40_la.toInt ≤ 4840 := i_2
  have i_3 : 0 ≤ k40_bk.toInt ∧ k40_bk.toInt ≤ 1 := i_3
  have i_4 : 0 ≤ k40_ce.toInt ∧ k40_ce.toInt ≤ 63 := i_4
  have i_5 : 0 ≤ k40_ho.toInt ∧ k40_ho.toInt ≤ 23 := i_5
  have i_6 : 0 ≤ k40_wy.toInt ∧ k40_wy.toInt ≤ 3 := i_6
  have i_7 : 0 ≤ k40_bt.toInt ∧ k40_bt.toInt ≤ 1000000 := i_7
  have i_8 : 0 ≤ k40_ps.toInt ∧ k40_ps.toInt ≤ 200 := i_8
  have i_9 : PTI k40_pt := i_9
  refine g5_rs [(b_o, (oc12 u_th u_sa b_rf b_ro b_im b_ke u_fd b_tp u_td u_fr u_to u_so u_wo u_fa u_bd u_nc b_nl u_co b_op b_ar u_le b_pi b_pa u_pd u_od b_ws b_hw k40_la b_se b_re k40_bk k40_va k40_su k40_ce k40_ho k40_wy k40_bt k40_ps b_pt k40_tg k40_sn b_ip u_ic b_ah b_be b_me u_wd b_tr b_ld u_st b_wn u_id)), (b_ro, (arI G 5740 v_ro)), (b_se, (arJ G 13 k40_se)), (b_re, (arJ G 400 k40_re)), (b_pt, (arI G 200 k40_pt))] hP hD (fun hP hD => ?_)
  refine lv_iload hx hb dX12_go_40 (lv_at hl 0 rfl) ?_
  refine lv_if_eq (tgt := 167) hx hb dX12_go_42 (by decide) (fun c_11 => ?_) (fun c_11 => ?_)
  ·
    have i_11 : k40_5.toInt = 0 := by have z := g5_eq (a := k40_5.toInt) (b := 0) (by rfl) (by decide) c_11; omega
    exact W.vret hx hb hr (fun t ht hW => ⟨⟨[(b_o, (oc12 u_th u_sa b_rf b_ro b_im b_ke u_fd b_tp u_td u_fr u_to u_so u_wo u_fa u_bd u_nc b_nl u_co b_op b_ar u_le b_pi b_pa u_pd u_od b_ws b_hw k40_la b_se b_re k40_bk k40_va k40_su k40_ce k40_ho k40_wy k40_bt k40_ps b_pt k40_tg k40_sn b_ip u_ic b_ah b_be b_me u_wd b_tr b_ld u_st b_wn u_id)), (b_ro, (arI G 5740 v_ro)), (b_se, (arJ G 13 k40_se)), (b_re, (arJ G 400 k40_re)), (b_pt, (arI G 200 k40_pt))], rfl, ⟨k40_la, k40_bk, k40_va, k40_su, k40_ce, k40_ho, k40_wy, k40_bt, k40_ps, k40_tg, k40_sn, k40_se, k40_re, k40_pt, i_2, i_3, i_4, i_5, i_6, i_7, i_8, i_9, rfl⟩, by rw [ht]; exact hP.sub [0, 1, 2, 3, 4] rfl, hD.sub [0, 1, 2, 3, 4] (by decide) rfl⟩, hS.F ht⟩) hS.2.2 dX12_go_167
  ·
    have n_11 : gNe (k40_5.toInt) (0) := by have z := g5_eqN (a := k40_5.toInt) (b := 0) (by rfl) (by decide) c_11; unfold gNe; omega
    have i_11 : k40_5.toInt ≥ 1 := by have z := g5_eqN (a := k40_5.toInt) (b := 0) (by rfl) (by decide) c_11; omega
    refine lv_aload_n hx hb dX12_go_45 rfl (lv_at hl 1 rfl) ?_
    refine va_get (D := G.1) (ci := 12) (v := .int k40_ps) (C := RX12) (T := TX12) (N := 52) hx hb hts inG_X12 hown hK hP 0 rfl rfl 37 (by decide) (hts _ fl_X12_358) (fun _ h9 => h9) rfl dX12_go_46 ?_
    refine lv_sipush (v := 200) hx hb dX12_go_49 (by decide) ?_
    refine lv_icmp_ge (tgt := 167) hx hb dX12_go_52 (by decide) (fun c_12 => ?_) (fun c_12 => ?_)
    ·
      have i_12 : k40_ps.toInt ≥ 200 := by have z := g5_ge (a := k40_ps.toInt) (b := 200) (by rfl) (by decide) c_12; omega
      exact W.vret hx hb hr (fun t ht hW => ⟨⟨[(b_o, (oc12 u_th u_sa b_rf b_ro b_im b_ke u_fd b_tp u_td u_fr u_to u_so u_wo u_fa u_bd u_nc b_nl u_co b_op b_ar u_le b_pi b_pa u_pd u_od b_ws b_hw k40_la b_se b_re k40_bk k40_va k40_su k40_ce k40_ho k40_wy k40_bt k40_ps b_pt k40_tg k40_sn b_ip u_ic b_ah b_be b_me u_wd b_tr b_ld u_st b_wn u_id)), (b_ro, (arI G 5740 v_ro)), (b_se, (arJ G 13 k40_se)), (b_re, (arJ G 400 k40_re)), (b_pt, (arI G 200 k40_pt))], rfl, ⟨k40_la, k40_bk, k40_va, k40_su, k40_ce, k40_ho, k40_wy, k40_bt, k40_ps, k40_tg, k40_sn, k40_se, k40_re, k40_pt, i_2, i_3, i_4, i_5, i_6, i_7, i_8, i_9, rfl⟩, by rw [ht]; exact hP.sub [0, 1, 2, 3, 4] rfl, hD.sub [0, 1, 2, 3, 4] (by decide) rfl⟩, hS.F ht⟩) hS.2.2 dX12_go_167
    ·
      have i_12 : k40_ps.toInt < 200 := by have z := g5_geN (a := k40_ps.toInt) (b := 200) (by rfl) (by decide) c_12; omega
      refine lv_aload_n hx hb dX12_go_55 rfl (lv_at hl 1 rfl) ?_
      refine va_get (D := G.1) (ci := 12) (v := .int k40_ce) (C := RX12) (T := TX12) (N := 52) hx hb hts inG_X12 hown hK hP 0 rfl rfl 33 (by decide) (hts _ fl_X12_349) (fun _ h9 => h9) rfl dX12_go_56 ?_
      refine lv_aload_n hx hb dX12_go_59 rfl (lv_at hl 1 rfl) ?_
      refine va_get (D := G.1) (ci := 12) (v := .int k40_wy) (C := RX12) (T := TX12) (N := 52) hx hb hts inG_X12 hown hK hP 0 rfl rfl 35 (by decide) (hts _ fl_X12_355) (fun _ h9 => h9) rfl dX12_go_60 ?_
      obtain ⟨hPc, hDc, hFc⟩ := g5_sub3 (wc := []) hP hD hS hA [] (by decide) rfl
      refine va_calli (va_runS (As := [.int k40_ce, .int k40_wy]) (rest := []) ⟨hx, hb, hml, hown, hts⟩ (n_beside l G H.size k40_ce k40_wy i_4) (va_cwS 2 hts gS_X12_374 rfl rfl rfl hs_X12_beside ⟨Nat.le_of_ble_eq_true rfl, Nat.le_of_ble_eq_true rfl⟩) (g5_preS hPc hK hDc hN hT hS hFc) rfl rfl hl.1 rfl (lv_room (Nat.le_of_ble_eq_true rfl)) dX12_go_63 ⟨Nat.le_of_ble_eq_true rfl, Nat.le_of_ble_eq_true rfl⟩) hS (fun q _ h => hFc q h) hFc (fun r u t H1 locs ht hvm hw hB hz1 hk1 hS => ?_)
      obtain ⟨hP1, hD1⟩ := hB
      rw [ht] at hP1
      obtain ⟨z14, i_13, y15, rfl⟩ := hw
      have i_13 : -1 ≤ z14.toInt ∧ z14.toInt ≤ 63 := i_13
      have hP := g5_same hP hk1
      generalize H1 = H at hP hS ⊢
      refine g5_ti (v := z14) y15 ?_
      refine lv_istore (lv' := [(6, .int z14), (5, .int k40_5), (0, .ref b_o), (1, .int p_1), (2, .int p_2), (3, .int p_3), (4, .int p_4)]) hx hb dX12_go_66 hl (by decide) rfl (fun ls hl => ?_)
      refine lv_iload hx hb dX12_go_68 (lv_at hl 0 rfl) ?_
      refine lv_iconst (v := (-1)) hx hb dX12_go_70 (by decide) ?_
      refine lv_icmp_eq (tgt := 96) hx hb dX12_go_71 (by decide) (fun c_16 => ?_) (fun c_16 => ?_)
      ·
        have i_16 : z14.toInt = (-1) := by have z := g5_eq (a := z14.toInt) (b := (-1)) (by rfl) (by decide) c_16; omega
        refine lv_iconst (v := 0) hx hb dX12_go_96 (by decide) ?_
        refine lv_istore (lv' := [(5, .int 0), (6, .int z14), (0, .ref b_o), (1, .int p_1), (2, .int p_2), (3, .int p_3), (4, .int p_4)]) hx hb dX12_go_97 hl (by decide) rfl (fun ls hl => ?_)
        refine lv_iload hx hb dX12_go_99 (lv_at hl 0 rfl) ?_
        refine lv_if_eq (tgt := 164) hx hb dX12_go_101 (by decide) (fun c_17 => ?_) (fun c_17 => ?_)
        ·
          refine lv_goto (tgt := 40) hx hb dX12_go_164 (by decide) ?_
          exact ih_40_10 (0, k40_la, k40_bk, k40_va, k40_su, k40_ce, k40_ho, k40_wy, k40_bt, k40_ps, k40_tg, k40_sn, k40_se, k40_re, k40_pt) ls H locs (show Int.toNat (2 * (200 - k40_ps.toInt) + (0 : Int32).toInt) < Int.toNat (2 * (200 - k40_ps.toInt) + k40_5.toInt) by have zc_k40_5 : (0 : Int32).toInt = 0 := (by decide); omega) ⟨lv_sub hl [0, 2, 3, 4, 5, 6] rfl, hP, hD, hS, ⟨by decide, by decide⟩, i_2, i_3, i_4, i_5, i_6, i_7, i_8, i_9⟩
        ·
          exact absurd c_17 (by decide)
      ·
        have n_16 : gNe (z14.toInt) ((-1)) := by have z := g5_eqN (a := z14.toInt) (b := (-1)) (by rfl) (by decide) c_16; unfold gNe; omega
        have i_16 : z14.toInt ≥ 0 := by have z := g5_eqN (a := z14.toInt) (b := (-1)) (by rfl) (by decide) c_16; omega
        refine lv_aload_n hx hb dX12_go_74 rfl (lv_at hl 2 rfl) ?_
        refine lv_iload hx hb dX12_go_75 (lv_at hl 0 rfl) ?_
        refine lv_if_ge (tgt := 84) hx hb dX12_go_77 (by decide) (fun c_18 => ?_) (fun c_18 => ?_)
        ·
          have i_18 : z14.toInt ≥ 0 := by have z := g5_ge (a := z14.toInt) (b := 0) (by rfl) (by decide) c_18; omega
          refine lv_iload hx hb dX12_go_84 (lv_at hl 0 rfl) ?_
          obtain ⟨hPc, hDc, hFc⟩ := g5_sub3 (wc := [(b_o, (oc12 u_th u_sa b_rf b_ro b_im b_ke u_fd b_tp u_td u_fr u_to u_so u_wo u_fa u_bd u_nc b_nl u_co b_op b_ar u_le b_pi b_pa u_pd u_od b_ws b_hw k40_la b_se b_re k40_bk k40_va k40_su k40_ce k40_ho k40_wy k40_bt k40_ps b_pt k40_tg k40_sn b_ip u_ic b_ah b_be b_me u_wd b_tr b_ld u_st b_wn u_id)), (b_ro, (arI G 5740 v_ro))]) hP hD hS hA [0, 1] (by decide) rfl
          refine va_calli (va_runV (As := [.int z14]) (rest := []) ⟨hx, hb, hml, hown, hts⟩ (n_isWall l G b_o b_ro b_rf b_im b_ke b_tp b_nl b_op b_ar b_pi b_pa b_ws b_hw b_se b_re b_pt b_ip b_ah b_be b_me b_tr b_ld b_wn H.size u_th u_sa u_fd u_td u_fr u_to u_so u_fa u_bd u_nc u_co u_le u_pd u_od k40_la k40_bk k40_ce k40_ho k40_wy k40_bt k40_ps k40_tg k40_sn u_ic u_wd u_id z14 u_wo k40_va k40_su u_st v_ro h_u_td h_u_fr h_u_to h_u_bd h_u_nc h_u_co h_u_pd i_2 i_3 i_4 i_5 i_6 i_7 i_8 h_u_ic h_u_id ⟨by omega, by omega⟩ (r_ro)) (cwV 1 hts gV_X12_160 rfl rfl rfl hv_X12_isWall ⟨Nat.le_of_ble_eq_true rfl, Nat.le_of_ble_eq_true rfl⟩) (g5_preV hPc hK hDc hN hT hS hFc (ci := 12) (q0 := 0) rfl rfl) rfl rfl hl.1 rfl (lv_room (Nat.le_of_ble_eq_true rfl)) dX12_go_86 ⟨Nat.le_of_ble_eq_true rfl, Nat.le_of_ble_eq_true rfl⟩) hS (fun q _ h => hFc q h) hFc (fun r u t H1 locs ht hvm hw hB hz1 hk1 hS => ?_)
          obtain ⟨hP1, hD1⟩ := hB
          rw [ht] at hP1
          obtain ⟨z20, i_19, y21, rfl⟩ := hw
          have i_19 : 0 ≤ z20.toInt ∧ z20.toInt ≤ 1 := i_19
          obtain ⟨hP, hD⟩ := va_join (wr := [(b_se, (arJ G 13 k40_se)), (b_re, (arJ G 400 k40_re)), (b_pt, (arI G 200 k40_pt))]) hP hD [0, 1] [2, 3, 4] rfl rfl (by decide) (by decide) hk1 hFc hP1 hD1
          generalize H1 = H at hP hS ⊢
          refine g5_rs [(b_se, (arJ G 13 k40_se)), (b_re, (arJ G 400 k40_re)), (b_pt, (arI G 200 k40_pt)), (b_o, (oc12 u_th u_sa b_rf b_ro b_im b_ke u_fd b_tp u_td u_fr u_to u_so u_wo u_fa u_bd u_nc b_nl u_co b_op b_ar u_le b_pi b_pa u_pd u_od b_ws b_hw k40_la b_se b_re k40_bk k40_va k40_su k40_ce k40_ho k40_wy k40_bt k40_ps b_pt k40_tg k40_sn b_ip u_ic b_ah b_be b_me u_wd b_tr b_ld u_st b_wn u_id)), (b_ro, (arI G 5740 v_ro))] hP hD (fun hP hD => ?_)
          refine g5_ti (v := z20) y21 ?_
          refine lv_if_ne (tgt := 96) hx hb dX12_go_89 (by decide) (fun c_22 => ?_) (fun c_22 => ?_)
          ·
            have n_22 : gNe (z20.toInt) (0) := by have z := g5_ne (a := z20.toInt) (b := 0) (by rfl) (by decide) c_22; unfold gNe; omega
            have i_22 : z20.toInt ≥ 1 := by have z := g5_ne (a := z20.toInt) (b := 0) (by rfl) (by decide) c_22; omega
            refine lv_iconst (v := 0) hx hb dX12_go_96 (by decide) ?_
            refine lv_istore (lv' := [(5, .int 0), (6, .int z14), (0, .ref b_o), (1, .int p_1), (2, .int p_2), (3, .int p_3), (4, .int p_4)]) hx hb dX12_go_97 hl (by decide) rfl (fun ls hl => ?_)
            refine lv_iload hx hb dX12_go_99 (lv_at hl 0 rfl) ?_
            refine lv_if_eq (tgt := 164) hx hb dX12_go_101 (by decide) (fun c_23 => ?_) (fun c_23 => ?_)
            ·
              refine lv_goto (tgt := 40) hx hb dX12_go_164 (by decide) ?_
              exact ih_40_10 (0, k40_la, k40_bk, k40_va, k40_su, k40_ce, k40_ho, k40_wy, k40_bt, k40_ps, k40_tg, k40_sn, k40_se, k40_re, k40_pt) ls H locs (show Int.toNat (2 * (200 - k40_ps.toInt) + (0 : Int32).toInt) < Int.toNat (2 * (200 - k40_ps.toInt) + k40_5.toInt) by have zc_k40_5 : (0 : Int32).toInt = 0 := (by decide); omega) ⟨lv_sub hl [0, 2, 3, 4, 5, 6] rfl, hP.sub [3, 4, 0, 1, 2] rfl, hD.sub [3, 4, 0, 1, 2] (by decide) rfl, hS, ⟨by decide, by decide⟩, i_2, i_3, i_4, i_5, i_6, i_7, i_8, i_9⟩
            ·
              exact absurd c_23 (by decide)
          ·
            have i_22 : z20.toInt = 0 := by have z := g5_neN (a := z20.toInt) (b := 0) (by rfl) (by decide) c_22; omega
            refine lv_iconst (v := 1) hx hb dX12_go_92 (by decide) ?_
            refine lv_goto (tgt := 97) hx hb dX12_go_93 (by decide) ?_
            refine lv_istore (lv' := [(5, .int 1), (6, .int z14), (0, .ref b_o), (1, .int p_1), (2, .int p_2), (3, .int p_3), (4, .int p_4)]) hx hb dX12_go_97 hl (by decide) rfl (fun ls hl => ?_)
            refine lv_iload hx hb dX12_go_99 (lv_at hl 0 rfl) ?_
            refine lv_if_eq (tgt := 164) hx hb dX12_go_101 (by decide) (fun c_24 => ?_) (fun c_24 => ?_)
            ·
              exact absurd c_24 (by decide)
            ·
              refine lv_aload_n hx hb dX12_go_104 rfl (lv_at hl 2 rfl) ?_
              refine lv_iload hx hb dX12_go_105 (lv_at hl 1 rfl) ?_
              refine va_put (D := G.1) (ci := 12) (v := .int z14) (ty := .int) (C := RX12) (T := TX12) (N := 52) hx hb hts inG_X12 tyX12 tyX12_ok nmX12 hown hK hP hD hS 3 rfl rfl 33 (by decide) (hts _ fl_X12_349) (fun _ h9 => h9) rfl (by decide +kernel) rfl rfl (Nat.le_of_ble_eq_true rfl) dX12_go_107 (fun H locs hP hD hS => ?_)
              refine g5_rs [(b_se, (arJ G 13 k40_se)), (b_re, (arJ G 400 k40_re)), (b_pt, (arI G 200 k40_pt)), (b_o, (oc12 u_th u_sa b_rf b_ro b_im b_ke u_fd b_tp u_td u_fr u_to u_so u_wo u_fa u_bd u_nc b_nl u_co b_op b_ar u_le b_pi b_pa u_pd u_od b_ws b_hw k40_la b_se b_re k40_bk k40_va k40_su z14 k40_ho k40_wy k40_bt k40_ps b_pt k40_tg k40_sn b_ip u_ic b_ah b_be b_me u_wd b_tr b_ld u_st b_wn u_id)), (b_ro, (arI G 5740 v_ro))] hP hD (fun hP hD => ?_)
              refine lv_aload_n hx hb dX12_go_110 rfl (lv_at hl 2 rfl) ?_
              refine va_get (D := G.1) (ci := 12) (v := .ref b_pt) (C := RX12) (T := TX12) (N := 52) hx hb hts inG_X12 hown hK hP 3 rfl rfl 38 (by decide) (hts _ fl_X12_82) (fun _ h9 => h9) rfl dX12_go_111 ?_
              refine lv_aload_n hx hb dX12_go_114 rfl (lv_at hl 2 rfl) ?_
              refine va_get (D := G.1) (ci := 12) (v := .int k40_ps) (C := RX12) (T := TX12) (N := 52) hx hb hts inG_X12 hown hK hP 3 rfl rfl 37 (by decide) (hts _ fl_X12_358) (fun _ h9 => h9) rfl dX12_go_115 ?_
              refine lv_bipush (v := 64) hx hb dX12_go_118 (by decide) ?_
              refine lv_aload_n hx hb dX12_go_120 rfl (lv_at hl 2 rfl) ?_
              refine va_get (D := G.1) (ci := 12) (v := .int k40_ho) (C := RX12) (T := TX12) (N := 52) hx hb hts inG_X12 hown hK hP 3 rfl rfl 34 (by decide) (hts _ fl_X12_352) (fun _ h9 => h9) rfl dX12_go_121 ?_
              refine lv_imul hx hb dX12_go_124 ?_
              have t_25 : (64 * k40_ho).toInt = 64 * k40_ho.toInt := g5_imul (a := 64) (b := k40_ho.toInt) (by decide) (by rfl) (by omega) (by omega)
              refine lv_aload_n hx hb dX12_go_125 rfl (lv_at hl 2 rfl) ?_
              refine va_get (D := G.1) (ci := 12) (v := .int z14) (C := RX12) (T := TX12) (N := 52) hx hb hts inG_X12 hown hK hP 3 rfl rfl 33 (by decide) (hts _ fl_X12_349) (fun _ h9 => h9) rfl dX12_go_126 ?_
              refine lv_iadd hx hb dX12_go_129 ?_
              have t_26 : ((64 * k40_ho) + z14).toInt = (64 * k40_ho).toInt + z14.toInt := g5_iadd (a := (64 * k40_ho).toInt) (b := z14.toInt) (by rfl) (by rfl) (by omega) (by omega)
              refine va_iast hx hb hK hP hD hS 2 0 rfl rfl (i := k40_ps) (x := ((64 * k40_ho) + z14)) (vp_in_iff.mpr ⟨by omega, by omega⟩) dX12_go_130 (fun H locs hP hD hS => ?_)
              refine g5_rs [(b_se, (arJ G 13 k40_se)), (b_re, (arJ G 400 k40_re)), (b_pt, (arI G 200 (upd k40_pt k40_ps.toNatClampNeg ((64 * k40_ho) + z14)))), (b_o, (oc12 u_th u_sa b_rf b_ro b_im b_ke u_fd b_tp u_td u_fr u_to u_so u_wo u_fa u_bd u_nc b_nl u_co b_op b_ar u_le b_pi b_pa u_pd u_od b_ws b_hw k40_la b_se b_re k40_bk k40_va k40_su z14 k40_ho k40_wy k40_bt k40_ps b_pt k40_tg k40_sn b_ip u_ic b_ah b_be b_me u_wd b_tr b_ld u_st b_wn u_id)), (b_ro, (arI G 5740 v_ro))] hP hD (fun hP hD => ?_)
              refine lv_aload_n hx hb dX12_go_131 rfl (lv_at hl 2 rfl) ?_
              refine lv_dup hx hb dX12_go_132 rfl ?_
              refine va_get (D := G.1) (ci := 12) (v := .int k40_ps) (C := RX12) (T := TX12) (N := 52) hx hb hts inG_X12 hown hK hP 3 rfl rfl 37 (by decide) (hts _ fl_X12_358) (fun _ h9 => h9) rfl dX12_go_133 ?_
              refine lv_iconst (v := 1) hx hb dX12_go_136 (by decide) ?_
              refine lv_iadd hx hb dX12_go_137 ?_
              have t_27 : (k40_ps + 1).toInt = k40_ps.toInt + 1 := g5_iadd (a := k40_ps.toInt) (b := 1) (by rfl) (by decide) (by omega) (by omega)
              refine va_put (D := G.1) (ci := 12) (v := .int (k40_ps + 1)) (ty := .int) (C := RX12) (T := TX12) (N := 52) hx hb hts inG_X12 tyX12 tyX12_ok nmX12 hown hK hP hD hS 3 rfl rfl 37 (by decide) (hts _ fl_X12_358) (fun _ h9 => h9) rfl (by decide +kernel) rfl rfl (Nat.le_of_ble_eq_true rfl) dX12_go_138 (fun H locs hP hD hS => ?_)
              refine g5_rs [(b_se, (arJ G 13 k40_se)), (b_re, (arJ G 400 k40_re)), (b_pt, (arI G 200 (upd k40_pt k40_ps.toNatClampNeg ((64 * k40_ho) + z14)))), (b_o, (oc12 u_th u_sa b_rf b_ro b_im b_ke u_fd b_tp u_td u_fr u_to u_so u_wo u_fa u_bd u_nc b_nl u_co b_op b_ar u_le b_pi b_pa u_pd u_od b_ws b_hw k40_la b_se b_re k40_bk k40_va k40_su z14 k40_ho k40_wy k40_bt (k40_ps + 1) b_pt k40_tg k40_sn b_ip u_ic b_ah b_be b_me u_wd b_tr b_ld u_st b_wn u_id)), (b_ro, (arI G 5740 v_ro))] hP hD (fun hP hD => ?_)
              refine lv_aload_n hx hb dX12_go_141 rfl (lv_at hl 2 rfl) ?_
              obtain ⟨hPc, hDc, hFc⟩ := g5_sub3 (wc := [(b_o, (oc12 u_th u_sa b_rf b_ro b_im b_ke u_fd b_tp u_td u_fr u_to u_so u_wo u_fa u_bd u_nc b_nl u_co b_op b_ar u_le b_pi b_pa u_pd u_od b_ws b_hw k40_la b_se b_re k40_bk k40_va k40_su z14 k40_ho k40_wy k40_bt (k40_ps + 1) b_pt k40_tg k40_sn b_ip u_ic b_ah b_be b_me u_wd b_tr b_ld u_st b_wn u_id)), (b_ro, (arI G 5740 v_ro)), (b_se, (arJ G 13 k40_se)), (b_re, (arJ G 400 k40_re))]) hP hD hS hA [3, 4, 0, 1] (by decide) rfl
              refine va_calli (va_runV (As := []) (rest := []) ⟨hx, hb, hml, hown, hts⟩ (n_isFree l G b_o b_ro b_se b_re b_rf b_im b_ke b_tp b_nl b_op b_ar b_pi b_pa b_ws b_hw b_pt b_ip b_ah b_be b_me b_tr b_ld b_wn H.size u_th u_sa u_fd u_td u_fr u_to u_so u_fa u_bd u_nc u_co u_le u_pd u_od k40_la k40_bk z14 k40_ho k40_wy k40_bt (k40_ps + 1) k40_tg k40_sn u_ic u_wd u_id u_wo k40_va k40_su u_st v_ro k40_se k40_re h_u_td h_u_fr h_u_to h_u_bd h_u_nc h_u_co h_u_pd i_2 i_3 ⟨by omega, by omega⟩ i_5 i_6 i_7 ⟨by omega, by omega⟩ h_u_ic h_u_id (r_ro)) (cwV 0 hts gV_X12_377 rfl rfl rfl hv_X12_isFree ⟨Nat.le_of_ble_eq_true rfl, Nat.le_of_ble_eq_true rfl⟩) (g5_preV hPc hK hDc hN hT hS hFc (ci := 12) (q0 := 0) rfl rfl) rfl rfl hl.1 rfl (lv_room (Nat.le_of_ble_eq_true rfl)) dX12_go_142 ⟨Nat.le_of_ble_eq_true rfl, Nat.le_of_ble_eq_true rfl⟩) hS (fun q _ h => hFc q h) hFc (fun r u t H1 locs ht hvm hw hB hz1 hk1 hS => ?_)
              obtain ⟨hP1, hD1⟩ := hB
              rw [ht] at hP1
              obtain ⟨z31, z32, z33, z34, z35, z36, z37, z38, i_28, i_29, i_30, y39, rfl⟩ := hw
              have i_28 : 0 ≤ z31.toInt ∧ z31.toInt ≤ 1 := i_28
              have i_29 : 0 ≤ z32.toInt ∧ z32.toInt ≤ 4840 := i_29
              have i_30 : 0 ≤ z33.toInt ∧ z33.toInt ≤ 1 := i_30
              obtain ⟨hP, hD⟩ := va_join (wr := [(b_pt, (arI G 200 (upd k40_pt k40_ps.toNatClampNeg ((64 * k40_ho) + z14))))]) hP hD [3, 4, 0, 1] [2] rfl rfl (by decide) (by decide) hk1 hFc hP1 hD1
              generalize H1 = H at hP hS ⊢
              refine g5_rs [(b_pt, (arI G 200 (upd k40_pt k40_ps.toNatClampNeg ((64 * k40_ho) + z14)))), (b_o, (oc12 u_th u_sa b_rf b_ro b_im b_ke u_fd b_tp u_td u_fr u_to u_so u_wo u_fa u_bd u_nc b_nl u_co b_op b_ar u_le b_pi b_pa u_pd u_od b_ws b_hw z32 b_se b_re z33 z34 z35 z14 k40_ho k40_wy k40_bt (k40_ps + 1) b_pt k40_tg z36 b_ip u_ic b_ah b_be b_me u_wd b_tr b_ld u_st b_wn u_id)), (b_ro, (arI G 5740 v_ro)), (b_se, (arJ G 13 z37)), (b_re, (arJ G 400 z38))] hP hD (fun hP hD => ?_)
              refine g5_ti (v := z31) y39 ?_
              refine lv_if_eq (tgt := 161) hx hb dX12_go_145 (by decide) (fun c_40 => ?_) (fun c_40 => ?_)
              ·
                have i_40 : z31.toInt = 0 := by have z := g5_eq (a := z31.toInt) (b := 0) (by rfl) (by decide) c_40; omega
                refine lv_iconst (v := 0) hx hb dX12_go_161 (by decide) ?_
                refine lv_istore (lv' := [(5, .int 0), (6, .int z14), (0, .ref b_o), (1, .int p_1), (2, .int p_2), (3, .int p_3), (4, .int p_4)]) hx hb dX12_go_162 hl (by decide) rfl (fun ls hl => ?_)
                refine lv_goto (tgt := 40) hx hb dX12_go_164 (by decide) ?_
                exact ih_40_10 (0, z32, z33, z34, z35, z14, k40_ho, k40_wy, k40_bt, (k40_ps + 1), k40_tg, z36, z37, z38, (upd k40_pt k40_ps.toNatClampNeg ((64 * k40_ho) + z14))) ls H locs (show Int.toNat (2 * (200 - (k40_ps + 1).toInt) + (0 : Int32).toInt) < Int.toNat (2 * (200 - k40_ps.toInt) + k40_5.toInt) by have zc_k40_5 : (0 : Int32).toInt = 0 := (by decide); omega) ⟨lv_sub hl [0, 2, 3, 4, 5, 6] rfl, hP.sub [1, 2, 3, 4, 0] rfl, hD.sub [1, 2, 3, 4, 0] (by decide) rfl, hS, ⟨by decide, by decide⟩, i_29, i_30, ⟨by omega, by omega⟩, i_5, i_6, i_7, ⟨by omega, by omega⟩, pt_upd i_9 (by omega)⟩
              ·
                have n_40 : gNe (z31.toInt) (0) := by have z := g5_eqN (a := z31.toInt) (b := 0) (by rfl) (by decide) c_40; unfold gNe; omega
                have i_40 : z31.toInt ≥ 1 := by have z := g5_eqN (a := z31.toInt) (b := 0) (by rfl) (by decide) c_40; omega
                refine lv_aload_n hx hb dX12_go_148 rfl (lv_at hl 2 rfl) ?_
                refine lv_iload hx hb dX12_go_149 (lv_at hl 6 rfl) ?_
                obtain ⟨hPc, hDc, hFc⟩ := g5_sub3 (wc := [(b_o, (oc12 u_th u_sa b_rf b_ro b_im b_ke u_fd b_tp u_td u_fr u_to u_so u_wo u_fa u_bd u_nc b_nl u_co b_op b_ar u_le b_pi b_pa u_pd u_od b_ws b_hw z32 b_se b_re z33 z34 z35 z14 k40_ho k40_wy k40_bt (k40_ps + 1) b_pt k40_tg z36 b_ip u_ic b_ah b_be b_me u_wd b_tr b_ld u_st b_wn u_id)), (b_ro, (arI G 5740 v_ro)), (b_se, (arJ G 13 z37)), (b_re, (arJ G 400 z38))]) hP hD hS hA [1, 2, 3, 4] (by decide) rfl
                refine va_calli (va_runV (As := [.int p_4]) (rest := []) ⟨hx, hb, hml, hown, hts⟩ (n_passes l G b_o b_ro b_se b_re b_rf b_im b_ke b_tp b_nl b_op b_ar b_pi b_pa b_ws b_hw b_pt b_ip b_ah b_be b_me b_tr b_ld b_wn H.size u_th u_sa u_fd u_td u_fr u_to u_so u_fa u_bd u_nc u_co u_le u_pd u_od z32 z33 z14 k40_ho k40_wy k40_bt (k40_ps + 1) k40_tg z36 u_ic u_wd u_id p_4 u_wo z34 z35 u_st v_ro z37 z38 h_u_td h_u_fr h_u_to h_u_bd h_u_nc h_u_co h_u_pd i_29 i_30 ⟨by omega, by omega⟩ i_5 i_6 i_7 ⟨by omega, by omega⟩ h_u_ic h_u_id (r_ro)) (cwV 1 hts gV_X12_380 rfl rfl rfl hv_X12_passes ⟨Nat.le_of_ble_eq_true rfl, Nat.le_of_ble_eq_true rfl⟩) (g5_preV hPc hK hDc hN hT hS hFc (ci := 12) (q0 := 0) rfl rfl) rfl rfl hl.1 rfl (lv_room (Nat.le_of_ble_eq_true rfl)) dX12_go_151 ⟨Nat.le_of_ble_eq_true rfl, Nat.le_of_ble_eq_true rfl⟩) hS (fun q _ h => hFc q h) hFc (fun r u t H1 locs ht hvm hw hB hz1 hk1 hS => ?_)
                obtain ⟨hP1, hD1⟩ := hB
                rw [ht] at hP1
                obtain ⟨z47, z48, z49, z50, z51, z52, z53, z54, z55, z56, z57, i_41, i_42, i_43, i_44, i_45, i_46, y58, rfl⟩ := hw
                have i_41 : 0 ≤ z47.toInt ∧ z47.toInt ≤ 1 := i_41
                have i_42 : 0 ≤ z48.toInt ∧ z48.toInt ≤ 4840 := i_42
                have i_43 : 0 ≤ z49.toInt ∧ z49.toInt ≤ 1 := i_43
                have i_44 : 0 ≤ z52.toInt ∧ z52.toInt ≤ 23 := i_44
                have i_45 : 0 ≤ z53.toInt ∧ z53.toInt ≤ 3 := i_45
                have i_46 : 0 ≤ z54.toInt ∧ z54.toInt ≤ 1000000 := i_46
                obtain ⟨hP, hD⟩ := va_join (wr := [(b_pt, (arI G 200 (upd k40_pt k40_ps.toNatClampNeg ((64 * k40_ho) + z14))))]) hP hD [1, 2, 3, 4] [0] rfl rfl (by decide) (by decide) hk1 hFc hP1 hD1
                generalize H1 = H at hP hS ⊢
                refine g5_rs [(b_pt, (arI G 200 (upd k40_pt k40_ps.toNatClampNeg ((64 * k40_ho) + z14)))), (b_o, (oc12 u_th u_sa b_rf b_ro b_im b_ke u_fd b_tp u_td u_fr u_to u_so u_wo u_fa u_bd u_nc b_nl u_co b_op b_ar u_le b_pi b_pa u_pd u_od b_ws b_hw z48 b_se b_re z49 z50 z51 z14 z52 z53 z54 (k40_ps + 1) b_pt z55 z36 b_ip u_ic b_ah b_be b_me u_wd b_tr b_ld u_st b_wn u_id)), (b_ro, (arI G 5740 v_ro)), (b_se, (arJ G 13 z56)), (b_re, (arJ G 400 z57))] hP hD (fun hP hD => ?_)
                refine g5_ti (v := z47) y58 ?_
                refine lv_if_eq (tgt := 161) hx hb dX12_go_154 (by decide) (fun c_59 => ?_) (fun c_59 => ?_)
                ·
                  have i_59 : z47.toInt = 0 := by have z := g5_eq (a := z47.toInt) (b := 0) (by rfl) (by decide) c_59; omega
                  refine lv_iconst (v := 0) hx hb dX12_go_161 (by decide) ?_
                  refine lv_istore (lv' := [(5, .int 0), (6, .int z14), (0, .ref b_o), (1, .int p_1), (2, .int p_2), (3, .int p_3), (4, .int p_4)]) hx hb dX12_go_162 hl (by decide) rfl (fun ls hl => ?_)
                  refine lv_goto (tgt := 40) hx hb dX12_go_164 (by decide) ?_
                  exact ih_40_10 (0, z48, z49, z50, z51, z14, z52, z53, z54, (k40_ps + 1), z55, z36, z56, z57, (upd k40_pt k40_ps.toNatClampNeg ((64 * k40_ho) + z14))) ls H locs (show Int.toNat (2 * (200 - (k40_ps + 1).toInt) + (0 : Int32).toInt) < Int.toNat (2 * (200 - k40_ps.toInt) + k40_5.toInt) by have zc_k40_5 : (0 : Int32).toInt = 0 := (by decide); omega) ⟨lv_sub hl [0, 2, 3, 4, 5, 6] rfl, hP.sub [1, 2, 3, 4, 0] rfl, hD.sub [1, 2, 3, 4, 0] (by decide) rfl, hS, ⟨by decide, by decide⟩, i_42, i_43, ⟨by omega, by omega⟩, i_44, i_45, i_46, ⟨by omega, by omega⟩, pt_upd i_9 (by omega)⟩
                ·
                  have n_59 : gNe (z47.toInt) (0) := by have z := g5_eqN (a := z47.toInt) (b := 0) (by rfl) (by decide) c_59; unfold gNe; omega
                  have i_59 : z47.toInt ≥ 1 := by have z := g5_eqN (a := z47.toInt) (b := 0) (by rfl) (by decide) c_59; omega
                  refine lv_iconst (v := 1) hx hb dX12_go_157 (by decide) ?_
                  refine lv_goto (tgt := 162) hx hb dX12_go_158 (by decide) ?_
                  refine lv_istore (lv' := [(5, .int 1), (6, .int z14), (0, .ref b_o), (1, .int p_1), (2, .int p_2), (3, .int p_3), (4, .int p_4)]) hx hb dX12_go_162 hl (by decide) rfl (fun ls hl => ?_)
                  refine lv_goto (tgt := 40) hx hb dX12_go_164 (by decide) ?_
                  exact ih_40_10 (1, z48, z49, z50, z51, z14, z52, z53, z54, (k40_ps + 1), z55, z36, z56, z57, (upd k40_pt k40_ps.toNatClampNeg ((64 * k40_ho) + z14))) ls H locs (show Int.toNat (2 * (200 - (k40_ps + 1).toInt) + (1 : Int32).toInt) < Int.toNat (2 * (200 - k40_ps.toInt) + k40_5.toInt) by have zc_k40_5 : (1 : Int32).toInt = 1 := (by decide); omega) ⟨lv_sub hl [0, 2, 3, 4, 5, 6] rfl, hP.sub [1, 2, 3, 4, 0] rfl, hD.sub [1, 2, 3, 4, 0] (by decide) rfl, hS, ⟨by decide, by decide⟩, i_42, i_43, ⟨by omega, by omega⟩, i_44, i_45, i_46, ⟨by omega, by omega⟩, pt_upd i_9 (by omega)⟩
        ·
          have i_18 : z14.toInt < 0 := by have z := g5_geN (a := z14.toInt) (b := 0) (by rfl) (by decide) c_18; omega
          omega
