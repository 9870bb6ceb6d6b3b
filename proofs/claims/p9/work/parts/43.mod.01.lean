set_option maxHeartbeats 4000000 in
set_option maxRecDepth 100000 in
theorem n_reckonAll (l : Launch) (G : g5_G) (b_o b_ro b_se b_re b_rf b_im b_ke b_tp b_nl b_op b_ar b_pi b_pa b_ws b_hw b_pt b_ip b_ah b_be b_me b_tr b_ld b_wn : Nat) (sz : Nat) (u_th : Int32) (u_sa : Int32) (u_fd : Int32) (u_td : Int32) (u_fr : Int32) (u_to : Int32) (u_so : Int32) (u_fa : Int32) (u_bd : Int32) (u_nc : Int32) (u_co : Int32) (u_le : Int32) (u_pd : Int32) (u_od : Int32) (u_la : Int32) (u_bk : Int32) (u_ce : Int32) (u_ho : Int32) (u_wy : Int32) (u_bt : Int32) (u_ps : Int32) (u_tg : Int32) (u_sn : Int32) (u_ic : Int32) (u_wd : Int32) (u_id : Int32) (p_1 : Int32) (p_2 : Int32) (u_wo : Int64) (u_va : Int64) (u_su : Int64) (u_st : Int64) (v_ro : Nat → Int32) (v_se : Nat → Int64) (v_re : Nat → Int64) (h_u_td : 0 ≤ u_td.toInt ∧ u_td.toInt ≤ 400) (h_u_fr : 0 ≤ u_fr.toInt ∧ u_fr.toInt ≤ 400) (h_u_to : 0 ≤ u_to.toInt ∧ u_to.toInt ≤ 400) (h_u_bd : 0 ≤ u_bd.toInt ∧ u_bd.toInt ≤ 1) (h_u_nc : 0 ≤ u_nc.toInt ∧ u_nc.toInt ≤ 12) (h_u_co : 0 ≤ u_co.toInt ∧ u_co.toInt ≤ 400) (h_u_pd : 0 ≤ u_pd.toInt ∧ u_pd.toInt ≤ 400) (h_u_la : 0 ≤ u_la.toInt ∧ u_la.toInt ≤ 4840) (h_u_bk : 0 ≤ u_bk.toInt ∧ u_bk.toInt ≤ 1) (h_u_ce : 0 ≤ u_ce.toInt ∧ u_ce.toInt ≤ 63) (h_u_ho : 0 ≤ u_ho.toInt ∧ u_ho.toInt ≤ 23) (h_u_wy : 0 ≤ u_wy.toInt ∧ u_wy.toInt ≤ 3) (h_u_bt : 0 ≤ u_bt.toInt ∧ u_bt.toInt ≤ 1000000) (h_u_ps : 0 ≤ u_ps.toInt ∧ u_ps.toInt ≤ 200) (h_u_ic : 0 ≤ u_ic.toInt ∧ u_ic.toInt ≤ 1) (h_u_id : 0 ≤ u_id.toInt ∧ u_id.toInt ≤ 1) (h_p_1 : 0 ≤ p_1.toInt ∧ p_1.toInt ≤ 400) (h_p_2 : 0 ≤ p_2.toInt ∧ p_2.toInt ≤ 400) (r_ro : MI v_ro) (e_cd : cdOK v_ro (u_la.toNatClampNeg + 98) p_1.toInt p_2.toInt) : Met l yX12_reckonAll (wsG yX12_reckonAll cX12_reckonAll 7 none) ({ frames := 1, cells := 0, slots := 0, locals := 25 }) (va_Pc [.ref b_o, .int p_1, .int p_2] (g5_P G [(b_o, (oc12 u_th u_sa b_rf b_ro b_im b_ke u_fd b_tp u_td u_fr u_to u_so u_wo u_fa u_bd u_nc b_nl u_co b_op b_ar u_le b_pi b_pa u_pd u_od b_ws b_hw u_la b_se b_re u_bk u_va u_su u_ce u_ho u_wy u_bt u_ps b_pt u_tg u_sn b_ip u_ic b_ah b_be b_me u_wd b_tr b_ld u_st b_wn u_id)), (b_ro, (arI G 5740 v_ro)), (b_se, (arJ G 13 v_se)), (b_re, (arJ G 400 v_re))] sz)) (va_Qv (fun (u : va_W) => (∃ (o_bk : Int32) (o_va : Int64) (o_re : Nat → Int64), (0 ≤ o_bk.toInt ∧ o_bk.toInt ≤ 1) ∧ (u = [(b_o, (oc12 u_th u_sa b_rf b_ro b_im b_ke u_fd b_tp u_td u_fr u_to u_so u_wo u_fa u_bd u_nc b_nl u_co b_op b_ar u_le b_pi b_pa u_pd u_od b_ws b_hw u_la b_se b_re o_bk o_va u_su u_ce u_ho u_wy u_bt u_ps b_pt u_tg u_sn b_ip u_ic b_ah b_be b_me u_wd b_tr b_ld u_st b_wn u_id)), (b_ro, (arI G 5740 v_ro)), (b_se, (arJ G 13 v_se)), (b_re, (arJ G 400 o_re))]))) (g5_B G (va_A [(b_o, (oc12 u_th u_sa b_rf b_ro b_im b_ke u_fd b_tp u_td u_fr u_to u_so u_wo u_fa u_bd u_nc b_nl u_co b_op b_ar u_le b_pi b_pa u_pd u_od b_ws b_hw u_la b_se b_re u_bk u_va u_su u_ce u_ho u_wy u_bt u_ps b_pt u_tg u_sn b_ip u_ic b_ah b_be b_me u_wd b_tr b_ld u_st b_wn u_id)), (b_ro, (arI G 5740 v_ro)), (b_se, (arJ G 13 v_se)), (b_re, (arJ G 400 v_re))] sz)) (va_A [(b_o, (oc12 u_th u_sa b_rf b_ro b_im b_ke u_fd b_tp u_td u_fr u_to u_so u_wo u_fa u_bd u_nc b_nl u_co b_op b_ar u_le b_pi b_pa u_pd u_od b_ws b_hw u_la b_se b_re u_bk u_va u_su u_ce u_ho u_wy u_bt u_ps b_pt u_tg u_sn b_ip u_ic b_ah b_be b_me u_wd b_tr b_ld u_st b_wn u_id)), (b_ro, (arI G 5740 v_ro)), (b_se, (arJ G 13 v_se)), (b_re, (arJ G 400 v_re))] sz)) 0 0 (va_A [(b_o, (oc12 u_th u_sa b_rf b_ro b_im b_ke u_fd b_tp u_td u_fr u_to u_so u_wo u_fa u_bd u_nc b_nl u_co b_op b_ar u_le b_pi b_pa u_pd u_od b_ws b_hw u_la b_se b_re u_bk u_va u_su u_ce u_ho u_wy u_bt u_ps b_pt u_tg u_sn b_ip u_ic b_ah b_be b_me u_wd b_tr b_ld u_st b_wn u_id)), (b_ro, (arI G 5740 v_ro)), (b_se, (arJ G 13 v_se)), (b_re, (arJ G 400 v_re))] sz) := by
  refine Met.ofW (cc := cX12_reckonAll) (maxL := 7) (ret := none) (by decide) rfl ?_
  intro p e s m args below meth c s₁ B hml hv
  obtain ⟨rfl, hsz, hP, hK, hD0, hN, hT⟩ := hv
  have hx := B.exec
  have hb := B.bytes
  have hr := B.returns
  have hts : ∀ w ∈ tblG, w.before _ s = true := fun w h => atoms_spec (ws := (wsG yX12_reckonAll cX12_reckonAll 7 none)) B.pre w (List.mem_cons_of_mem _ h)
  have hown : s.vm.findClass RX12 = some m.cls := findClass_of_methodNamed B.named
  have hlocks := B.notSynchronized
  subst hsz
  have hD := hD0.self (sz := s.heap.size)
  generalize hAe : va_A [(b_o, (oc12 u_th u_sa b_rf b_ro b_im b_ke u_fd b_tp u_td u_fr u_to u_so u_wo u_fa u_bd u_nc b_nl u_co b_op b_ar u_le b_pi b_pa u_pd u_od b_ws b_hw u_la b_se b_re u_bk u_va u_su u_ce u_ho u_wy u_bt u_ps b_pt u_tg u_sn b_ip u_ic b_ah b_be b_me u_wd b_tr b_ld u_st b_wn u_id)), (b_ro, (arI G 5740 v_ro)), (b_se, (arJ G 13 v_se)), (b_re, (arJ G 400 v_re))] s.heap.size = A at hD hT ⊢
  have hA : ∀ q : Nat, s.heap.size ≤ q → A q := fun q h => by rw [← hAe]; exact Or.inr h
  have hS : va_S A s.heap s.heap [] := va_S.rf
  have hP : va_P G.1 vwCl [(b_o, (oc12 u_th u_sa b_rf b_ro b_im b_ke u_fd b_tp u_td u_fr u_to u_so u_wo u_fa u_bd u_nc b_nl u_co b_op b_ar u_le b_pi b_pa u_pd u_od b_ws b_hw u_la b_se b_re u_bk u_va u_su u_ce u_ho u_wy u_bt u_ps b_pt u_tg u_sn b_ip u_ic b_ah b_be b_me u_wd b_tr b_ld u_st b_wn u_id)), (b_ro, (arI G 5740 v_ro)), (b_se, (arJ G 13 v_se)), (b_re, (arJ G 400 v_re))] s.heap := hP
  have hl := lv_entry ([.ref b_o, .int p_1, .int p_2]) (n := 7) (Nat.le_of_ble_eq_true rfl)
  rw [lg_entry_eq]
  generalize (lg_sl ([.ref b_o, .int p_1, .int p_2]) ++ List.replicate (7 - (lg_sl ([.ref b_o, .int p_1, .int p_2])).length) Slot.unset).toArray = ls at hl ⊢
  have hl : lv_has ls 7 [(0, .ref b_o), (1, .int p_1), (2, .int p_2)] := hl
  obtain ⟨hh, hh0, hh1⟩ := id e_cd
  refine lv_aload_n hx hb dX12_reckonAll_0 rfl (lv_at hl 0 rfl) ?_
  refine lv_iconst (v := 0) hx hb dX12_reckonAll_1 (by decide) ?_
  refine va_put (D := G.1) (ci := 12) (v := .int 0) (ty := .boolean) (C := RX12) (T := TX12) (N := 52) hx hb hts inG_X12 tyX12 tyX12_ok nmX12 hown hK hP hD hS 0 rfl rfl 30 (by decide) (hts _ fl_X12_326) (fun _ h9 => h9) rfl (by decide +kernel) rfl rfl (Nat.le_of_ble_eq_true rfl) dX12_reckonAll_2 (fun H locs hP hD hS => ?_)
  refine g5_rs [(b_o, (oc12 u_th u_sa b_rf b_ro b_im b_ke u_fd b_tp u_td u_fr u_to u_so u_wo u_fa u_bd u_nc b_nl u_co b_op b_ar u_le b_pi b_pa u_pd u_od b_ws b_hw u_la b_se b_re 0 u_va u_su u_ce u_ho u_wy u_bt u_ps b_pt u_tg u_sn b_ip u_ic b_ah b_be b_me u_wd b_tr b_ld u_st b_wn u_id)), (b_ro, (arI G 5740 v_ro)), (b_se, (arJ G 13 v_se)), (b_re, (arJ G 400 v_re))] hP hD (fun hP hD => ?_)
  refine lv_iconst (v := 0) hx hb dX12_reckonAll_5 (by decide) ?_
  refine lv_istore_n (lv' := [(3, .int 0), (0, .ref b_o), (1, .int p_1), (2, .int p_2)]) hx hb dX12_reckonAll_6 rfl hl (by decide) rfl (fun ls hl => ?_)
  refine lv_iload_n hx hb dX12_reckonAll_7 rfl (lv_at hl 2 rfl) ?_
  refine lv_istore (lv' := [(4, .int p_1), (3, .int 0), (0, .ref b_o), (1, .int p_1), (2, .int p_2)]) hx hb dX12_reckonAll_8 hl (by decide) rfl (fun ls hl => ?_)
  refine g5_loop (α := (Int32) × (Int32) × (Int32) × (Nat → Int64)) (fun (q : (Int32) × (Int32) × (Int32) × (Nat → Int64)) (ls : Array Slot) (H : Heap) (locs : List Loc) => match q with | (k10_4, k10_3, k10_bk, k10_re) => lv_has ls 7 [(3, .int k10_3), (4, .int k10_4), (0, .ref b_o), (1, .int p_1), (2, .int p_2)] ∧ va_P G.1 vwCl [(b_o, (oc12 u_th u_sa b_rf b_ro b_im b_ke u_fd b_tp u_td u_fr u_to u_so u_wo u_fa u_bd u_nc b_nl u_co b_op b_ar u_le b_pi b_pa u_pd u_od b_ws b_hw u_la b_se b_re k10_bk u_va u_su u_ce u_ho u_wy u_bt u_ps b_pt u_tg u_sn b_ip u_ic b_ah b_be b_me u_wd b_tr b_ld u_st b_wn u_id)), (b_ro, (arI G 5740 v_ro)), (b_se, (arJ G 13 v_se)), (b_re, (arJ G 400 k10_re))] H ∧ va_D A [(b_o, (oc12 u_th u_sa b_rf b_ro b_im b_ke u_fd b_tp u_td u_fr u_to u_so u_wo u_fa u_bd u_nc b_nl u_co b_op b_ar u_le b_pi b_pa u_pd u_od b_ws b_hw u_la b_se b_re k10_bk u_va u_su u_ce u_ho u_wy u_bt u_ps b_pt u_tg u_sn b_ip u_ic b_ah b_be b_me u_wd b_tr b_ld u_st b_wn u_id)), (b_ro, (arI G 5740 v_ro)), (b_se, (arJ G 13 v_se)), (b_re, (arJ G 400 k10_re))] ∧ va_S A s.heap H locs ∧ (0 ≤ k10_4.toInt ∧ k10_4.toInt ≤ 400) ∧ (0 ≤ k10_3.toInt ∧ k10_3.toInt ≤ 400) ∧ (0 ≤ k10_bk.toInt ∧ k10_bk.toInt ≤ 1) ∧ (p_1.toInt ≤ k10_4.toInt) ∧ (k10_4.toInt < p_2.toInt → k10_3.toInt = ((hh k10_4.toInt.toNat : Nat) : Int))) (fun (q : (Int32) × (Int32) × (Int32) × (Nat → Int64)) => match q with | (k10_4, k10_3, k10_bk, k10_re) => Int.toNat (401 - k10_4.toInt)) (p_1, 0, 0, v_re) ⟨lv_sub hl [1, 0, 2, 3, 4] rfl, hP, hD, hS, h_p_1, ⟨by decide, by decide⟩, ⟨by decide, by decide⟩, Int.le_refl _, fun _ => by rw [hh0]; decide⟩ ?_
  rintro ⟨k10_4, k10_3, k10_bk, k10_re⟩ ls H locs ⟨hl, hP, hD, hS, i_1, i_2, i_3, i_4, i_5⟩ ih_10_6
  have hl : lv_has ls 7 [(3, .int k10_3), (4, .int k10_4), (0, .ref b_o), (1, .int p_1), (2, .int p_2)] := hl
  have i_1 : 0 ≤ k10_4.toInt ∧ k10_4.toInt ≤ 400 := i_1
  have i_2 : 0 ≤ k10_3.toInt ∧ k10_3.toInt ≤ 400 := i_2
  have i_3 : 0 ≤ k10_bk.toInt ∧ k10_bk.toInt ≤ 1 := i_3
  have i_4 : p_1.toInt ≤ k10_4.toInt := i_4
  have i_5 : k10_4.toInt < p_2.toInt → k10_3.toInt = ((hh k10_4.toInt.toNat : Nat) : Int) := i_5
  refine g5_rs [(b_o, (oc12 u_th u_sa b_rf b_ro b_im b_ke u_fd b_tp u_td u_fr u_to u_so u_wo u_fa u_bd u_nc b_nl u_co b_op b_ar u_le b_pi b_pa u_pd u_od b_ws b_hw u_la b_se b_re k10_bk u_va u_su u_ce u_ho u_wy u_bt u_ps b_pt u_tg u_sn b_ip u_ic b_ah b_be b_me u_wd b_tr b_ld u_st b_wn u_id)), (b_ro, (arI G 5740 v_ro)), (b_se, (arJ G 13 v_se)), (b_re, (arJ G 400 k10_re))] hP hD (fun hP hD => ?_)
  refine lv_iload hx hb dX12_reckonAll_10 (lv_at hl 1 rfl) ?_
  refine lv_iload_n hx hb dX12_reckonAll_12 rfl (lv_at hl 4 rfl) ?_
  refine lv_icmp_ge (tgt := 245) hx hb dX12_reckonAll_13 (by decide) (fun c_7 => ?_) (fun c_7 => ?_)
  ·
    have i_7 : k10_4.toInt ≥ p_2.toInt := by have z := g5_ge (a := k10_4.toInt) (b := p_2.toInt) (by rfl) (by rfl) c_7; omega
    refine lv_aload_n hx hb dX12_reckonAll_245 rfl (lv_at hl 2 rfl) ?_
    refine lv_iload_n hx hb dX12_reckonAll_246 rfl (lv_at hl 0 rfl) ?_
    refine lv_if_le (tgt := 259) hx hb dX12_reckonAll_247 (by decide) (fun c_8 => ?_) (fun c_8 => ?_)
    ·
      have i_8 : k10_3.toInt ≤ 0 := by have z := g5_le (a := k10_3.toInt) (b := 0) (by rfl) (by decide) c_8; omega
      refine lv_lconst (v := 0) hx hb dX12_reckonAll_259 (by decide) ?_
      refine va_put (D := G.1) (ci := 12) (v := .long 0) (ty := .long) (C := RX12) (T := TX12) (N := 52) hx hb hts inG_X12 tyX12 tyX12_ok nmX12 hown hK hP hD hS 0 rfl rfl 31 (by decide) (hts _ fl_X12_340) (fun _ h9 => h9) rfl (by decide +kernel) rfl rfl (Nat.le_of_ble_eq_true rfl) dX12_reckonAll_260 (fun H locs hP hD hS => ?_)
      refine g5_rs [(b_o, (oc12 u_th u_sa b_rf b_ro b_im b_ke u_fd b_tp u_td u_fr u_to u_so u_wo u_fa u_bd u_nc b_nl u_co b_op b_ar u_le b_pi b_pa u_pd u_od b_ws b_hw u_la b_se b_re k10_bk 0 u_su u_ce u_ho u_wy u_bt u_ps b_pt u_tg u_sn b_ip u_ic b_ah b_be b_me u_wd b_tr b_ld u_st b_wn u_id)), (b_ro, (arI G 5740 v_ro)), (b_se, (arJ G 13 v_se)), (b_re, (arJ G 400 k10_re))] hP hD (fun hP hD => ?_)
      exact W.vret hx hb hr (fun t ht hW => ⟨⟨[(b_o, (oc12 u_th u_sa b_rf b_ro b_im b_ke u_fd b_tp u_td u_fr u_to u_so u_wo u_fa u_bd u_nc b_nl u_co b_op b_ar u_le b_pi b_pa u_pd u_od b_ws b_hw u_la b_se b_re k10_bk 0 u_su u_ce u_ho u_wy u_bt u_ps b_pt u_tg u_sn b_ip u_ic b_ah b_be b_me u_wd b_tr b_ld u_st b_wn u_id)), (b_ro, (arI G 5740 v_ro)), (b_se, (arJ G 13 v_se)), (b_re, (arJ G 400 k10_re))], rfl, ⟨k10_bk, 0, k10_re, i_3, rfl⟩, by rw [ht]; exact hP.sub [0, 1, 2, 3] rfl, hD.sub [0, 1, 2, 3] (by decide) rfl⟩, hS.F ht⟩) hS.2.2 dX12_reckonAll_263
    ·
      have i_8 : k10_3.toInt > 0 := by have z := g5_leN (a := k10_3.toInt) (b := 0) (by rfl) (by decide) c_8; omega
      refine lv_aload_n hx hb dX12_reckonAll_250 rfl (lv_at hl 2 rfl) ?_
      refine va_get (D := G.1) (ci := 12) (v := .ref b_re) (C := RX12) (T := TX12) (N := 52) hx hb hts inG_X12 hown hK hP 0 rfl rfl 29 (by decide) (hts _ fl_X12_79) (fun _ h9 => h9) rfl dX12_reckonAll_251 ?_
      refine lv_iconst (v := 0) hx hb dX12_reckonAll_254 (by decide) ?_
      refine va_lald hx hb hK hP 3 1 rfl rfl (i := 0) (by unfold vp_in; decide) dX12_reckonAll_255 ?_
      refine g5_tl (v := (k10_re 0)) rfl ?_
      refine lv_goto (tgt := 260) hx hb dX12_reckonAll_256 (by decide) ?_
      refine va_put (D := G.1) (ci := 12) (v := .long (k10_re 0)) (ty := .long) (C := RX12) (T := TX12) (N := 52) hx hb hts inG_X12 tyX12 tyX12_ok nmX12 hown hK hP hD hS 0 rfl rfl 31 (by decide) (hts _ fl_X12_340) (fun _ h9 => h9) rfl (by decide +kernel) rfl rfl (Nat.le_of_ble_eq_true rfl) dX12_reckonAll_260 (fun H locs hP hD hS => ?_)
      refine g5_rs [(b_o, (oc12 u_th u_sa b_rf b_ro b_im b_ke u_fd b_tp u_td u_fr u_to u_so u_wo u_fa u_bd u_nc b_nl u_co b_op b_ar u_le b_pi b_pa u_pd u_od b_ws b_hw u_la b_se b_re k10_bk (k10_re 0) u_su u_ce u_ho u_wy u_bt u_ps b_pt u_tg u_sn b_ip u_ic b_ah b_be b_me u_wd b_tr b_ld u_st b_wn u_id)), (b_ro, (arI G 5740 v_ro)), (b_se, (arJ G 13 v_se)), (b_re, (arJ G 400 k10_re))] hP hD (fun hP hD => ?_)
      exact W.vret hx hb hr (fun t ht hW => ⟨⟨[(b_o, (oc12 u_th u_sa b_rf b_ro b_im b_ke u_fd b_tp u_td u_fr u_to u_so u_wo u_fa u_bd u_nc b_nl u_co b_op b_ar u_le b_pi b_pa u_pd u_od b_ws b_hw u_la b_se b_re k10_bk (k10_re 0) u_su u_ce u_ho u_wy u_bt u_ps b_pt u_tg u_sn b_ip u_ic b_ah b_be b_me u_wd b_tr b_ld u_st b_wn u_id)), (b_ro, (arI G 5740 v_ro)), (b_se, (arJ G 13 v_se)), (b_re, (arJ G 400 k10_re))], rfl, ⟨k10_bk, (k10_re 0), k10_re, i_3, rfl⟩, by rw [ht]; exact hP.sub [0, 1, 2, 3] rfl, hD.sub [0, 1, 2, 3] (by decide) rfl⟩, hS.F ht⟩) hS.2.2 dX12_reckonAll_263
  ·
    have i_7 : k10_4.toInt < p_2.toInt := by have z := g5_geN (a := k10_4.toInt) (b := p_2.toInt) (by rfl) (by rfl) c_7; omega
    refine lv_aload_n hx hb dX12_reckonAll_16 rfl (lv_at hl 2 rfl) ?_
    refine va_get (D := G.1) (ci := 12) (v := .int k10_bk) (C := RX12) (T := TX12) (N := 52) hx hb hts inG_X12 hown hK hP 0 rfl rfl 30 (by decide) (hts _ fl_X12_326) (fun _ h9 => h9) rfl dX12_reckonAll_17 ?_
    refine lv_if_ne (tgt := 245) hx hb dX12_reckonAll_20 (by decide) (fun c_9 => ?_) (fun c_9 => ?_)
    ·
      have n_9 : gNe (k10_bk.toInt) (0) := by have z := g5_ne (a := k10_bk.toInt) (b := 0) (by rfl) (by decide) c_9; unfold gNe; omega
      have i_9 : k10_bk.toInt ≥ 1 := by have z := g5_ne (a := k10_bk.toInt) (b := 0) (by rfl) (by decide) c_9; omega
      refine lv_aload_n hx hb dX12_reckonAll_245 rfl (lv_at hl 2 rfl) ?_
      refine lv_iload_n hx hb dX12_reckonAll_246 rfl (lv_at hl 0 rfl) ?_
      refine lv_if_le (tgt := 259) hx hb dX12_reckonAll_247 (by decide) (fun c_10 => ?_) (fun c_10 => ?_)
      ·
        have i_10 : k10_3.toInt ≤ 0 := by have z := g5_le (a := k10_3.toInt) (b := 0) (by rfl) (by decide) c_10; omega
        refine lv_lconst (v := 0) hx hb dX12_reckonAll_259 (by decide) ?_
        refine va_put (D := G.1) (ci := 12) (v := .long 0) (ty := .long) (C := RX12) (T := TX12) (N := 52) hx hb hts inG_X12 tyX12 tyX12_ok nmX12 hown hK hP hD hS 0 rfl rfl 31 (by decide) (hts _ fl_X12_340) (fun _ h9 => h9) rfl (by decide +kernel) rfl rfl (Nat.le_of_ble_eq_true rfl) dX12_reckonAll_260 (fun H locs hP hD hS => ?_)
        refine g5_rs [(b_o, (oc12 u_th u_sa b_rf b_ro b_im b_ke u_fd b_tp u_td u_fr u_to u_so u_wo u_fa u_bd u_nc b_nl u_co b_op b_ar u_le b_pi b_pa u_pd u_od b_ws b_hw u_la b_se b_re k10_bk 0 u_su u_ce u_ho u_wy u_bt u_ps b_pt u_tg u_sn b_ip u_ic b_ah b_be b_me u_wd b_tr b_ld u_st b_wn u_id)), (b_ro, (arI G 5740 v_ro)), (b_se, (arJ G 13 v_se)), (b_re, (arJ G 400 k10_re))] hP hD (fun hP hD => ?_)
        exact W.vret hx hb hr (fun t ht hW => ⟨⟨[(b_o, (oc12 u_th u_sa b_rf b_ro b_im b_ke u_fd b_tp u_td u_fr u_to u_so u_wo u_fa u_bd u_nc b_nl u_co b_op b_ar u_le b_pi b_pa u_pd u_od b_ws b_hw u_la b_se b_re k10_bk 0 u_su u_ce u_ho u_wy u_bt u_ps b_pt u_tg u_sn b_ip u_ic b_ah b_be b_me u_wd b_tr b_ld u_st b_wn u_id)), (b_ro, (arI G 5740 v_ro)), (b_se, (arJ G 13 v_se)), (b_re, (arJ G 400 k10_re))], rfl, ⟨k10_bk, 0, k10_re, i_3, rfl⟩, by rw [ht]; exact hP.sub [0, 1, 2, 3] rfl, hD.sub [0, 1, 2, 3] (by decide) rfl⟩, hS.F ht⟩) hS.2.2 dX12_reckonAll_263
      ·
        have i_10 : k10_3.toInt > 0 := by have z := g5_leN (a := k10_3.toInt) (b := 0) (by rfl) (by decide) c_10; omega
        refine lv_aload_n hx hb dX12_reckonAll_250 rfl (lv_at hl 2 rfl) ?_
        refine va_get (D := G.1) (ci := 12) (v := .ref b_re) (C := RX12) (T := TX12) (N := 52) hx hb hts inG_X12 hown hK hP 0 rfl rfl 29 (by decide) (hts _ fl_X12_79) (fun _ h9 => h9) rfl dX12_reckonAll_251 ?_
        refine lv_iconst (v := 0) hx hb dX12_reckonAll_254 (by decide) ?_
        refine va_lald hx hb hK hP 3 1 rfl rfl (i := 0) (by unfold vp_in; decide) dX12_reckonAll_255 ?_
        refine g5_tl (v := (k10_re 0)) rfl ?_
        refine lv_goto (tgt := 260) hx hb dX12_reckonAll_256 (by decide) ?_
        refine va_put (D := G.1) (ci := 12) (v := .long (k10_re 0)) (ty := .long) (C := RX12) (T := TX12) (N := 52) hx hb hts inG_X12 tyX12 tyX12_ok nmX12 hown hK hP hD hS 0 rfl rfl 31 (by decide) (hts _ fl_X12_340) (fun _ h9 => h9) rfl (by decide +kernel) rfl rfl (Nat.le_of_ble_eq_true rfl) dX12_reckonAll_260 (fun H locs hP hD hS => ?_)
        refine g5_rs [(b_o, (oc12 u_th u_sa b_rf b_ro b_im b_ke u_fd b_tp u_td u_fr u_to u_so u_wo u_fa u_bd u_nc b_nl u_co b_op b_ar u_le b_pi b_pa u_pd u_od b_ws b_hw u_la b_se b_re k10_bk (k10_re 0) u_su u_ce u_ho u_wy u_bt u_ps b_pt u_tg u_sn b_ip u_ic b_ah b_be b_me u_wd b_tr b_ld u_st b_wn u_id)), (b_ro, (arI G 5740 v_ro)), (b_se, (arJ G 13 v_se)), (b_re, (arJ G 400 k10_re))] hP hD (fun hP hD => ?_)
        exact W.vret hx hb hr (fun t ht hW => ⟨⟨[(b_o, (oc12 u_th u_sa b_rf b_ro b_im b_ke u_fd b_tp u_td u_fr u_to u_so u_wo u_fa u_bd u_nc b_nl u_co b_op b_ar u_le b_pi b_pa u_pd u_od b_ws b_hw u_la b_se b_re k10_bk (k10_re 0) u_su u_ce u_ho u_wy u_bt u_ps b_pt u_tg u_sn b_ip u_ic b_ah b_be b_me u_wd b_tr b_ld u_st b_wn u_id)), (b_ro, (arI G 5740 v_ro)), (b_se, (arJ G 13 v_se)), (b_re, (arJ G 400 k10_re))], rfl, ⟨k10_bk, (k10_re 0), k10_re, i_3, rfl⟩, by rw [ht]; exact hP.sub [0, 1, 2, 3] rfl, hD.sub [0, 1, 2, 3] (by decide) rfl⟩, hS.F ht⟩) hS.2.2 dX12_reckonAll_263
    ·
      have i_9 : k10_bk.toInt = 0 := by have z := g5_neN (a := k10_bk.toInt) (b := 0) (by rfl) (by decide) c_9; omega
      refine lv_aload_n hx hb dX12_reckonAll_23 rfl (lv_at hl 2 rfl) ?_
      refine va_get (D := G.1) (ci := 12) (v := .ref b_ro) (C := RX12) (T := TX12) (N := 52) hx hb hts inG_X12 hown hK hP 0 rfl rfl 3 (by decide) (hts _ fl_X12_13) (fun _ h9 => h9) rfl dX12_reckonAll_24 ?_
      refine lv_aload_n hx hb dX12_reckonAll_27 rfl (lv_at hl 2 rfl) ?_
      refine va_get (D := G.1) (ci := 12) (v := .int u_la) (C := RX12) (T := TX12) (N := 52) hx hb hts inG_X12 hown hK hP 0 rfl rfl 27 (by decide) (hts _ fl_X12_329) (fun _ h9 => h9) rfl dX12_reckonAll_28 ?_
      refine lv_bipush (v := 98) hx hb dX12_reckonAll_31 (by decide) ?_
      refine lv_iadd hx hb dX12_reckonAll_33 ?_
      have t_11 : (u_la + 98).toInt = u_la.toInt + 98 := g5_iadd (a := u_la.toInt) (b := 98) (by rfl) (by decide) (by omega) (by omega)
      refine lv_iconst (v := 2) hx hb dX12_reckonAll_34 (by decide) ?_
      refine lv_iload hx hb dX12_reckonAll_35 (lv_at hl 1 rfl) ?_
      refine lv_imul hx hb dX12_reckonAll_37 ?_
      have t_12 : (2 * k10_4).toInt = 2 * k10_4.toInt := g5_imul (a := 2) (b := k10_4.toInt) (by decide) (by rfl) (by omega) (by omega)
      refine lv_iadd hx hb dX12_reckonAll_38 ?_
      have t_13 : ((u_la + 98) + (2 * k10_4)).toInt = (u_la + 98).toInt + (2 * k10_4).toInt := g5_iadd (a := (u_la + 98).toInt) (b := (2 * k10_4).toInt) (by rfl) (by rfl) (by omega) (by omega)
      refine va_iald hx hb hK hP 1 0 rfl rfl (i := ((u_la + 98) + (2 * k10_4))) (vp_in_iff.mpr ⟨by omega, by omega⟩) dX12_reckonAll_39 ?_
      have hst := hh1 k10_4.toInt.toNat (by omega) (by omega)
      have he1 : ((u_la + 98) + (2 * k10_4)).toNatClampNeg = u_la.toNatClampNeg + 98 + 2 * k10_4.toInt.toNat := by have z1 := g5_clamp ((u_la + 98) + (2 * k10_4)); have z2 := g5_clamp u_la; omega
      unfold stOK at hst
      rw [← he1] at hst
      refine lv_istore (lv' := [(5, .int (v_ro ((u_la + 98) + (2 * k10_4)).toNatClampNeg)), (3, .int k10_3), (4, .int k10_4), (0, .ref b_o), (1, .int p_1), (2, .int p_2)]) hx hb dX12_reckonAll_40 hl (by decide) rfl (fun ls hl => ?_)
      refine lv_aload_n hx hb dX12_reckonAll_42 rfl (lv_at hl 3 rfl) ?_
      refine va_get (D := G.1) (ci := 12) (v := .ref b_ro) (C := RX12) (T := TX12) (N := 52) hx hb hts inG_X12 hown hK hP 0 rfl rfl 3 (by decide) (hts _ fl_X12_13) (fun _ h9 => h9) rfl dX12_reckonAll_43 ?_
      refine lv_aload_n hx hb dX12_reckonAll_46 rfl (lv_at hl 3 rfl) ?_
      refine va_get (D := G.1) (ci := 12) (v := .int u_la) (C := RX12) (T := TX12) (N := 52) hx hb hts inG_X12 hown hK hP 0 rfl rfl 27 (by decide) (hts _ fl_X12_329) (fun _ h9 => h9) rfl dX12_reckonAll_47 ?_
      refine lv_bipush (v := 98) hx hb dX12_reckonAll_50 (by decide) ?_
      refine lv_iadd hx hb dX12_reckonAll_52 ?_
      have t_14 : (u_la + 98).toInt = u_la.toInt + 98 := g5_iadd (a := u_la.toInt) (b := 98) (by rfl) (by decide) (by omega) (by omega)
      refine lv_iconst (v := 2) hx hb dX12_reckonAll_53 (by decide) ?_
      refine lv_iload hx hb dX12_reckonAll_54 (lv_at hl 2 rfl) ?_
      refine lv_imul hx hb dX12_reckonAll_56 ?_
      have t_15 : (2 * k10_4).toInt = 2 * k10_4.toInt := g5_imul (a := 2) (b := k10_4.toInt) (by decide) (by rfl) (by omega) (by omega)
      refine lv_iadd hx hb dX12_reckonAll_57 ?_
      have t_16 : ((u_la + 98) + (2 * k10_4)).toInt = (u_la + 98).toInt + (2 * k10_4).toInt := g5_iadd (a := (u_la + 98).toInt) (b := (2 * k10_4).toInt) (by rfl) (by rfl) (by omega) (by omega)
      refine lv_iconst (v := 1) hx hb dX12_reckonAll_58 (by decide) ?_
      refine lv_iadd hx hb dX12_reckonAll_59 ?_
      have t_17 : (((u_la + 98) + (2 * k10_4)) + 1).toInt = ((u_la + 98) + (2 * k10_4)).toInt + 1 := g5_iadd (a := ((u_la + 98) + (2 * k10_4)).toInt) (b := 1) (by rfl) (by decide) (by omega) (by omega)
      refine va_iald hx hb hK hP 1 0 rfl rfl (i := (((u_la + 98) + (2 * k10_4)) + 1)) (vp_in_iff.mpr ⟨by omega, by omega⟩) dX12_reckonAll_60 ?_
      have he2 : (((u_la + 98) + (2 * k10_4)) + 1).toNatClampNeg = ((u_la + 98) + (2 * k10_4)).toNatClampNeg + 1 := by have z1 := g5_clamp (((u_la + 98) + (2 * k10_4)) + 1); have z2 := g5_clamp ((u_la + 98) + (2 * k10_4)); omega
      rw [← he2] at hst
      have hn9 : k10_3.toInt = ((hh k10_4.toInt.toNat : Nat) : Int) := i_5 (by omega)
      have hop : 0 ≤ (v_ro ((u_la + 98) + (2 * k10_4)).toNatClampNeg).toInt ∧ (v_ro ((u_la + 98) + (2 * k10_4)).toNatClampNeg).toInt ≤ 29 := by omega
      refine lv_istore (lv' := [(6, .int (v_ro (((u_la + 98) + (2 * k10_4)) + 1).toNatClampNeg)), (5, .int (v_ro ((u_la + 98) + (2 * k10_4)).toNatClampNeg)), (3, .int k10_3), (4, .int k10_4), (0, .ref b_o), (1, .int p_1), (2, .int p_2)]) hx hb dX12_reckonAll_61 hl (by decide) rfl (fun ls hl => ?_)
      refine lv_iinc (v := (k10_4 + 1)) (lv' := [(4, .int (k10_4 + 1)), (6, .int (v_ro (((u_la + 98) + (2 * k10_4)) + 1).toNatClampNeg)), (5, .int (v_ro ((u_la + 98) + (2 * k10_4)).toNatClampNeg)), (3, .int k10_3), (0, .ref b_o), (1, .int p_1), (2, .int p_2)]) hx hb dX12_reckonAll_63 hl (k := 3) rfl rfl (by decide) rfl (fun ls hl => ?_)
      have t_18 : (k10_4 + 1).toInt = k10_4.toInt + 1 := g5_iadd (a := k10_4.toInt) (b := 1) rfl (by decide) (by omega) (by omega)
      refine lv_iload hx hb dX12_reckonAll_66 (lv_at hl 2 rfl) ?_
      refine lv_bipush (v := 20) hx hb dX12_reckonAll_68 (by decide) ?_
      refine lv_icmp_ge (tgt := 103) hx hb dX12_reckonAll_70 (by decide) (fun c_19 => ?_) (fun c_19 => ?_)
      ·
        have i_19 : (v_ro ((u_la + 98) + (2 * k10_4)).toNatClampNeg).toInt ≥ 20 := by have z := g5_ge (a := (v_ro ((u_la + 98) + (2 * k10_4)).toNatClampNeg).toInt) (b := 20) (by rfl) (by decide) c_19; omega
        refine lv_iload hx hb dX12_reckonAll_103 (lv_at hl 2 rfl) ?_
        refine lv_bipush (v := 27) hx hb dX12_reckonAll_105 (by decide) ?_
        refine lv_icmp_ge (tgt := 180) hx hb dX12_reckonAll_107 (by decide) (fun c_20 => ?_) (fun c_20 => ?_)
        ·
          have i_20 : (v_ro ((u_la + 98) + (2 * k10_4)).toNatClampNeg).toInt ≥ 27 := by have z := g5_ge (a := (v_ro ((u_la + 98) + (2 * k10_4)).toNatClampNeg).toInt) (b := 27) (by rfl) (by decide) c_20; omega
          refine lv_iload hx hb dX12_reckonAll_180 (lv_at hl 2 rfl) ?_
          refine lv_bipush (v := 27) hx hb dX12_reckonAll_182 (by decide) ?_
          refine lv_icmp_ne (tgt := 208) hx hb dX12_reckonAll_184 (by decide) (fun c_21 => ?_) (fun c_21 => ?_)
          ·
            have n_21 : gNe ((v_ro ((u_la + 98) + (2 * k10_4)).toNatClampNeg).toInt) (27) := by have z := g5_ne (a := (v_ro ((u_la + 98) + (2 * k10_4)).toNatClampNeg).toInt) (b := 27) (by rfl) (by decide) c_21; unfold gNe; omega
            have i_21 : (v_ro ((u_la + 98) + (2 * k10_4)).toNatClampNeg).toInt ≥ 28 := by have z := g5_ne (a := (v_ro ((u_la + 98) + (2 * k10_4)).toNatClampNeg).toInt) (b := 27) (by rfl) (by decide) c_21; omega
            refine lv_aload_n hx hb dX12_reckonAll_208 rfl (lv_at hl 4 rfl) ?_
            refine va_get (D := G.1) (ci := 12) (v := .ref b_re) (C := RX12) (T := TX12) (N := 52) hx hb hts inG_X12 hown hK hP 0 rfl rfl 29 (by decide) (hts _ fl_X12_79) (fun _ h9 => h9) rfl dX12_reckonAll_209 ?_
            refine lv_iload_n hx hb dX12_reckonAll_212 rfl (lv_at hl 3 rfl) ?_
            refine lv_iconst (v := 1) hx hb dX12_reckonAll_213 (by decide) ?_
            refine lv_isub hx hb dX12_reckonAll_214 ?_
            have t_22 : (k10_3 - 1).toInt = k10_3.toInt - 1 := g5_isub (a := k10_3.toInt) (b := 1) (by rfl) (by decide) (by omega) (by omega)
            refine va_lald hx hb hK hP 3 1 rfl rfl (i := (k10_3 - 1)) (vp_in_iff.mpr ⟨by omega, by omega⟩) dX12_reckonAll_215 ?_
            refine lv_iload hx hb dX12_reckonAll_216 (lv_at hl 2 rfl) ?_
            refine lv_bipush (v := 28) hx hb dX12_reckonAll_218 (by decide) ?_
            refine lv_icmp_ne (tgt := 227) hx hb dX12_reckonAll_220 (by decide) (fun c_23 => ?_) (fun c_23 => ?_)
            ·
              have n_23 : gNe ((v_ro ((u_la + 98) + (2 * k10_4)).toNatClampNeg).toInt) (28) := by have z := g5_ne (a := (v_ro ((u_la + 98) + (2 * k10_4)).toNatClampNeg).toInt) (b := 28) (by rfl) (by decide) c_23; unfold gNe; omega
              have i_23 : (v_ro ((u_la + 98) + (2 * k10_4)).toNatClampNeg).toInt ≥ 29 := by have z := g5_ne (a := (v_ro ((u_la + 98) + (2 * k10_4)).toNatClampNeg).toInt) (b := 28) (by rfl) (by decide) c_23; omega
              refine lv_lconst (v := 1) hx hb dX12_reckonAll_227 (by decide) ?_
              refine W.lcmp hx hb dX12_reckonAll_228 ?_
              refine lv_if_ne (tgt := 239) hx hb dX12_reckonAll_229 (by decide) (fun c_24 => ?_) (fun c_24 => ?_)
              ·
                have n_24 : gNe ((lg_cmp (k10_re (k10_3 - 1).toNatClampNeg) 1).toInt) (0) := by have z := g5_ne (a := (lg_cmp (k10_re (k10_3 - 1).toNatClampNeg) 1).toInt) (b := 0) (by rfl) (by decide) c_24; unfold gNe; omega
                obtain ⟨y25, hy_25, t_25⟩ := g_incN k10_3 (-1) (by decide) (by omega) (by omega)
                have t_25 : y25.toInt = k10_3.toInt + (-1) := t_25
                refine lv_iinc (v := y25) (lv' := [(3, .int y25), (4, .int (k10_4 + 1)), (6, .int (v_ro (((u_la + 98) + (2 * k10_4)) + 1).toNatClampNeg)), (5, .int (v_ro ((u_la + 98) + (2 * k10_4)).toNatClampNeg)), (0, .ref b_o), (1, .int p_1), (2, .int p_2)]) hx hb dX12_reckonAll_239 hl (k := 3) rfl hy_25 (by decide) rfl (fun ls hl => ?_)
                refine lv_goto (tgt := 10) hx hb dX12_reckonAll_242 (by decide) ?_
                exact ih_10_6 ((k10_4 + 1), y25, k10_bk, k10_re) ls H locs (show Int.toNat (401 - (k10_4 + 1).toInt) < Int.toNat (401 - k10_4.toInt) from g_up (show k10_4.toInt < (k10_4 + 1).toInt by omega) (show k10_4.toInt < 401 by omega)) ⟨lv_sub hl [0, 1, 4, 5, 6] rfl, hP, hD, hS, ⟨by omega, by omega⟩, ⟨by omega, by omega⟩, i_3, by omega, fun _ => by have e9 : (k10_4 + 1).toInt.toNat = k10_4.toInt.toNat + 1 := (by omega); rw [e9]; omega⟩
              ·
                have i_24 : (lg_cmp (k10_re (k10_3 - 1).toNatClampNeg) 1).toInt = 0 := by have z := g5_neN (a := (lg_cmp (k10_re (k10_3 - 1).toNatClampNeg) 1).toInt) (b := 0) (by rfl) (by decide) c_24; omega
                refine lv_iload hx hb dX12_reckonAll_232 (lv_at hl 1 rfl) ?_
                refine lv_istore (lv' := [(4, .int (v_ro (((u_la + 98) + (2 * k10_4)) + 1).toNatClampNeg)), (6, .int (v_ro (((u_la + 98) + (2 * k10_4)) + 1).toNatClampNeg)), (5, .int (v_ro ((u_la + 98) + (2 * k10_4)).toNatClampNeg)), (3, .int k10_3), (0, .ref b_o), (1, .int p_1), (2, .int p_2)]) hx hb dX12_reckonAll_234 hl (by decide) rfl (fun ls hl => ?_)
                refine lv_goto (tgt := 242) hx hb dX12_reckonAll_236 (by decide) ?_
                refine lv_goto (tgt := 10) hx hb dX12_reckonAll_242 (by decide) ?_
                exact ih_10_6 ((v_ro (((u_la + 98) + (2 * k10_4)) + 1).toNatClampNeg), k10_3, k10_bk, k10_re) ls H locs (show Int.toNat (401 - (v_ro (((u_la + 98) + (2 * k10_4)) + 1).toNatClampNeg).toInt) < Int.toNat (401 - k10_4.toInt) from g_up (show k10_4.toInt < (v_ro (((u_la + 98) + (2 * k10_4)) + 1).toNatClampNeg).toInt by omega) (show k10_4.toInt < 401 by omega)) ⟨lv_sub hl [3, 0, 4, 5, 6] rfl, hP, hD, hS, ⟨by omega, by omega⟩, i_2, i_3, by omega, fun h9 => by omega⟩
            ·
              have i_23 : (v_ro ((u_la + 98) + (2 * k10_4)).toNatClampNeg).toInt = 28 := by have z := g5_neN (a := (v_ro ((u_la + 98) + (2 * k10_4)).toNatClampNeg).toInt) (b := 28) (by rfl) (by decide) c_23; omega
              refine lv_lconst (v := 0) hx hb dX12_reckonAll_223 (by decide) ?_
              refine lv_goto (tgt := 228) hx hb dX12_reckonAll_224 (by decide) ?_
              refine W.lcmp hx hb dX12_reckonAll_228 ?_
              refine lv_if_ne (tgt := 239) hx hb dX12_reckonAll_229 (by decide) (fun c_26 => ?_) (fun c_26 => ?_)
              ·
                have n_26 : gNe ((lg_cmp (k10_re (k10_3 - 1).toNatClampNeg) 0).toInt) (0) := by have z := g5_ne (a := (lg_cmp (k10_re (k10_3 - 1).toNatClampNeg) 0).toInt) (b := 0) (by rfl) (by decide) c_26; unfold gNe; omega
                obtain ⟨y27, hy_27, t_27⟩ := g_incN k10_3 (-1) (by decide) (by omega) (by omega)
                have t_27 : y27.toInt = k10_3.toInt + (-1) := t_27
                refine lv_iinc (v := y27) (lv' := [(3, .int y27), (4, .int (k10_4 + 1)), (6, .int (v_ro (((u_la + 98) + (2 * k10_4)) + 1).toNatClampNeg)), (5, .int (v_ro ((u_la + 98) + (2 * k10_4)).toNatClampNeg)), (0, .ref b_o), (1, .int p_1), (2, .int p_2)]) hx hb dX12_reckonAll_239 hl (k := 3) rfl hy_27 (by decide) rfl (fun ls hl => ?_)
                refine lv_goto (tgt := 10) hx hb dX12_reckonAll_242 (by decide) ?_
                exact ih_10_6 ((k10_4 + 1), y27, k10_bk, k10_re) ls H locs (show Int.toNat (401 - (k10_4 + 1).toInt) < Int.toNat (401 - k10_4.toInt) from g_up (show k10_4.toInt < (k10_4 + 1).toInt by omega) (show k10_4.toInt < 401 by omega)) ⟨lv_sub hl [0, 1, 4, 5, 6] rfl, hP, hD, hS, ⟨by omega, by omega⟩, ⟨by omega, by omega⟩, i_3, by omega, fun _ => by have e9 : (k10_4 + 1).toInt.toNat = k10_4.toInt.toNat + 1 := (by omega); rw [e9]; omega⟩
              ·
                have i_26 : (lg_cmp (k10_re (k10_3 - 1).toNatClampNeg) 0).toInt = 0 := by have z := g5_neN (a := (lg_cmp (k10_re (k10_3 - 1).toNatClampNeg) 0).toInt) (b := 0) (by rfl) (by decide) c_26; omega
                refine lv_iload hx hb dX12_reckonAll_232 (lv_at hl 1 rfl) ?_
                refine lv_istore (lv' := [(4, .int (v_ro (((u_la + 98) + (2 * k10_4)) + 1).toNatClampNeg)), (6, .int (v_ro (((u_la + 98) + (2 * k10_4)) + 1).toNatClampNeg)), (5, .int (v_ro ((u_la + 98) + (2 * k10_4)).toNatClampNeg)), (3, .int k10_3), (0, .ref b_o), (1, .int p_1), (2, .int p_2)]) hx hb dX12_reckonAll_234 hl (by decide) rfl (fun ls hl => ?_)
                refine lv_goto (tgt := 242) hx hb dX12_reckonAll_236 (by decide) ?_
                refine lv_goto (tgt := 10) hx hb dX12_reckonAll_242 (by decide) ?_
                exact ih_10_6 ((v_ro (((u_la + 98) + (2 * k10_4)) + 1).toNatClampNeg), k10_3, k10_bk, k10_re) ls H locs (show Int.toNat (401 - (v_ro (((u_la + 98) + (2 * k10_4)) + 1).toNatClampNeg).toInt) < Int.toNat (401 - k10_4.toInt) from g_up (show k10_4.toInt < (v_ro (((u_la + 98) + (2 * k10_4)) + 1).toNatClampNeg).toInt by omega) (show k10_4.toInt < 401 by omega)) ⟨lv_sub hl [3, 0, 4, 5, 6] rfl, hP, hD, hS, ⟨by omega, by omega⟩, i_2, i_3, by omega, fun h9 => by omega⟩
          ·
            have i_21 : (v_ro ((u_la + 98) + (2 * k10_4)).toNatClampNeg).toInt = 27 := by have z := g5_neN (a := (v_ro ((u_la + 98) + (2 * k10_4)).toNatClampNeg).toInt) (b := 27) (by rfl) (by decide) c_21; omega
            refine lv_aload_n hx hb dX12_reckonAll_187 rfl (lv_at hl 4 rfl) ?_
            refine va_get (D := G.1) (ci := 12) (v := .ref b_re) (C := RX12) (T := TX12) (N := 52) hx hb hts inG_X12 hown hK hP 0 rfl rfl 29 (by decide) (hts _ fl_X12_79) (fun _ h9 => h9) rfl dX12_reckonAll_188 ?_
            refine lv_iload_n hx hb dX12_reckonAll_191 rfl (lv_at hl 3 rfl) ?_
            refine lv_iconst (v := 1) hx hb dX12_reckonAll_192 (by decide) ?_
            refine lv_isub hx hb dX12_reckonAll_193 ?_
            have t_28 : (k10_3 - 1).toInt = k10_3.toInt - 1 := g5_isub (a := k10_3.toInt) (b := 1) (by rfl) (by decide) (by omega) (by omega)
            refine lv_lconst (v := 1) hx hb dX12_reckonAll_194 (by decide) ?_
            refine lv_aload_n hx hb dX12_reckonAll_195 rfl (lv_at hl 4 rfl) ?_
            refine va_get (D := G.1) (ci := 12) (v := .ref b_re) (C := RX12) (T := TX12) (N := 52) hx hb hts inG_X12 hown hK hP 0 rfl rfl 29 (by decide) (hts _ fl_X12_79) (fun _ h9 => h9) rfl dX12_reckonAll_196 ?_
            refine lv_iload_n hx hb dX12_reckonAll_199 rfl (lv_at hl 3 rfl) ?_
            refine lv_iconst (v := 1) hx hb dX12_reckonAll_200 (by decide) ?_
            refine lv_isub hx hb dX12_reckonAll_201 ?_
            have t_29 : (k10_3 - 1).toInt = k10_3.toInt - 1 := g5_isub (a := k10_3.toInt) (b := 1) (by rfl) (by decide) (by omega) (by omega)
            refine va_lald hx hb hK hP 3 1 rfl rfl (i := (k10_3 - 1)) (vp_in_iff.mpr ⟨by omega, by omega⟩) dX12_reckonAll_202 ?_
            refine lv_lsub hx hb dX12_reckonAll_203 ?_
            refine va_last hx hb hK hP hD hS 3 1 rfl rfl (i := (k10_3 - 1)) (x := (1 - (k10_re (k10_3 - 1).toNatClampNeg))) (vp_in_iff.mpr ⟨by omega, by omega⟩) dX12_reckonAll_204 (fun H locs hP hD hS => ?_)
            refine g5_rs [(b_o, (oc12 u_th u_sa b_rf b_ro b_im b_ke u_fd b_tp u_td u_fr u_to u_so u_wo u_fa u_bd u_nc b_nl u_co b_op b_ar u_le b_pi b_pa u_pd u_od b_ws b_hw u_la b_se b_re k10_bk u_va u_su u_ce u_ho u_wy u_bt u_ps b_pt u_tg u_sn b_ip u_ic b_ah b_be b_me u_wd b_tr b_ld u_st b_wn u_id)), (b_ro, (arI G 5740 v_ro)), (b_se, (arJ G 13 v_se)), (b_re, (arJ G 400 (vp_updL k10_re (k10_3 - 1).toNatClampNeg (1 - (k10_re (k10_3 - 1).toNatClampNeg)))))] hP hD (fun hP hD => ?_)
            refine lv_goto (tgt := 242) hx hb dX12_reckonAll_205 (by decide) ?_
            refine lv_goto (tgt := 10) hx hb dX12_reckonAll_242 (by decide) ?_
            exact ih_10_6 ((k10_4 + 1), k10_3, k10_bk, (vp_updL k10_re (k10_3 - 1).toNatClampNeg (1 - (k10_re (k10_3 - 1).toNatClampNeg)))) ls H locs (show Int.toNat (401 - (k10_4 + 1).toInt) < Int.toNat (401 - k10_4.toInt) from g_up (show k10_4.toInt < (k10_4 + 1).toInt by omega) (show k10_4.toInt < 401 by omega)) ⟨lv_sub hl [3, 0, 4, 5, 6] rfl, hP, hD, hS, ⟨by omega, by omega⟩, i_2, i_3, by omega, fun _ => by have e9 : (k10_4 + 1).toInt.toNat = k10_4.toInt.toNat + 1 := (by omega); rw [e9]; omega⟩
        ·
          have i_20 : (v_ro ((u_la + 98) + (2 * k10_4)).toNatClampNeg).toInt < 27 := by have z := g5_geN (a := (v_ro ((u_la + 98) + (2 * k10_4)).toNatClampNeg).toInt) (b := 27) (by rfl) (by decide) c_20; omega
          obtain ⟨y30, hy_30, t_30⟩ := g_incN k10_3 (-1) (by decide) (by omega) (by omega)
          have t_30 : y30.toInt = k10_3.toInt + (-1) := t_30
          refine lv_iinc (v := y30) (lv' := [(3, .int y30), (4, .int (k10_4 + 1)), (6, .int (v_ro (((u_la + 98) + (2 * k10_4)) + 1).toNatClampNeg)), (5, .int (v_ro ((u_la + 98) + (2 * k10_4)).toNatClampNeg)), (0, .ref b_o), (1, .int p_1), (2, .int p_2)]) hx hb dX12_reckonAll_110 hl (k := 3) rfl hy_30 (by decide) rfl (fun ls hl => ?_)
          refine lv_aload_n hx hb dX12_reckonAll_113 rfl (lv_at hl 4 rfl) ?_
          refine va_get (D := G.1) (ci := 12) (v := .ref b_re) (C := RX12) (T := TX12) (N := 52) hx hb hts inG_X12 hown hK hP 0 rfl rfl 29 (by decide) (hts _ fl_X12_79) (fun _ h9 => h9) rfl dX12_reckonAll_114 ?_
          refine lv_iload_n hx hb dX12_reckonAll_117 rfl (lv_at hl 0 rfl) ?_
          refine lv_iconst (v := 1) hx hb dX12_reckonAll_118 (by decide) ?_
          refine lv_isub hx hb dX12_reckonAll_119 ?_
          have t_31 : (y30 - 1).toInt = y30.toInt - 1 := g5_isub (a := y30.toInt) (b := 1) (by rfl) (by decide) (by omega) (by omega)
          refine lv_aload_n hx hb dX12_reckonAll_120 rfl (lv_at hl 4 rfl) ?_
          refine lv_iload hx hb dX12_reckonAll_121 (lv_at hl 3 rfl) ?_
          refine lv_aload_n hx hb dX12_reckonAll_123 rfl (lv_at hl 4 rfl) ?_
          refine va_get (D := G.1) (ci := 12) (v := .ref b_re) (C := RX12) (T := TX12) (N := 52) hx hb hts inG_X12 hown hK hP 0 rfl rfl 29 (by decide) (hts _ fl_X12_79) (fun _ h9 => h9) rfl dX12_reckonAll_124 ?_
          refine lv_iload_n hx hb dX12_reckonAll_127 rfl (lv_at hl 0 rfl) ?_
          refine lv_iconst (v := 1) hx hb dX12_reckonAll_128 (by decide) ?_
          refine lv_isub hx hb dX12_reckonAll_129 ?_
          have t_32 : (y30 - 1).toInt = y30.toInt - 1 := g5_isub (a := y30.toInt) (b := 1) (by rfl) (by decide) (by omega) (by omega)
          refine va_lald hx hb hK hP 3 1 rfl rfl (i := (y30 - 1)) (vp_in_iff.mpr ⟨by omega, by omega⟩) dX12_reckonAll_130 ?_
          refine lv_aload_n hx hb dX12_reckonAll_131 rfl (lv_at hl 4 rfl) ?_
          refine va_get (D := G.1) (ci := 12) (v := .ref b_re) (C := RX12) (T := TX12) (N := 52) hx hb hts inG_X12 hown hK hP 0 rfl rfl 29 (by decide) (hts _ fl_X12_79) (fun _ h9 => h9) rfl dX12_reckonAll_132 ?_
          refine lv_iload_n hx hb dX12_reckonAll_135 rfl (lv_at hl 0 rfl) ?_
          refine va_lald hx hb hK hP 3 1 rfl rfl (i := y30) (vp_in_iff.mpr ⟨by omega, by omega⟩) dX12_reckonAll_136 ?_
          obtain ⟨hPc, hDc, hFc⟩ := g5_sub3 (wc := [(b_o, (oc12 u_th u_sa b_rf b_ro b_im b_ke u_fd b_tp u_td u_fr u_to u_so u_wo u_fa u_bd u_nc b_nl u_co b_op b_ar u_le b_pi b_pa u_pd u_od b_ws b_hw u_la b_se b_re k10_bk u_va u_su u_ce u_ho u_wy u_bt u_ps b_pt u_tg u_sn b_ip u_ic b_ah b_be b_me u_wd b_tr b_ld u_st b_wn u_id))]) hP hD hS hA [0] (by decide) rfl
          refine va_calll (va_runV (As := [.int (v_ro ((u_la + 98) + (2 * k10_4)).toNatClampNeg), .long (k10_re (y30 - 1).toNatClampNeg), .long (k10_re y30.toNatClampNeg)]) (rest := [.int (y30 - 1), .ref b_re]) ⟨hx, hb, hml, hown, hts⟩ (n_reckon l G b_o b_rf b_ro b_im b_ke b_tp b_nl b_op b_ar b_pi b_pa b_ws b_hw b_se b_re b_pt b_ip b_ah b_be b_me b_tr b_ld b_wn H.size u_th u_sa u_fd u_td u_fr u_to u_so u_fa u_bd u_nc u_co u_le u_pd u_od u_la k10_bk u_ce u_ho u_wy u_bt u_ps u_tg u_sn u_ic u_wd u_id (v_ro ((u_la + 98) + (2 * k10_4)).toNatClampNeg) u_wo u_va u_su u_st (k10_re (y30 - 1).toNatClampNeg) (k10_re y30.toNatClampNeg) h_u_td h_u_fr h_u_to h_u_bd h_u_nc h_u_co h_u_pd h_u_la i_3 h_u_ce h_u_ho h_u_wy h_u_bt h_u_ps h_u_ic h_u_id ⟨by omega, by omega⟩) (cwV 3 hts gV_X12_332 rfl rfl rfl hv_X12_reckon ⟨Nat.le_of_ble_eq_true rfl, Nat.le_of_ble_eq_true rfl⟩) (g5_preV hPc hK hDc hN hT hS hFc (ci := 12) (q0 := 0) rfl rfl) rfl rfl hl.1 rfl (lv_room (Nat.le_of_ble_eq_true rfl)) dX12_reckonAll_137 ⟨Nat.le_of_ble_eq_true rfl, Nat.le_of_ble_eq_true rfl⟩) hS (fun q _ h => hFc q h) hFc (fun r u t H1 locs ht hvm hw hB hz1 hk1 hS => ?_)
          obtain ⟨hP1, hD1⟩ := hB
          rw [ht] at hP1
          obtain ⟨z34, z35, i_33, y36, rfl⟩ := hw
          have i_33 : 0 ≤ z35.toInt ∧ z35.toInt ≤ 1 := i_33
          obtain ⟨hP, hD⟩ := va_join (wr := [(b_ro, (arI G 5740 v_ro)), (b_se, (arJ G 13 v_se)), (b_re, (arJ G 400 k10_re))]) hP hD [0] [1, 2, 3] rfl rfl (by decide) (by decide) hk1 hFc hP1 hD1
          generalize H1 = H at hP hS ⊢
          refine g5_rs [(b_ro, (arI G 5740 v_ro)), (b_se, (arJ G 13 v_se)), (b_re, (arJ G 400 k10_re)), (b_o, (oc12 u_th u_sa b_rf b_ro b_im b_ke u_fd b_tp u_td u_fr u_to u_so u_wo u_fa u_bd u_nc b_nl u_co b_op b_ar u_le b_pi b_pa u_pd u_od b_ws b_hw u_la b_se b_re z35 u_va u_su u_ce u_ho u_wy u_bt u_ps b_pt u_tg u_sn b_ip u_ic b_ah b_be b_me u_wd b_tr b_ld u_st b_wn u_id))] hP hD (fun hP hD => ?_)
          refine g5_tl (v := z34) y36 ?_
          refine va_last hx hb hK hP hD hS 2 1 rfl rfl (i := (y30 - 1)) (x := z34) (vp_in_iff.mpr ⟨by omega, by omega⟩) dX12_reckonAll_140 (fun H locs hP hD hS => ?_)
          refine g5_rs [(b_ro, (arI G 5740 v_ro)), (b_se, (arJ G 13 v_se)), (b_re, (arJ G 400 (vp_updL k10_re (y30 - 1).toNatClampNeg z34))), (b_o, (oc12 u_th u_sa b_rf b_ro b_im b_ke u_fd b_tp u_td u_fr u_to u_so u_wo u_fa u_bd u_nc b_nl u_co b_op b_ar u_le b_pi b_pa u_pd u_od b_ws b_hw u_la b_se b_re z35 u_va u_su u_ce u_ho u_wy u_bt u_ps b_pt u_tg u_sn b_ip u_ic b_ah b_be b_me u_wd b_tr b_ld u_st b_wn u_id))] hP hD (fun hP hD => ?_)
          refine lv_aload_n hx hb dX12_reckonAll_141 rfl (lv_at hl 4 rfl) ?_
          refine lv_aload_n hx hb dX12_reckonAll_142 rfl (lv_at hl 4 rfl) ?_
          refine va_get (D := G.1) (ci := 12) (v := .int z35) (C := RX12) (T := TX12) (N := 52) hx hb hts inG_X12 hown hK hP 3 rfl rfl 30 (by decide) (hts _ fl_X12_326) (fun _ h9 => h9) rfl dX12_reckonAll_143 ?_
          refine lv_if_ne (tgt := 169) hx hb dX12_reckonAll_146 (by decide) (fun c_37 => ?_) (fun c_37 => ?_)
          ·
            have n_37 : gNe (z35.toInt) (0) := by have z := g5_ne (a := z35.toInt) (b := 0) (by rfl) (by decide) c_37; unfold gNe; omega
            have i_37 : z35.toInt ≥ 1 := by have z := g5_ne (a := z35.toInt) (b := 0) (by rfl) (by decide) c_37; omega
            refine lv_iconst (v := 1) hx hb dX12_reckonAll_169 (by decide) ?_
            refine lv_goto (tgt := 174) hx hb dX12_reckonAll_170 (by decide) ?_
            refine va_put (D := G.1) (ci := 12) (v := .int 1) (ty := .boolean) (C := RX12) (T := TX12) (N := 52) hx hb hts inG_X12 tyX12 tyX12_ok nmX12 hown hK hP hD hS 3 rfl rfl 30 (by decide) (hts _ fl_X12_326) (fun _ h9 => h9) rfl (by decide +kernel) rfl rfl (Nat.le_of_ble_eq_true rfl) dX12_reckonAll_174 (fun H locs hP hD hS => ?_)
            refine g5_rs [(b_ro, (arI G 5740 v_ro)), (b_se, (arJ G 13 v_se)), (b_re, (arJ G 400 (vp_updL k10_re (y30 - 1).toNatClampNeg z34))), (b_o, (oc12 u_th u_sa b_rf b_ro b_im b_ke u_fd b_tp u_td u_fr u_to u_so u_wo u_fa u_bd u_nc b_nl u_co b_op b_ar u_le b_pi b_pa u_pd u_od b_ws b_hw u_la b_se b_re 1 u_va u_su u_ce u_ho u_wy u_bt u_ps b_pt u_tg u_sn b_ip u_ic b_ah b_be b_me u_wd b_tr b_ld u_st b_wn u_id))] hP hD (fun hP hD => ?_)
            refine lv_goto (tgt := 242) hx hb dX12_reckonAll_177 (by decide) ?_
            refine lv_goto (tgt := 10) hx hb dX12_reckonAll_242 (by decide) ?_
            exact ih_10_6 ((k10_4 + 1), y30, 1, (vp_updL k10_re (y30 - 1).toNatClampNeg z34)) ls H locs (show Int.toNat (401 - (k10_4 + 1).toInt) < Int.toNat (401 - k10_4.toInt) from g_up (show k10_4.toInt < (k10_4 + 1).toInt by omega) (show k10_4.toInt < 401 by omega)) ⟨lv_sub hl [0, 1, 4, 5, 6] rfl, hP.sub [3, 0, 1, 2] rfl, hD.sub [3, 0, 1, 2] (by decide) rfl, hS, ⟨by omega, by omega⟩, ⟨by omega, by omega⟩, ⟨by decide, by decide⟩, by omega, fun _ => by have e9 : (k10_4 + 1).toInt.toNat = k10_4.toInt.toNat + 1 := (by omega); rw [e9]; omega⟩
          ·
            have i_37 : z35.toInt = 0 := by have z := g5_neN (a := z35.toInt) (b := 0) (by rfl) (by decide) c_37; omega
            refine lv_aload_n hx hb dX12_reckonAll_149 rfl (lv_at hl 4 rfl) ?_
            refine va_get (D := G.1) (ci := 12) (v := .ref b_re) (C := RX12) (T := TX12) (N := 52) hx hb hts inG_X12 hown hK hP 3 rfl rfl 29 (by decide) (hts _ fl_X12_79) (fun _ h9 => h9) rfl dX12_reckonAll_150 ?_
            refine lv_iload_n hx hb dX12_reckonAll_153 rfl (lv_at hl 0 rfl) ?_
            refine lv_iconst (v := 1) hx hb dX12_reckonAll_154 (by decide) ?_
            refine lv_isub hx hb dX12_reckonAll_155 ?_
            have t_38 : (y30 - 1).toInt = y30.toInt - 1 := g5_isub (a := y30.toInt) (b := 1) (by rfl) (by decide) (by omega) (by omega)
            refine va_lald hx hb hK hP 2 1 rfl rfl (i := (y30 - 1)) (vp_in_iff.mpr ⟨by omega, by omega⟩) dX12_reckonAll_156 ?_
            refine lv_ldc2 (v := (-1000000000)) hx hb hown (hts _ kl_X12_336) dX12_reckonAll_157 ?_
            refine lv_ldc2 (v := 1000000000) hx hb hown (hts _ kl_X12_338) dX12_reckonAll_160 ?_
            obtain ⟨hPc, hDc, hFc⟩ := g5_sub3 (wc := []) hP hD hS hA [] (by decide) rfl
            refine va_calli (va_runS (As := [.long ((vp_updL k10_re (y30 - 1).toNatClampNeg z34) (y30 - 1).toNatClampNeg), .long (-1000000000), .long 1000000000]) (rest := [.ref b_o]) ⟨hx, hb, hml, hown, hts⟩ (n_inL l G H.size ((vp_updL k10_re (y30 - 1).toNatClampNeg z34) (y30 - 1).toNatClampNeg) (-1000000000) 1000000000) (va_cwS 3 hts gS_X12_121 rfl rfl rfl hs_X12_in ⟨Nat.le_of_ble_eq_true rfl, Nat.le_of_ble_eq_true rfl⟩) (g5_preS hPc hK hDc hN hT hS hFc) rfl rfl hl.1 rfl (lv_room (Nat.le_of_ble_eq_true rfl)) dX12_reckonAll_163 ⟨Nat.le_of_ble_eq_true rfl, Nat.le_of_ble_eq_true rfl⟩) hS (fun q _ h => hFc q h) hFc (fun r u t H1 locs ht hvm hw hB hz1 hk1 hS => ?_)
            obtain ⟨hP1, hD1⟩ := hB
            rw [ht] at hP1
            obtain ⟨z40, i_39, y41, rfl⟩ := hw
            have i_39 : 0 ≤ z40.toInt ∧ z40.toInt ≤ 1 := i_39
            have hP := g5_same hP hk1
            generalize H1 = H at hP hS ⊢
            refine g5_ti (v := z40) y41 ?_
            refine lv_if_ne (tgt := 173) hx hb dX12_reckonAll_166 (by decide) (fun c_42 => ?_) (fun c_42 => ?_)
            ·
              have n_42 : gNe (z40.toInt) (0) := by have z := g5_ne (a := z40.toInt) (b := 0) (by rfl) (by decide) c_42; unfold gNe; omega
              have i_42 : z40.toInt ≥ 1 := by have z := g5_ne (a := z40.toInt) (b := 0) (by rfl) (by decide) c_42; omega
              refine lv_iconst (v := 0) hx hb dX12_reckonAll_173 (by decide) ?_
              refine va_put (D := G.1) (ci := 12) (v := .int 0) (ty := .boolean) (C := RX12) (T := TX12) (N := 52) hx hb hts inG_X12 tyX12 tyX12_ok nmX12 hown hK hP hD hS 3 rfl rfl 30 (by decide) (hts _ fl_X12_326) (fun _ h9 => h9) rfl (by decide +kernel) rfl rfl (Nat.le_of_ble_eq_true rfl) dX12_reckonAll_174 (fun H locs hP hD hS => ?_)
              refine g5_rs [(b_ro, (arI G 5740 v_ro)), (b_se, (arJ G 13 v_se)), (b_re, (arJ G 400 (vp_updL k10_re (y30 - 1).toNatClampNeg z34))), (b_o, (oc12 u_th u_sa b_rf b_ro b_im b_ke u_fd b_tp u_td u_fr u_to u_so u_wo u_fa u_bd u_nc b_nl u_co b_op b_ar u_le b_pi b_pa u_pd u_od b_ws b_hw u_la b_se b_re 0 u_va u_su u_ce u_ho u_wy u_bt u_ps b_pt u_tg u_sn b_ip u_ic b_ah b_be b_me u_wd b_tr b_ld u_st b_wn u_id))] hP hD (fun hP hD => ?_)
              refine lv_goto (tgt := 242) hx hb dX12_reckonAll_177 (by decide) ?_
              refine lv_goto (tgt := 10) hx hb dX12_reckonAll_242 (by decide) ?_
              exact ih_10_6 ((k10_4 + 1), y30, 0, (vp_updL k10_re (y30 - 1).toNatClampNeg z34)) ls H locs (show Int.toNat (401 - (k10_4 + 1).toInt) < Int.toNat (401 - k10_4.toInt) from g_up (show k10_4.toInt < (k10_4 + 1).toInt by omega) (show k10_4.toInt < 401 by omega)) ⟨lv_sub hl [0, 1, 4, 5, 6] rfl, hP.sub [3, 0, 1, 2] rfl, hD.sub [3, 0, 1, 2] (by decide) rfl, hS, ⟨by omega, by omega⟩, ⟨by omega, by omega⟩, ⟨by decide, by decide⟩, by omega, fun _ => by have e9 : (k10_4 + 1).toInt.toNat = k10_4.toInt.toNat + 1 := (by omega); rw [e9]; omega⟩
            ·
              have i_42 : z40.toInt = 0 := by have z := g5_neN (a := z40.toInt) (b := 0) (by rfl) (by decide) c_42; omega
              refine lv_iconst (v := 1) hx hb dX12_reckonAll_169 (by decide) ?_
              refine lv_goto (tgt := 174) hx hb dX12_reckonAll_170 (by decide) ?_
              refine va_put (D := G.1) (ci := 12) (v := .int 1) (ty := .boolean) (C := RX12) (T := TX12) (N := 52) hx hb hts inG_X12 tyX12 tyX12_ok nmX12 hown hK hP hD hS 3 rfl rfl 30 (by decide) (hts _ fl_X12_326) (fun _ h9 => h9) rfl (by decide +kernel) rfl rfl (Nat.le_of_ble_eq_true rfl) dX12_reckonAll_174 (fun H locs hP hD hS => ?_)
              refine g5_rs [(b_ro, (arI G 5740 v_ro)), (b_se, (arJ G 13 v_se)), (b_re, (arJ G 400 (vp_updL k10_re (y30 - 1).toNatClampNeg z34))), (b_o, (oc12 u_th u_sa b_rf b_ro b_im b_ke u_fd b_tp u_td u_fr u_to u_so u_wo u_fa u_bd u_nc b_nl u_co b_op b_ar u_le b_pi b_pa u_pd u_od b_ws b_hw u_la b_se b_re 1 u_va u_su u_ce u_ho u_wy u_bt u_ps b_pt u_tg u_sn b_ip u_ic b_ah b_be b_me u_wd b_tr b_ld u_st b_wn u_id))] hP hD (fun hP hD => ?_)
              refine lv_goto (tgt := 242) hx hb dX12_reckonAll_177 (by decide) ?_
              refine lv_goto (tgt := 10) hx hb dX12_reckonAll_242 (by decide) ?_
              exact ih_10_6 ((k10_4 + 1), y30, 1, (vp_updL k10_re (y30 - 1).toNatClampNeg z34)) ls H locs (show Int.toNat (401 - (k10_4 + 1).toInt) < Int.toNat (401 - k10_4.toInt) from g_up (show k10_4.toInt < (k10_4 + 1).toInt by omega) (show k10_4.toInt < 401 by omega)) ⟨lv_sub hl [0, 1, 4, 5, 6] rfl, hP.sub [3, 0, 1, 2] rfl, hD.sub [3, 0, 1, 2] (by decide) rfl, hS, ⟨by omega, by omega⟩, ⟨by omega, by omega⟩, ⟨by decide, by decide⟩, by omega, fun _ => by have e9 : (k10_4 + 1).toInt.toNat = k10_4.toInt.toNat + 1 := (by omega); rw [e9]; omega⟩
      ·
        have i_19 : (v_ro ((u_la + 98) + (2 * k10_4)).toNatClampNeg).toInt < 20 := by have z := g5_geN (a := (v_ro ((u_la + 98) + (2 * k10_4)).toNatClampNeg).toInt) (b := 20) (by rfl) (by decide) c_19; omega
        refine lv_aload_n hx hb dX12_reckonAll_73 rfl (lv_at hl 4 rfl) ?_
        refine va_get (D := G.1) (ci := 12) (v := .ref b_re) (C := RX12) (T := TX12) (N := 52) hx hb hts inG_X12 hown hK hP 0 rfl rfl 29 (by decide) (hts _ fl_X12_79) (fun _ h9 => h9) rfl dX12_reckonAll_74 ?_
        refine lv_iload_n hx hb dX12_reckonAll_77 rfl (lv_at hl 3 rfl) ?_
        refine lv_iload hx hb dX12_reckonAll_78 (lv_at hl 2 rfl) ?_
        refine lv_if_ne (tgt := 89) hx hb dX12_reckonAll_80 (by decide) (fun c_43 => ?_) (fun c_43 => ?_)
        ·
          have n_43 : gNe ((v_ro ((u_la + 98) + (2 * k10_4)).toNatClampNeg).toInt) (0) := by have z := g5_ne (a := (v_ro ((u_la + 98) + (2 * k10_4)).toNatClampNeg).toInt) (b := 0) (by rfl) (by decide) c_43; unfold gNe; omega
          have i_43 : (v_ro ((u_la + 98) + (2 * k10_4)).toNatClampNeg).toInt ≥ 1 := by have z := g5_ne (a := (v_ro ((u_la + 98) + (2 * k10_4)).toNatClampNeg).toInt) (b := 0) (by rfl) (by decide) c_43; omega
          refine lv_aload_n hx hb dX12_reckonAll_89 rfl (lv_at hl 4 rfl) ?_
          refine va_get (D := G.1) (ci := 12) (v := .ref b_se) (C := RX12) (T := TX12) (N := 52) hx hb hts inG_X12 hown hK hP 0 rfl rfl 28 (by decide) (hts _ fl_X12_76) (fun _ h9 => h9) rfl dX12_reckonAll_90 ?_
          refine lv_iload hx hb dX12_reckonAll_93 (lv_at hl 2 rfl) ?_
          refine va_lald hx hb hK hP 2 1 rfl rfl (i := (v_ro ((u_la + 98) + (2 * k10_4)).toNatClampNeg)) (vp_in_iff.mpr ⟨by omega, by omega⟩) dX12_reckonAll_95 ?_
          refine va_last hx hb hK hP hD hS 3 1 rfl rfl (i := k10_3) (x := (v_se (v_ro ((u_la + 98) + (2 * k10_4)).toNatClampNeg).toNatClampNeg)) (vp_in_iff.mpr ⟨by omega, by omega⟩) dX12_reckonAll_96 (fun H locs hP hD hS => ?_)
          refine g5_rs [(b_o, (oc12 u_th u_sa b_rf b_ro b_im b_ke u_fd b_tp u_td u_fr u_to u_so u_wo u_fa u_bd u_nc b_nl u_co b_op b_ar u_le b_pi b_pa u_pd u_od b_ws b_hw u_la b_se b_re k10_bk u_va u_su u_ce u_ho u_wy u_bt u_ps b_pt u_tg u_sn b_ip u_ic b_ah b_be b_me u_wd b_tr b_ld u_st b_wn u_id)), (b_ro, (arI G 5740 v_ro)), (b_se, (arJ G 13 v_se)), (b_re, (arJ G 400 (vp_updL k10_re k10_3.toNatClampNeg (v_se (v_ro ((u_la + 98) + (2 * k10_4)).toNatClampNeg).toNatClampNeg))))] hP hD (fun hP hD => ?_)
          refine lv_iinc (v := (k10_3 + 1)) (lv' := [(3, .int (k10_3 + 1)), (4, .int (k10_4 + 1)), (6, .int (v_ro (((u_la + 98) + (2 * k10_4)) + 1).toNatClampNeg)), (5, .int (v_ro ((u_la + 98) + (2 * k10_4)).toNatClampNeg)), (0, .ref b_o), (1, .int p_1), (2, .int p_2)]) hx hb dX12_reckonAll_97 hl (k := 3) rfl rfl (by decide) rfl (fun ls hl => ?_)
          have t_44 : (k10_3 + 1).toInt = k10_3.toInt + 1 := g5_iadd (a := k10_3.toInt) (b := 1) rfl (by decide) (by omega) (by omega)
          refine lv_goto (tgt := 242) hx hb dX12_reckonAll_100 (by decide) ?_
          refine lv_goto (tgt := 10) hx hb dX12_reckonAll_242 (by decide) ?_
          exact ih_10_6 ((k10_4 + 1), (k10_3 + 1), k10_bk, (vp_updL k10_re k10_3.toNatClampNeg (v_se (v_ro ((u_la + 98) + (2 * k10_4)).toNatClampNeg).toNatClampNeg))) ls H locs (show Int.toNat (401 - (k10_4 + 1).toInt) < Int.toNat (401 - k10_4.toInt) from g_up (show k10_4.toInt < (k10_4 + 1).toInt by omega) (show k10_4.toInt < 401 by omega)) ⟨lv_sub hl [0, 1, 4, 5, 6] rfl, hP, hD, hS, ⟨by omega, by omega⟩, ⟨by omega, by omega⟩, i_3, by omega, fun _ => by have e9 : (k10_4 + 1).toInt.toNat = k10_4.toInt.toNat + 1 := (by omega); rw [e9]; omega⟩
        ·
          have i_43 : (v_ro ((u_la + 98) + (2 * k10_4)).toNatClampNeg).toInt = 0 := by have z := g5_neN (a := (v_ro ((u_la + 98) + (2 * k10_4)).toNatClampNeg).toInt) (b := 0) (by rfl) (by decide) c_43; omega
          refine lv_iload hx hb dX12_reckonAll_83 (lv_at hl 1 rfl) ?_
          refine lv_i2l (v := (v_ro (((u_la + 98) + (2 * k10_4)) + 1).toNatClampNeg).toInt64) hx hb dX12_reckonAll_85 rfl ?_
          refine lv_goto (tgt := 96) hx hb dX12_reckonAll_86 (by decide) ?_
          refine va_last hx hb hK hP hD hS 3 1 rfl rfl (i := k10_3) (x := (v_ro (((u_la + 98) + (2 * k10_4)) + 1).toNatClampNeg).toInt64) (vp_in_iff.mpr ⟨by omega, by omega⟩) dX12_reckonAll_96 (fun H locs hP hD hS => ?_)
          refine g5_rs [(b_o, (oc12 u_th u_sa b_rf b_ro b_im b_ke u_fd b_tp u_td u_fr u_to u_so u_wo u_fa u_bd u_nc b_nl u_co b_op b_ar u_le b_pi b_pa u_pd u_od b_ws b_hw u_la b_se b_re k10_bk u_va u_su u_ce u_ho u_wy u_bt u_ps b_pt u_tg u_sn b_ip u_ic b_ah b_be b_me u_wd b_tr b_ld u_st b_wn u_id)), (b_ro, (arI G 5740 v_ro)), (b_se, (arJ G 13 v_se)), (b_re, (arJ G 400 (vp_updL k10_re k10_3.toNatClampNeg ((v_ro (((u_la + 98) + (2 * k10_4)) + 1).toNatClampNeg).toInt64))))] hP hD (fun hP hD => ?_)
          refine lv_iinc (v := (k10_3 + 1)) (lv' := [(3, .int (k10_3 + 1)), (4, .int (k10_4 + 1)), (6, .int (v_ro (((u_la + 98) + (2 * k10_4)) + 1).toNatClampNeg)), (5, .int (v_ro ((u_la + 98) + (2 * k10_4)).toNatClampNeg)), (0, .ref b_o), (1, .int p_1), (2, .int p_2)]) hx hb dX12_reckonAll_97 hl (k := 3) rfl rfl (by decide) rfl (fun ls hl => ?_)
          have t_45 : (k10_3 + 1).toInt = k10_3.toInt + 1 := g5_iadd (a := k10_3.toInt) (b := 1) rfl (by decide) (by omega) (by omega)
          refine lv_goto (tgt := 242) hx hb dX12_reckonAll_100 (by decide) ?_
          refine lv_goto (tgt := 10) hx hb dX12_reckonAll_242 (by decide) ?_
          exact ih_10_6 ((k10_4 + 1), (k10_3 + 1), k10_bk, (vp_updL k10_re k10_3.toNatClampNeg ((v_ro (((u_la + 98) + (2 * k10_4)) + 1).toNatClampNeg).toInt64))) ls H locs (show Int.toNat (401 - (k10_4 + 1).toInt) < Int.toNat (401 - k10_4.toInt) from g_up (show k10_4.toInt < (k10_4 + 1).toInt by omega) (show k10_4.toInt < 401 by omega)) ⟨lv_sub hl [0, 1, 4, 5, 6] rfl, hP, hD, hS, ⟨by omega, by omega⟩, ⟨by omega, by omega⟩, i_3, by omega, fun _ => by have e9 : (k10_4 + 1).toInt.toNat = k10_4.toInt.toNat + 1 := (by omega); rw [e9]; omega⟩
theorem dgX12_isSo_0 : ∀ r ∈ ([(0, (.aload_n 0, 1)), (1, (.getfield 13, 3)), (4, (.iload_n 1, 1)), (5, (.iconst 5, 1)), (6, (.iadd, 1)), (7, (.iaload, 1)), (8, (.aload_n 0, 1)), (9, (.getfield 13, 3)), (12, (.iload_n 1, 1)), (13, (.bipush 6, 2)), (15, (.iadd, 1)), (16, (.iaload, 1)), (17, (.if_icmp .ge 42, 3)), (20, (.aload_n 0, 1)), (21, (.aload_n 0, 1)), (22, (.getfield 13, 3)), (25, (.iload_n 1, 1)), (26, (.iconst 5, 1)), (27, (.iadd, 1)), (28, (.iaload, 1)), (29, (.aload_n 0, 1)), (30, (.getfield 13, 3)), (33, (.iload_n 1, 1)), (34, (.bipush 6, 2)), (36, (.iadd, 1)), (37, (.iaload, 1)), (38, (.invokevirtual 343, 3)), (41, (.aload_n 0, 1)), (42, (.getfield 326, 3)), (45, (.ifCond .ne 12, 3)), (48, (.aload_n 0, 1)), (49, (.getfield 340, 3)), (52, (.lconst 0, 1)), (53, (.lcmp, 1)), (54, (.ifCond .ne 5, 3)), (57, (.iconst 0, 1)), (58, (.ireturn, 1)), (59, (.aload_n 0, 1)), (60, (.getfield 13, 3)), (63, (.iload_n 1, 1))] : List (Nat × (Instr × Nat))), decode cX12_isSo r.1 = .ok r.2 := by decide +kernel
theorem dX12_isSo_0 : decode cX12_isSo 0 = .ok (.aload_n 0, 1) := dgX12_isSo_0 (0, (.aload_n 0, 1)) (List.mem_of_getElem? (i := 0) rfl)
theorem dX12_isSo_1 : decode cX12_isSo 1 = .ok (.getfield 13, 3) := dgX12_isSo_0 (1, (.getfield 13, 3)) (List.mem_of_getElem? (i := 1) rfl)
theorem dX12_isSo_4 : decode cX12_isSo 4 = .ok (.iload_n 1, 1) := dgX12_isSo_0 (4, (.iload_n 1, 1)) (List.mem_of_getElem? (i := 2) rfl)
theorem dX12_isSo_5 : decode cX12_isSo 5 = .ok (.iconst 5, 1) := dgX12_isSo_0 (5, (.iconst 5, 1)) (List.mem_of_getElem? (i := 3) rfl)
theorem dX12_isSo_6 : decode cX12_isSo 6 = .ok (.iadd, 1) := dgX12_isSo_0 (6, (.iadd, 1)) (List.mem_of_getElem? (i := 4) rfl)
theorem dX12_isSo_7 : decode cX12_isSo 7 = .ok (.iaload, 1) := dgX12_isSo_0 (7, (.iaload, 1)) (List.mem_of_getElem? (i := 5) rfl)
theorem dX12_isSo_8 : decode cX12_isSo 8 = .ok (.aload_n 0, 1) := dgX12_isSo_0 (8, (.aload_n 0, 1)) (List.mem_of_getElem? (i := 6) rfl)
theorem dX12_isSo_9 : decode cX12_isSo 9 = .ok (.getfield 13, 3) := dgX12_isSo_0 (9, (.getfield 13, 3)) (List.mem_of_getElem? (i := 7) rfl)
theorem dX12_isSo_12 : decode cX12_isSo 12 = .ok (.iload_n 1, 1) := dgX12_isSo_0 (12, (.iload_n 1, 1)) (List.mem_of_getElem? (i := 8) rfl)
theorem dX12_isSo_13 : decode cX12_isSo 13 = .ok (.bipush 6, 2) := dgX12_isSo_0 (13, (.bipush 6, 2)) (List.mem_of_getElem? (i := 9) rfl)
theorem dX12_isSo_15 : decode cX12_isSo 15 = .ok (.iadd, 1) := dgX12_isSo_0 (15, (.iadd, 1)) (List.mem_of_getElem? (i := 10) rfl)
theorem dX12_isSo_16 : decode cX12_isSo 16 = .ok (.iaload, 1) := dgX12_isSo_0 (16, (.iaload, 1)) (List.mem_of_getElem? (i := 11) rfl)
theorem dX12_isSo_17 : decode cX12_isSo 17 = .ok (.if_icmp .ge 42, 3) := dgX12_isSo_0 (17, (.if_icmp .ge 42, 3)) (List.mem_of_getElem? (i := 12) rfl)
theorem dX12_isSo_20 : decode cX12_isSo 20 = .ok (.aload_n 0, 1) := dgX12_isSo_0 (20, (.aload_n 0, 1)) (List.mem_of_getElem? (i := 13) rfl)
theorem dX12_isSo_21 : decode cX12_isSo 21 = .ok (.aload_n 0, 1) := dgX12_isSo_0 (21, (.aload_n 0, 1)) (List.mem_of_getElem? (i := 14) rfl)
theorem dX12_isSo_22 : decode cX12_isSo 22 = .ok (.getfield 13, 3) := dgX12_isSo_0 (22, (.getfield 13, 3)) (List.mem_of_getElem? (i := 15) rfl)
theorem dX12_isSo_25 : decode cX12_isSo 25 = .ok (.iload_n 1, 1) := dgX12_isSo_0 (25, (.iload_n 1, 1)) (List.mem_of_getElem? (i := 16) rfl)
theorem dX12_isSo_26 : decode cX12_isSo 26 = .ok (.iconst 5, 1) := dgX12_isSo_0 (26, (.iconst 5, 1)) (List.mem_of_getElem? (i := 17) rfl)
theorem dX12_isSo_27 : decode cX12_isSo 27 = .ok (.iadd, 1) := dgX12_isSo_0 (27, (.iadd, 1)) (List.mem_of_getElem? (i := 18) rfl)
theorem dX12_isSo_28 : decode cX12_isSo 28 = .ok (.iaload, 1) := dgX12_isSo_0 (28, (.iaload, 1)) (List.mem_of_getElem? (i := 19) rfl)
theorem dX12_isSo_29 : decode cX12_isSo 29 = .ok (.aload_n 0, 1) := dgX12_isSo_0 (29, (.aload_n 0, 1)) (List.mem_of_getElem? (i := 20) rfl)
theorem dX12_isSo_30 : decode cX12_isSo 30 = .ok (.getfield 13, 3) := dgX12_isSo_0 (30, (.getfield 13, 3)) (List.mem_of_getElem? (i := 21) rfl)
theorem dX12_isSo_33 : decode cX12_isSo 33 = .ok (.iload_n 1, 1) := dgX12_isSo_0 (33, (.iload_n 1, 1)) (List.mem_of_getElem? (i := 22) rfl)
theorem dX12_isSo_34 : decode cX12_isSo 34 = .ok (.bipush 6, 2) := dgX12_isSo_0 (34, (.bipush 6, 2)) (List.mem_of_getElem? (i := 23) rfl)
theorem dX12_isSo_36 : decode cX12_isSo 36 = .ok (.iadd, 1) := dgX12_isSo_0 (36, (.iadd, 1)) (List.mem_of_getElem? (i := 24) rfl)
theorem dX12_isSo_37 : decode cX12_isSo 37 = .ok (.iaload, 1) := dgX12_isSo_0 (37, (.iaload, 1)) (List.mem_of_getElem? (i := 25) rfl)
theorem dX12_isSo_38 : decode cX12_isSo 38 = .ok (.invokevirtual 343, 3) := dgX12_isSo_0 (38, (.invokevirtual 343, 3)) (List.mem_of_getElem? (i := 26) rfl)
theorem dX12_isSo_41 : decode cX12_isSo 41 = .ok (.aload_n 0, 1) := dgX12_isSo_0 (41, (.aload_n 0, 1)) (List.mem_of_getElem? (i := 27) rfl)
theorem dX12_isSo_42 : decode cX12_isSo 42 = .ok (.getfield 326, 3) := dgX12_isSo_0 (42, (.getfield 326, 3)) (List.mem_of_getElem? (i := 28) rfl)
theorem dX12_isSo_45 : decode cX12_isSo 45 = .ok (.ifCond .ne 12, 3) := dgX12_isSo_0 (45, (.ifCond .ne 12, 3)) (List.mem_of_getElem? (i := 29) rfl)
theorem dX12_isSo_48 : decode cX12_isSo 48 = .ok (.aload_n 0, 1) := dgX12_isSo_0 (48, (.aload_n 0, 1)) (List.mem_of_getElem? (i := 30) rfl)
theorem dX12_isSo_49 : decode cX12_isSo 49 = .ok (.getfield 340, 3) := dgX12_isSo_0 (49, (.getfield 340, 3)) (List.mem_of_getElem? (i := 31) rfl)
theorem dX12_isSo_52 : decode cX12_isSo 52 = .ok (.lconst 0, 1) := dgX12_isSo_0 (52, (.lconst 0, 1)) (List.mem_of_getElem? (i := 32) rfl)
theorem dX12_isSo_53 : decode cX12_isSo 53 = .ok (.lcmp, 1) := dgX12_isSo_0 (53, (.lcmp, 1)) (List.mem_of_getElem? (i := 33) rfl)
theorem dX12_isSo_54 : decode cX12_isSo 54 = .ok (.ifCond .ne 5, 3) := dgX12_isSo_0 (54, (.ifCond .ne 5, 3)) (List.mem_of_getElem? (i := 34) rfl)
theorem dX12_isSo_57 : decode cX12_isSo 57 = .ok (.iconst 0, 1) := dgX12_isSo_0 (57, (.iconst 0, 1)) (List.mem_of_getElem? (i := 35) rfl)
theorem dX12_isSo_58 : decode cX12_isSo 58 = .ok (.ireturn, 1) := dgX12_isSo_0 (58, (.ireturn, 1)) (List.mem_of_getElem? (i := 36) rfl)
theorem dX12_isSo_59 : decode cX12_isSo 59 = .ok (.aload_n 0, 1) := dgX12_isSo_0 (59, (.aload_n 0, 1)) (List.mem_of_getElem? (i := 37) rfl)
theorem dX12_isSo_60 : decode cX12_isSo 60 = .ok (.getfield 13, 3) := dgX12_isSo_0 (60, (.getfield 13, 3)) (List.mem_of_getElem? (i := 38) rfl)
theorem dX12_isSo_63 : decode cX12_isSo 63 = .ok (.iload_n 1, 1) := dgX12_isSo_0 (63, (.iload_n 1, 1)) (List.mem_of_getElem? (i := 39) rfl)
theorem dgX12_isSo_1 : ∀ r ∈ ([(64, (.iaload, 1)), (65, (.iconst 2, 1)), (66, (.if_icmp .ge 44, 3)), (69, (.aload_n 0, 1)), (70, (.aload_n 0, 1)), (71, (.getfield 13, 3)), (74, (.iload_n 1, 1)), (75, (.iconst 3, 1)), (76, (.iadd, 1)), (77, (.iaload, 1)), (78, (.aload_n 0, 1)), (79, (.getfield 13, 3)), (82, (.iload_n 1, 1)), (83, (.iconst 4, 1)), (84, (.iadd, 1)), (85, (.iaload, 1)), (86, (.invokevirtual 343, 3)), (89, (.aload_n 0, 1)), (90, (.aload_n 0, 1)), (91, (.getfield 340, 3)), (94, (.putfield 346, 3)), (97, (.aload_n 0, 1)), (98, (.getfield 326, 3)), (101, (.ifCond .ne 7, 3)), (104, (.iconst 1, 1)), (105, (.goto 4, 3)), (108, (.iconst 0, 1)), (109, (.ireturn, 1)), (110, (.iconst 1, 1)), (111, (.ireturn, 1))] : List (Nat × (Instr × Nat))), decode cX12_isSo r.1 = .ok r.2 := by decide +kernel
theorem dX12_isSo_64 : decode cX12_isSo 64 = .ok (.iaload, 1) := dgX12_isSo_1 (64, (.iaload, 1)) (List.mem_of_getElem? (i := 0) rfl)
theorem dX12_isSo_65 : decode cX12_isSo 65 = .ok (.iconst 2, 1) := dgX12_isSo_1 (65, (.iconst 2, 1)) (List.mem_of_getElem? (i := 1) rfl)
theorem dX12_isSo_66 : decode cX12_isSo 66 = .ok (.if_icmp .ge 44, 3) := dgX12_isSo_1 (66, (.if_icmp .ge 44, 3)) (List.mem_of_getElem? (i := 2) rfl)
theorem dX12_isSo_69 : decode cX12_isSo 69 = .ok (.aload_n 0, 1) := dgX12_isSo_1 (69, (.aload_n 0, 1)) (List.mem_of_getElem? (i := 3) rfl)
theorem dX12_isSo_70 : decode cX12_isSo 70 = .ok (.aload_n 0, 1) := dgX12_isSo_1 (70, (.aload_n 0, 1)) (List.mem_of_getElem? (i := 4) rfl)
theorem dX12_isSo_71 : decode cX12_isSo 71 = .ok (.getfield 13, 3) := dgX12_isSo_1 (71, (.getfield 13, 3)) (List.mem_of_getElem? (i := 5) rfl)
theorem dX12_isSo_74 : decode cX12_isSo 74 = .ok (.iload_n 1, 1) := dgX12_isSo_1 (74, (.iload_n 1, 1)) (List.mem_of_getElem? (i := 6) rfl)
theorem dX12_isSo_75 : decode cX12_isSo 75 = .ok (.iconst 3, 1) := dgX12_isSo_1 (75, (.iconst 3, 1)) (List.mem_of_getElem? (i := 7) rfl)
theorem dX12_isSo_76 : decode cX12_isSo 76 = .ok (.iadd, 1) := dgX12_isSo_1 (76, (.iadd, 1)) (List.mem_of_getElem? (i := 8) rfl)
theorem dX12_isSo_77 : decode cX12_isSo 77 = .ok (.iaload, 1) := dgX12_isSo_1 (77, (.iaload, 1)) (List.mem_of_getElem? (i := 9) rfl)
theorem dX12_isSo_78 : decode cX12_isSo 78 = .ok (.aload_n 0, 1) := dgX12_isSo_1 (78, (.aload_n 0, 1)) (List.mem_of_getElem? (i := 10) rfl)
theorem dX12_isSo_79 : decode cX12_isSo 79 = .ok (.getfield 13, 3) := dgX12_isSo_1 (79, (.getfield 13, 3)) (List.mem_of_getElem? (i := 11) rfl)
theorem dX12_isSo_82 : decode cX12_isSo 82 = .ok (.iload_n 1, 1) := dgX12_isSo_1 (82, (.iload_n 1, 1)) (List.mem_of_getElem? (i := 12) rfl)
theorem dX12_isSo_83 : decode cX12_isSo 83 = .ok (.iconst 4, 1) := dgX12_isSo_1 (83, (.iconst 4, 1)) (List.mem_of_getElem? (i := 13) rfl)
theorem dX12_isSo_84 : decode cX12_isSo 84 = .ok (.iadd, 1) := dgX12_isSo_1 (84, (.iadd, 1)) (List.mem_of_getElem? (i := 14) rfl)
theorem dX12_isSo_85 : decode cX12_isSo 85 = .ok (.iaload, 1) := dgX12_isSo_1 (85, (.iaload, 1)) (List.mem_of_getElem? (i := 15) rfl)
theorem dX12_isSo_86 : decode cX12_isSo 86 = .ok (.invokevirtual 343, 3) := dgX12_isSo_1 (86, (.invokevirtual 343, 3)) (List.mem_of_getElem? (i := 16) rfl)
theorem dX12_isSo_89 : decode cX12_isSo 89 = .ok (.aload_n 0, 1) := dgX12_isSo_1 (89, (.aload_n 0, 1)) (List.mem_of_getElem? (i := 17) rfl)
theorem dX12_isSo_90 : decode cX12_isSo 90 = .ok (.aload_n 0, 1) := dgX12_isSo_1 (90, (.aload_n 0, 1)) (List.mem_of_getElem? (i := 18) rfl)
theorem dX12_isSo_91 : decode cX12_isSo 91 = .ok (.getfield 340, 3) := dgX12_isSo_1 (91, (.getfield 340, 3)) (List.mem_of_getElem? (i := 19) rfl)
theorem dX12_isSo_94 : decode cX12_isSo 94 = .ok (.putfield 346, 3) := dgX12_isSo_1 (94, (.putfield 346, 3)) (List.mem_of_getElem? (i := 20) rfl)
theorem dX12_isSo_97 : decode cX12_isSo 97 = .ok (.aload_n 0, 1) := dgX12_isSo_1 (97, (.aload_n 0, 1)) (List.mem_of_getElem? (i := 21) rfl)
theorem dX12_isSo_98 : decode cX12_isSo 98 = .ok (.getfield 326, 3) := dgX12_isSo_1 (98, (.getfield 326, 3)) (List.mem_of_getElem? (i := 22) rfl)
theorem dX12_isSo_101 : decode cX12_isSo 101 = .ok (.ifCond .ne 7, 3) := dgX12_isSo_1 (101, (.ifCond .ne 7, 3)) (List.mem_of_getElem? (i := 23) rfl)
theorem dX12_isSo_104 : decode cX12_isSo 104 = .ok (.iconst 1, 1) := dgX12_isSo_1 (104, (.iconst 1, 1)) (List.mem_of_getElem? (i := 24) rfl)
theorem dX12_isSo_105 : decode cX12_isSo 105 = .ok (.goto 4, 3) := dgX12_isSo_1 (105, (.goto 4, 3)) (List.mem_of_getElem? (i := 25) rfl)
theorem dX12_isSo_108 : decode cX12_isSo 108 = .ok (.iconst 0, 1) := dgX12_isSo_1 (108, (.iconst 0, 1)) (List.mem_of_getElem? (i := 26) rfl)
theorem dX12_isSo_109 : decode cX12_isSo 109 = .ok (.ireturn, 1) := dgX12_isSo_1 (109, (.ireturn, 1)) (List.mem_of_getElem? (i := 27) rfl)
theorem dX12_isSo_110 : decode cX12_isSo 110 = .ok (.iconst 1, 1) := dgX12_isSo_1 (110, (.iconst 1, 1)) (List.mem_of_getElem? (i := 28) rfl)
theorem dX12_isSo_111 : decode cX12_isSo 111 = .ok (.ireturn, 1) := dgX12_isSo_1 (111, (.ireturn, 1)) (List.mem_of_getElem? (i := 29) rfl)
theorem ml_X12_343 : Cond.methodLink RX12 343 yX12_reckonAll ∈ tblG := tg 1630 (by decide +kernel) (by decide +kernel)
theorem im_X12_reckonAll : Cond.instanceMethod yX12_reckonAll ∈ tblG := tg 1632 (by decide +kernel) (by decide +kernel)
theorem se_X12_reckonAll : Cond.selects RX12 yX12_reckonAll yX12_reckonAll ∈ tblG := tg 66 (by decide +kernel) (by decide +kernel)
theorem cd_X12_reckonAll : Cond.code yX12_reckonAll cX12_reckonAll 7 none ∈ tblG := tg 1633 (by decide +kernel) (by decide +kernel)
theorem gW_X12_reckonAll : GoodIn tblG (wsG yX12_reckonAll cX12_reckonAll 7 none) := tgi cd_X12_reckonAll
theorem gV_X12_343 : GoodIn tblG (wsV RX12 343 RX12 yX12_reckonAll (wsG yX12_reckonAll cX12_reckonAll 7 none)) := tgV ml_X12_343 im_X12_reckonAll se_X12_reckonAll ini_X12 gW_X12_reckonAll
theorem hv_X12_reckonAll : yX12_reckonAll.cls = RX12 ∧ yX12_reckonAll.cls ≠ "java/lang/invoke/MethodHandle" ∧ yX12_reckonAll.cls ≠ "java/lang/invoke/VarHandle" ∧ (parseMethodDescriptor yX12_reckonAll.desc).map (fun d => d.parameters.length) = some 2 := by decide +kernel
theorem fl_X12_346 : Cond.fieldLink RX12 346 "LateGlassModel" "sum" "J" ∈ tblG := tg 1235 (by decide +kernel) (by decide +kernel)
set_option maxHeartbeats 4000000 in
set_option maxRecDepth 100000 in
theorem n_isSo (l : Launch) (G : g5_G) (b_o b_ro b_se b_re b_rf b_im b_ke b_tp b_nl b_op b_ar b_pi b_pa b_ws b_hw b_pt b_ip b_ah b_be b_me b_tr b_ld b_wn : Nat) (sz : Nat) (u_th : Int32) (u_sa : Int32) (u_fd : Int32) (u_td : Int32) (u_fr : Int32) (u_to : Int32) (u_so : Int32) (u_fa : Int32) (u_bd : Int32) (u_nc : Int32) (u_co : Int32) (u_le : Int32) (u_pd : Int32) (u_od : Int32) (u_la : Int32) (u_bk : Int32) (u_ce : Int32) (u_ho : Int32) (u_wy : Int32) (u_bt : Int32) (u_ps : Int32) (u_tg : Int32) (u_sn : Int32) (u_ic : Int32) (u_wd : Int32) (u_id : Int32) (p_1 : Int32) (u_wo : Int64) (u_va : Int64) (u_su : Int64) (u_st : Int64) (v_ro : Nat → Int32) (v_se : Nat → Int64) (v_re : Nat → Int64) (h_u_td : 0 ≤ u_td.toInt ∧ u_td.toInt ≤ 400) (h_u_fr : 0 ≤ u_fr.toInt ∧ u_fr.toInt ≤ 400) (h_u_to : 0 ≤ u_to.toInt ∧ u_to.toInt ≤ 400) (h_u_bd : 0 ≤ u_bd.toInt ∧ u_bd.toInt ≤ 1) (h_u_nc : 0 ≤ u_nc.toInt ∧ u_nc.toInt ≤ 12) (h_u_co : 0 ≤ u_co.toInt ∧ u_co.toInt ≤ 400) (h_u_pd : 0 ≤ u_pd.toInt ∧ u_pd.toInt ≤ 400) (h_u_la : 0 ≤ u_la.toInt ∧ u_la.toInt ≤ 4840) (h_u_bk : 0 ≤ u_bk.toInt ∧ u_bk.toInt ≤ 1) (h_u_ce : 0 ≤ u_ce.toInt ∧ u_ce.toInt ≤ 63) (h_u_ho : 0 ≤ u_ho.toInt ∧ u_ho.toInt ≤ 23) (h_u_wy : 0 ≤ u_wy.toInt ∧ u_wy.toInt ≤ 3) (h_u_bt : 0 ≤ u_bt.toInt ∧ u_bt.toInt ≤ 1000000) (h_u_ps : 0 ≤ u_ps.toInt ∧ u_ps.toInt ≤ 200) (h_u_ic : 0 ≤ u_ic.toInt ∧ u_ic.toInt ≤ 1) (h_u_id : 0 ≤ u_id.toInt ∧ u_id.toInt ≤ 1) (h_p_1 : 0 ≤ p_1.toInt ∧ p_1.toInt ≤ 5730) (r_ro : MI v_ro) (e_cl : clOK v_ro u_la.toNatClampNeg p_1.toNatClampNeg) : Met l yX12_isSo (wsG yX12_isSo cX12_isSo 2 (some .boolean)) ({ frames := 2, cells := 0, slots := 0, locals := 51 }) (va_Pc [.ref b_o, .int p_1] (g5_P G [(b_o, (oc12 u_th u_sa b_rf b_ro b_im b_ke u_fd b_tp u_td u_fr u_to u_so u_wo u_fa u_bd u_nc b_nl u_co b_op b_ar u_le b_pi b_pa u_pd u_od b_ws b_hw u_la b_se b_re u_bk u_va u_su u_ce u_ho u_wy u_bt u_ps b_pt u_tg u_sn b_ip u_ic b_ah b_be b_me u_wd b_tr b_ld u_st b_wn u_id)), (b_ro, (arI G 5740 v_ro)), (b_se, (arJ G 13 v_se)), (b_re, (arJ G 400 v_re))] sz)) (va_Qi (fun (r : Int32) (u : va_W) => (∃ (o_r : Int32) (o_bk : Int32) (o_va : Int64) (o_su : Int64) (o_re : Nat → Int64), (0 ≤ o_r.toInt ∧ o_r.toInt ≤ 1) ∧ (0 ≤ o_bk.toInt ∧ o_bk.toInt ≤ 1) ∧ (r = o_r) ∧ (u = [(b_o, (oc12 u_th u_sa b_rf b_ro b_im b_ke u_fd b_tp u_td u_fr u_to u_so u_wo u_fa u_bd u_nc b_nl u_co b_op b_ar u_le b_pi b_pa u_pd u_od b_ws b_hw u_la b_se b_re o_bk o_va o_su u_ce u_ho u_wy u_bt u_ps b_pt u_tg u_sn b_ip u_ic b_ah b_be b_me u_wd b_tr b_ld u_st b_wn u_id)), (b_ro, (arI G 5740 v_ro)), (b_se, (arJ G 13 v_se)), (b_re, (arJ G 400 o_re))]))) (g5_B G (va_A [(b_o, (oc12 u_th u_sa b_rf b_ro b_im b_ke u_fd b_tp u_td u_fr u_to u_so u_wo u_fa u_bd u_nc b_nl u_co b_op b_ar u_le b_pi b_pa u_pd u_od b_ws b_hw u_la b_se b_re u_bk u_va u_su u_ce u_ho u_wy u_bt u_ps b_pt u_tg u_sn b_ip u_ic b_ah b_be b_me u_wd b_tr b_ld u_st b_wn u_id)), (b_ro, (arI G 5740 v_ro)), (b_se, (arJ G 13 v_se)), (b_re, (arJ G 400 v_re))] sz)) (va_A [(b_o, (oc12 u_th u_sa b_rf b_ro b_im b_ke u_fd b_tp u_td u_fr u_to u_so u_wo u_fa u_bd u_nc b_nl u_co b_op b_ar u_le b_pi b_pa u_pd u_od b_ws b_hw u_la b_se b_re u_bk u_va u_su u_ce u_ho u_wy u_bt u_ps b_pt u_tg u_sn b_ip u_ic b_ah b_be b_me u_wd b_tr b_ld u_st b_wn u_id)), (b_ro, (arI G 5740 v_ro)), (b_se, (arJ G 13 v_se)), (b_re, (arJ G 400 v_re))] sz)) 0 0 (va_A [(b_o, (oc12 u_th u_sa b_rf b_ro b_im b_ke u_fd b_tp u_td u_fr u_to u_so u_wo u_fa u_bd u_nc b_nl u_co b_op b_ar u_le b_pi b_pa u_pd u_od b_ws b_hw u_la b_se b_re u_bk u_va u_su u_ce u_ho u_wy u_bt u_ps b_pt u_tg u_sn b_ip u_ic b_ah b_be b_me u_wd b_tr b_ld u_st b_wn u_id)), (b_ro, (arI G 5740 v_ro)), (b_se, (arJ G 13 v_se)), (b_re, (arJ G 400 v_re))] sz) := by
  refine Met.ofW (cc := cX12_isSo) (maxL := 2) (ret := (some .boolean)) (by decide) rfl ?_
  intro p e s m args below meth c s₁ B hml hv
  obtain ⟨rfl, hsz, hP, hK, hD0, hN, hT⟩ := hv
  have hx := B.exec
  have hb := B.bytes
  have hr := B.returns
  have hts : ∀ w ∈ tblG, w.before _ s = true := fun w h => atoms_spec (ws := (wsG yX12_isSo cX12_isSo 2 (some .boolean))) B.pre w (List.mem_cons_of_mem _ h)
  have hown : s.vm.findClass RX12 = some m.cls := findClass_of_methodNamed B.named
  have hlocks := B.notSynchronized
  subst hsz
  have hD := hD0.self (sz := s.heap.size)
  generalize hAe : va_A [(b_o, (oc12 u_th u_sa b_rf b_ro b_im b_ke u_fd b_tp u_td u_fr u_to u_so u_wo u_fa u_bd u_nc b_nl u_co b_op b_ar u_le b_pi b_pa u_pd u_od b_ws b_hw u_la b_se b_re u_bk u_va u_su u_ce u_ho u_wy u_bt u_ps b_pt u_tg u_sn b_ip u_ic b_ah b_be b_me u_wd b_tr b_ld u_st b_wn u_id)), (b_ro, (arI G 5740 v_ro)), (b_se, (arJ G 13 v_se)), (b_re, (arJ G 400 v_re))] s.heap.size = A at hD hT ⊢
  have hA : ∀ q : Nat, s.heap.size ≤ q → A q := fun q h => by rw [← hAe]; exact Or.inr h
  have hS : va_S A s.heap s.heap [] := va_S.rf
  have hP : va_P G.1 vwCl [(b_o, (oc12 u_th u_sa b_rf b_ro b_im b_ke u_fd b_tp u_td u_fr u_to u_so u_wo u_fa u_bd u_nc b_nl u_co b_op b_ar u_le b_pi b_pa u_pd u_od b_ws b_hw u_la b_se b_re u_bk u_va u_su u_ce u_ho u_wy u_bt u_ps b_pt u_tg u_sn b_ip u_ic b_ah b_be b_me u_wd b_tr b_ld u_st b_wn u_id)), (b_ro, (arI G 5740 v_ro)), (b_se, (arJ G 13 v_se)), (b_re, (arJ G 400 v_re))] s.heap := hP
  have hl := lv_entry ([.ref b_o, .int p_1]) (n := 2) (Nat.le_of_ble_eq_true rfl)
  rw [lg_entry_eq]
  generalize (lg_sl ([.ref b_o, .int p_1]) ++ List.replicate (2 - (lg_sl ([.ref b_o, .int p_1])).length) Slot.unset).toArray = ls at hl ⊢
  have hl : lv_has ls 2 [(0, .ref b_o), (1, .int p_1)] := hl
  have z3 : (p_1 + 3).toNatClampNeg = p_1.toNatClampNeg + 3 := g_clk (n := 3) (by decide) (by omega) (by omega) (by decide)
  have z4 : (p_1 + 4).toNatClampNeg = p_1.toNatClampNeg + 4 := g_clk (n := 4) (by decide) (by omega) (by omega) (by decide)
  have z5 : (p_1 + 5).toNatClampNeg = p_1.toNatClampNeg + 5 := g_clk (n := 5) (by decide) (by omega) (by omega) (by decide)
  have z6 : (p_1 + 6).toNatClampNeg = p_1.toNatClampNeg + 6 := g_clk (n := 6) (by decide) (by omega) (by omega) (by decide)
  obtain ⟨c0, c3, c4, c5, c6, d1, d2⟩ := id e_cl
  rw [← z3] at c3 d2
  rw [← z4] at c4 d2
  rw [← z5] at c5 d1
  rw [← z6] at c6 d1
  refine lv_aload_n hx hb dX12_isSo_0 rfl (lv_at hl 0 rfl) ?_
  refine va_get (D := G.1) (ci := 12) (v := .ref b_ro) (C := RX12) (T := TX12) (N := 52) hx hb hts inG_X12 hown hK hP 0 rfl rfl 3 (by decide) (hts _ fl_X12_13) (fun _ h9 => h9) rfl dX12_isSo_1 ?_
  refine lv_iload_n hx hb dX12_isSo_4 rfl (lv_at hl 1 rfl) ?_
  refine lv_iconst (v := 5) hx hb dX12_isSo_5 (by decide) ?_
  refine lv_iadd hx hb dX12_isSo_6 ?_
  have t_1 : (p_1 + 5).toInt = p_1.toInt + 5 := g5_iadd (a := p_1.toInt) (b := 5) (by rfl) (by decide) (by omega) (by omega)
  refine va_iald hx hb hK hP 1 0 rfl rfl (i := (p_1 + 5)) (vp_in_iff.mpr ⟨by omega, by omega⟩) dX12_isSo_7 ?_
  refine lv_aload_n hx hb dX12_isSo_8 rfl (lv_at hl 0 rfl) ?_
  refine va_get (D := G.1) (ci := 12) (v := .ref b_ro) (C := RX12) (T := TX12) (N := 52) hx hb hts inG_X12 hown hK hP 0 rfl rfl 3 (by decide) (hts _ fl_X12_13) (fun _ h9 => h9) rfl dX12_isSo_9 ?_
  refine lv_iload_n hx hb dX12_isSo_12 rfl (lv_at hl 1 rfl) ?_
  refine lv_bipush (v := 6) hx hb dX12_isSo_13 (by decide) ?_
  refine lv_iadd hx hb dX12_isSo_15 ?_
  have t_2 : (p_1 + 6).toInt = p_1.toInt + 6 := g5_iadd (a := p_1.toInt) (b := 6) (by rfl) (by decide) (by omega) (by omega)
  refine va_iald hx hb hK hP 1 0 rfl rfl (i := (p_1 + 6)) (vp_in_iff.mpr ⟨by omega, by omega⟩) dX12_isSo_16 ?_
  refine lv_icmp_ge (tgt := 59) hx hb dX12_isSo_17 (by decide) (fun c_3 => ?_) (fun c_3 => ?_)
  ·
    have i_3 : (v_ro (p_1 + 5).toNatClampNeg).toInt ≥ (v_ro (p_1 + 6).toNatClampNeg).toInt := by have z := g5_ge (a := (v_ro (p_1 + 5).toNatClampNeg).toInt) (b := (v_ro (p_1 + 6).toNatClampNeg).toInt) (by rfl) (by rfl) c_3; omega
    refine lv_aload_n hx hb dX12_isSo_59 rfl (lv_at hl 0 rfl) ?_
    refine va_get (D := G.1) (ci := 12) (v := .ref b_ro) (C := RX12) (T := TX12) (N := 52) hx hb hts inG_X12 hown hK hP 0 rfl rfl 3 (by decide) (hts _ fl_X12_13) (fun _ h9 => h9) rfl dX12_isSo_60 ?_
    refine lv_iload_n hx hb dX12_isSo_63 rfl (lv_at hl 1 rfl) ?_
    refine va_iald hx hb hK hP 1 0 rfl rfl (i := p_1) (vp_in_iff.mpr ⟨by omega, by omega⟩) dX12_isSo_64 ?_
    refine lv_iconst (v := 2) hx hb dX12_isSo_65 (by decide) ?_
    refine lv_icmp_ge (tgt := 110) hx hb dX12_isSo_66 (by decide) (fun c_4 => ?_) (fun c_4 => ?_)
    ·
      have i_4 : (v_ro p_1.toNatClampNeg).toInt ≥ 2 := by have z := g5_ge (a := (v_ro p_1.toNatClampNeg).toInt) (b := 2) (by rfl) (by decide) c_4; omega
      refine lv_iconst (v := 1) hx hb dX12_isSo_110 (by decide) ?_
      exact W.zret (v := 1) hx hb hr rfl (fun t ht hW => ⟨⟨1, [(b_o, (oc12 u_th u_sa b_rf b_ro b_im b_ke u_fd b_tp u_td u_fr u_to u_so u_wo u_fa u_bd u_nc b_nl u_co b_op b_ar u_le b_pi b_pa u_pd u_od b_ws b_hw u_la b_se b_re u_bk u_va u_su u_ce u_ho u_wy u_bt u_ps b_pt u_tg u_sn b_ip u_ic b_ah b_be b_me u_wd b_tr b_ld u_st b_wn u_id)), (b_ro, (arI G 5740 v_ro)), (b_se, (arJ G 13 v_se)), (b_re, (arJ G 400 v_re))], rfl, ⟨1, u_bk, u_va, u_su, v_re, ⟨by have zc_o_r : (1 : Int32).toInt = 1 := (by decide); omega, by have zc_o_r : (1 : Int32).toInt = 1 := (by decide); omega⟩, h_u_bk, rfl, rfl⟩, by rw [ht]; exact hP.sub [0, 1, 2, 3] rfl, hD.sub [0, 1, 2, 3] (by decide) rfl⟩, hS.F ht⟩) hS.2.2 dX12_isSo_111
    ·
      have i_4 : (v_ro p_1.toNatClampNeg).toInt < 2 := by have z := g5_geN (a := (v_ro p_1.toNatClampNeg).toInt) (b := 2) (by rfl) (by decide) c_4; omega
      refine lv_aload_n hx hb dX12_isSo_69 rfl (lv_at hl 0 rfl) ?_
      refine lv_aload_n hx hb dX12_isSo_70 rfl (lv_at hl 0 rfl) ?_
      refine va_get (D := G.1) (ci := 12) (v := .ref b_ro) (C := RX12) (T := TX12) (N := 52) hx hb hts inG_X12 hown hK hP 0 rfl rfl 3 (by decide) (hts _ fl_X12_13) (fun _ h9 => h9) rfl dX12_isSo_71 ?_
      refine lv_iload_n hx hb dX12_isSo_74 rfl (lv_at hl 1 rfl) ?_
      refine lv_iconst (v := 3) hx hb dX12_isSo_75 (by decide) ?_
      refine lv_iadd hx hb dX12_isSo_76 ?_
      have t_5 : (p_1 + 3).toInt = p_1.toInt + 3 := g5_iadd (a := p_1.toInt) (b := 3) (by rfl) (by decide) (by omega) (by omega)
      refine va_iald hx hb hK hP 1 0 rfl rfl (i := (p_1 + 3)) (vp_in_iff.mpr ⟨by omega, by omega⟩) dX12_isSo_77 ?_
      refine lv_aload_n hx hb dX12_isSo_78 rfl (lv_at hl 0 rfl) ?_
      refine va_get (D := G.1) (ci := 12) (v := .ref b_ro) (C := RX12) (T := TX12) (N := 52) hx hb hts inG_X12 hown hK hP 0 rfl rfl 3 (by decide) (hts _ fl_X12_13) (fun _ h9 => h9) rfl dX12_isSo_79 ?_
      refine lv_iload_n hx hb dX12_isSo_82 rfl (lv_at hl 1 rfl) ?_
      refine lv_iconst (v := 4) hx hb dX12_isSo_83 (by decide) ?_
      refine lv_iadd hx hb dX12_isSo_84 ?_
      have t_6 : (p_1 + 4).toInt = p_1.toInt + 4 := g5_iadd (a := p_1.toInt) (b := 4) (by rfl) (by decide) (by omega) (by omega)
      refine va_iald hx hb hK hP 1 0 rfl rfl (i := (p_1 + 4)) (vp_in_iff.mpr ⟨by omega, by omega⟩) dX12_isSo_85 ?_
      obtain ⟨hPc, hDc, hFc⟩ := g5_sub3 (wc := [(b_o, (oc12 u_th u_sa b_rf b_ro b_im b_ke u_fd b_tp u_td u_fr u_to u_so u_wo u_fa u_bd u_nc b_nl u_co b_op b_ar u_le b_pi b_pa u_pd u_od b_ws b_hw u_la b_se b_re u_bk u_va u_su u_ce u_ho u_wy u_bt u_ps b_pt u_tg u_sn b_ip u_ic b_ah b_be b_me u_wd b_tr b_ld u_st b_wn u_id)), (b_ro, (arI G 5740 v_ro)), (b_se, (arJ G 13 v_se)), (b_re, (arJ G 400 v_re))]) hP hD hS hA [0, 1, 2, 3] (by decide) rfl
      refine va_callv (va_runV (As := [.int (v_ro (p_1 + 3).toNatClampNeg), .int (v_ro (p_1 + 4).toNatClampNeg)]) (rest := []) ⟨hx, hb, hml, hown, hts⟩ (n_reckonAll l G b_o b_ro b_se b_re b_rf b_im b_ke b_tp b_nl b_op b_ar b_pi b_pa b_ws b_hw b_pt b_ip b_ah b_be b_me b_tr b_ld b_wn s.heap.size u_th u_sa u_fd u_td u_fr u_to u_so u_fa u_bd u_nc u_co u_le u_pd u_od u_la u_bk u_ce u_ho u_wy u_bt u_ps u_tg u_sn u_ic u_wd u_id (v_ro (p_1 + 3).toNatClampNeg) (v_ro (p_1 + 4).toNatClampNeg) u_wo u_va u_su u_st v_ro v_se v_re h_u_td h_u_fr h_u_to h_u_bd h_u_nc h_u_co h_u_pd h_u_la h_u_bk h_u_ce h_u_ho h_u_wy h_u_bt h_u_ps h_u_ic h_u_id ⟨by omega, by omega⟩ ⟨by omega, by omega⟩ (r_ro) (d2 (by omega))) (cwV 2 hts gV_X12_343 rfl rfl rfl hv_X12_reckonAll ⟨Nat.le_of_ble_eq_true rfl, Nat.le_of_ble_eq_true rfl⟩) (g5_preV hPc hK hDc hN hT hS hFc (ci := 12) (q0 := 0) rfl rfl) rfl rfl hl.1 rfl (lv_room (Nat.le_of_ble_eq_true rfl)) dX12_isSo_86 ⟨Nat.le_of_ble_eq_true rfl, Nat.le_of_ble_eq_true rfl⟩) hS (fun q _ h => hFc q h) hFc (fun u t H1 locs ht hvm hw hB hz1 hk1 hS => ?_)
      obtain ⟨hP1, hD1⟩ := hB
      rw [ht] at hP1
      obtain ⟨z8, z9, z10, i_7, rfl⟩ := hw
      have i_7 : 0 ≤ z8.toInt ∧ z8.toInt ≤ 1 := i_7
      obtain ⟨hP, hD⟩ := va_join (wr := []) hP hD [0, 1, 2, 3] [] rfl rfl (by decide) (by decide) hk1 hFc hP1 hD1
      generalize H1 = H at hP hS ⊢
      refine g5_rs [(b_o, (oc12 u_th u_sa b_rf b_ro b_im b_ke u_fd b_tp u_td u_fr u_to u_so u_wo u_fa u_bd u_nc b_nl u_co b_op b_ar u_le b_pi b_pa u_pd u_od b_ws b_hw u_la b_se b_re z8 z9 u_su u_ce u_ho u_wy u_bt u_ps b_pt u_tg u_sn b_ip u_ic b_ah b_be b_me u_wd b_tr b_ld u_st b_wn u_id)), (b_ro, (arI G 5740 v_ro)), (b_se, (arJ G 13 v_se)), (b_re, (arJ G 400 z10))] hP hD (fun hP hD => ?_)
      refine lv_aload_n hx hb dX12_isSo_89 rfl (lv_at hl 0 rfl) ?_
      refine lv_aload_n hx hb dX12_isSo_90 rfl (lv_at hl 0 rfl) ?_
      refine va_get (D := G.1) (ci := 12) (v := .long z9) (C := RX12) (T := TX12) (N := 52) hx hb hts inG_X12 hown hK hP 0 rfl rfl 31 (by decide) (hts _ fl_X12_340) (fun _ h9 => h9) rfl dX12_isSo_91 ?_
      refine va_put (D := G.1) (ci := 12) (v := .long z9) (ty := .long) (C := RX12) (T := TX12) (N := 52) hx hb hts inG_X12 tyX12 tyX12_ok nmX12 hown hK hP hD hS 0 rfl rfl 32 (by decide) (hts _ fl_X12_346) (fun _ h9 => h9) rfl (by decide +kernel) rfl rfl (Nat.le_of_ble_eq_true rfl) dX12_isSo_94 (fun H locs hP hD hS => ?_)
      refine g5_rs [(b_o, (oc12 u_th u_sa b_rf b_ro b_im b_ke u_fd b_tp u_td u_fr u_to u_so u_wo u_fa u_bd u_nc b_nl u_co b_op b_ar u_le b_pi b_pa u_pd u_od b_ws b_hw u_la b_se b_re z8 z9 z9 u_ce u_ho u_wy u_bt u_ps b_pt u_tg u_sn b_ip u_ic b_ah b_be b_me u_wd b_tr b_ld u_st b_wn u_id)), (b_ro, (arI G 5740 v_ro)), (b_se, (arJ G 13 v_se)), (b_re, (arJ G 400 z10))] hP hD (fun hP hD => ?_)
      refine lv_aload_n hx hb dX12_isSo_97 rfl (lv_at hl 0 rfl) ?_
      refine va_get (D := G.1) (ci := 12) (v := .int z8) (C := RX12) (T := TX12) (N := 52) hx hb hts inG_X12 hown hK hP 0 rfl rfl 30 (by decide) (hts _ fl_X12_326) (fun _ h9 => h9) rfl dX12_isSo_98 ?_
      refine lv_if_ne (tgt := 108) hx hb dX12_isSo_101 (by decide) (fun c_11 => ?_) (fun c_11 => ?_)
      ·
        have n_11 : gNe (z8.toInt) (0) := by have z := g5_ne (a := z8.toInt) (b := 0) (by rfl) (by decide) c_11; unfold gNe; omega
        have i_11 : z8.toInt ≥ 1 := by have z := g5_ne (a := z8.toInt) (b := 0) (by rfl) (by decide) c_11; omega
        refine lv_iconst (v := 0) hx hb dX12_isSo_108 (by decide) ?_
        exact W.zret (v := 0) hx hb hr rfl (fun t ht hW => ⟨⟨0, [(b_o, (oc12 u_th u_sa b_rf b_ro b_im b_ke u_fd b_tp u_td u_fr u_to u_so u_wo u_fa u_bd u_nc b_nl u_co b_op b_ar u_le b_pi b_pa u_pd u_od b_ws b_hw u_la b_se b_re z8 z9 z9 u_ce u_ho u_wy u_bt u_ps b_pt u_tg u_sn b_ip u_ic b_ah b_be b_me u_wd b_tr b_ld u_st b_wn u_id)), (b_ro, (arI G 5740 v_ro)), (b_se, (arJ G 13 v_se)), (b_re, (arJ G 400 z10))], rfl, ⟨0, z8, z9, z9, z10, ⟨by have zc_o_r : (0 : Int32).toInt = 0 := (by decide); omega, by have zc_o_r : (0 : Int32).toInt = 0 := (by decide); omega⟩, i_7, rfl, rfl⟩, by rw [ht]; exact hP.sub [0, 1, 2, 3] rfl, hD.sub [0, 1, 2, 3] (by decide) rfl⟩, hS.F ht⟩) hS.2.2 dX12_isSo_109
      ·
        have i_11 : z8.toInt = 0 := by have z := g5_neN (a := z8.toInt) (b := 0) (by rfl) (by decide) c_11; omega
        refine lv_iconst (v := 1) hx hb dX12_isSo_104 (by decide) ?_
        refine lv_goto (tgt := 109) hx hb dX12_isSo_105 (by decide) ?_
        exact W.zret (v := 1) hx hb hr rfl (fun t ht hW => ⟨⟨1, [(b_o, (oc12 u_th u_sa b_rf b_ro b_im b_ke u_fd b_tp u_td u_fr u_to u_so u_wo u_fa u_bd u_nc b_nl u_co b_op b_ar u_le b_pi b_pa u_pd u_od b_ws b_hw u_la b_se b_re z8 z9 z9 u_ce u_ho u_wy u_bt u_ps b_pt u_tg u_sn b_ip u_ic b_ah b_be b_me u_wd b_tr b_ld u_st b_wn u_id)), (b_ro, (arI G 5740 v_ro)), (b_se, (arJ G 13 v_se)), (b_re, (arJ G 400 z10))], rfl, ⟨1, z8, z9, z9, z10, ⟨by have zc_o_r : (1 : Int32).toInt = 1 := (by decide); omega, by have zc_o_r : (1 : Int32).toInt = 1 := (by decide); omega⟩, i_7, rfl, rfl⟩, by rw [ht]; exact hP.sub [0, 1, 2, 3] rfl, hD.sub [0, 1, 2, 3] (by decide) rfl⟩, hS.F ht⟩) hS.2.2 dX12_isSo_109
  ·
    have i_3 : (v_ro (p_1 + 5).toNatClampNeg).toInt < (v_ro (p_1 + 6).toNatClampNeg).toInt := by have z := g5_geN (a := (v_ro (p_1 + 5).toNatClampNeg).toInt) (b := (v_ro (p_1 + 6).toNatClampNeg).toInt) (by rfl) (by rfl) c_3; omega
    refine lv_aload_n hx hb dX12_isSo_20 rfl (lv_at hl 0 rfl) ?_
    refine lv_aload_n hx hb dX12_isSo_21 rfl (lv_at hl 0 rfl) ?_
    refine va_get (D := G.1) (ci := 12) (v := .ref b_ro) (C := RX12) (T := TX12) (N := 52) hx hb hts inG_X12 hown hK hP 0 rfl rfl 3 (by decide) (hts _ fl_X12_13) (fun _ h9 => h9) rfl dX12_isSo_22 ?_
    refine lv_iload_n hx hb dX12_isSo_25 rfl (lv_at hl 1 rfl) ?_
    refine lv_iconst (v := 5) hx hb dX12_isSo_26 (by decide) ?_
    refine lv_iadd hx hb dX12_isSo_27 ?_
    have t_12 : (p_1 + 5).toInt = p_1.toInt + 5 := g5_iadd (a := p_1.toInt) (b := 5) (by rfl) (by decide) (by omega) (by omega)
    refine va_iald hx hb hK hP 1 0 rfl rfl (i := (p_1 + 5)) (vp_in_iff.mpr ⟨by omega, by omega⟩) dX12_isSo_28 ?_
    refine lv_aload_n hx hb dX12_isSo_29 rfl (lv_at hl 0 rfl) ?_
    refine va_get (D := G.1) (ci := 12) (v := .ref b_ro) (C := RX12) (T := TX12) (N := 52) hx hb hts inG_X12 hown hK hP 0 rfl rfl 3 (by decide) (hts _ fl_X12_13) (fun _ h9 => h9) rfl dX12_isSo_30 ?_
    refine lv_iload_n hx hb dX12_isSo_33 rfl (lv_at hl 1 rfl) ?_
    refine lv_bipush (v := 6) hx hb dX12_isSo_34 (by decide) ?_
    refine lv_iadd hx hb dX12_isSo_36 ?_
    have t_13 : (p_1 + 6).toInt = p_1.toInt + 6 := g5_iadd (a := p_1.toInt) (b := 6) (by rfl) (by decide) (by omega) (by omega)
    refine va_iald hx hb hK hP 1 0 rfl rfl (i := (p_1 + 6)) (vp_in_iff.mpr ⟨by omega, by omega⟩) dX12_isSo_37 ?_
    obtain ⟨hPc, hDc, hFc⟩ := g5_sub3 (wc := [(b_o, (oc12 u_th u_sa b_rf b_ro b_im b_ke u_fd b_tp u_td u_fr u_to u_so u_wo u_fa u_bd u_nc b_nl u_co b_op b_ar u_le b_pi b_pa u_pd u_od b_ws b_hw u_la b_se b_re u_bk u_va u_su u_ce u_ho u_wy u_bt u_ps b_pt u_tg u_sn b_ip u_ic b_ah b_be b_me u_wd b_tr b_ld u_st b_wn u_id)), (b_ro, (arI G 5740 v_ro)), (b_se, (arJ G 13 v_se)), (b_re, (arJ G 400 v_re))]) hP hD hS hA [0, 1, 2, 3] (by decide) rfl
    refine va_callv (va_runV (As := [.int (v_ro (p_1 + 5).toNatClampNeg), .int (v_ro (p_1 + 6).toNatClampNeg)]) (rest := []) ⟨hx, hb, hml, hown, hts⟩ (n_reckonAll l G b_o b_ro b_se b_re b_rf b_im b_ke b_tp b_nl b_op b_ar b_pi b_pa b_ws b_hw b_pt b_ip b_ah b_be b_me b_tr b_ld b_wn s.heap.size u_th u_sa u_fd u_td u_fr u_to u_so u_fa u_bd u_nc u_co u_le u_pd u_od u_la u_bk u_ce u_ho u_wy u_bt u_ps u_tg u_sn u_ic u_wd u_id (v_ro (p_1 + 5).toNatClampNeg) (v_ro (p_1 + 6).toNatClampNeg) u_wo u_va u_su u_st v_ro v_se v_re h_u_td h_u_fr h_u_to h_u_bd h_u_nc h_u_co h_u_pd h_u_la h_u_bk h_u_ce h_u_ho h_u_wy h_u_bt h_u_ps h_u_ic h_u_id ⟨by omega, by omega⟩ ⟨by omega, by omega⟩ (r_ro) (d1)) (cwV 2 hts gV_X12_343 rfl rfl rfl hv_X12_reckonAll ⟨Nat.le_of_ble_eq_true rfl, Nat.le_of_ble_eq_true rfl⟩) (g5_preV hPc hK hDc hN hT hS hFc (ci := 12) (q0 := 0) rfl rfl) rfl rfl hl.1 rfl (lv_room (Nat.le_of_ble_eq_true rfl)) dX12_isSo_38 ⟨Nat.le_of_ble_eq_true rfl, Nat.le_of_ble_eq_true rfl⟩) hS (fun q _ h => hFc q h) hFc (fun u t H1 locs ht hvm hw hB hz1 hk1 hS => ?_)
    obtain ⟨hP1, hD1⟩ := hB
    rw [ht] at hP1
    obtain ⟨z15, z16, z17, i_14, rfl⟩ := hw
    have i_14 : 0 ≤ z15.toInt ∧ z15.toInt ≤ 1 := i_14
    obtain ⟨hP, hD⟩ := va_join (wr := []) hP hD [0, 1, 2, 3] [] rfl rfl (by decide) (by decide) hk1 hFc hP1 hD1
    generalize H1 = H at hP hS ⊢
    refine g5_rs [(b_o, (oc12 u_th u_sa b_rf b_ro b_im b_ke u_fd b_tp u_td u_fr u_to u_so u_wo u_fa u_bd u_nc b_nl u_co b_op b_ar u_le b_pi b_pa u_pd u_od b_ws b_hw u_la b_se b_re z15 z16 u_su u_ce u_ho u_wy u_bt u_ps b_pt u_tg u_sn b_ip u_ic b_ah b_be b_me u_wd b_tr b_ld u_st b_wn u_id)), (b_ro, (arI G 5740 v_ro)), (b_se, (arJ G 13 v_se)), (b_re, (arJ G 400 z17))] hP hD (fun hP hD => ?_)
    refine lv_aload_n hx hb dX12_isSo_41 rfl (lv_at hl 0 rfl) ?_
    refine va_get (D := G.1) (ci := 12) (v := .int z15) (C := RX12) (T := TX12) (N := 52) hx hb hts inG_X12 hown hK hP 0 rfl rfl 30 (by decide) (hts _ fl_X12_326) (fun _ h9 => h9) rfl dX12_isSo_42 ?_
    refine lv_if_ne (tgt := 57) hx hb dX12_isSo_45 (by decide) (fun c_18 => ?_) (fun c_18 => ?_)
    ·
      have n_18 : gNe (z15.toInt) (0) := by have z := g5_ne (a := z15.toInt) (b := 0) (by rfl) (by decide) c_18; unfold gNe; omega
      have i_18 : z15.toInt ≥ 1 := by have z := g5_ne (a := z15.toInt) (b := 0) (by rfl) (by decide) c_18; omega
      refine lv_iconst (v := 0) hx hb dX12_isSo_57 (by decide) ?_
      exact W.zret (v := 0) hx hb hr rfl (fun t ht hW => ⟨⟨0, [(b_o, (oc12 u_th u_sa b_rf b_ro b_im b_ke u_fd b_tp u_td u_fr u_to u_so u_wo u_fa u_bd u_nc b_nl u_co b_op b_ar u_le b_pi b_pa u_pd u_od b_ws b_hw u_la b_se b_re z15 z16 u_su u_ce u_ho u_wy u_bt u_ps b_pt u_tg u_sn b_ip u_ic b_ah b_be b_me u_wd b_tr b_ld u_st b_wn u_id)), (b_ro, (arI G 5740 v_ro)), (b_se, (arJ G 13 v_se)), (b_re, (arJ G 400 z17))], rfl, ⟨0, z15, z16, u_su, z17, ⟨by have zc_o_r : (0 : Int32).toInt = 0 := (by decide); omega, by have zc_o_r : (0 : Int32).toInt = 0 := (by decide); omega⟩, i_14, rfl, rfl⟩, by rw [ht]; exact hP.sub [0, 1, 2, 3] rfl, hD.sub [0, 1, 2, 3] (by decide) rfl⟩, hS.F ht⟩) hS.2.2 dX12_isSo_58
    ·
      have i_18 : z15.toInt = 0 := by have z := g5_neN (a := z15.toInt) (b := 0) (by rfl) (by decide) c_18; omega
      refine lv_aload_n hx hb dX12_isSo_48 rfl (lv_at hl 0 rfl) ?_
      refine va_get (D := G.1) (ci := 12) (v := .long z16) (C := RX12) (T := TX12) (N := 52) hx hb hts inG_X12 hown hK hP 0 rfl rfl 31 (by decide) (hts _ fl_X12_340) (fun _ h9 => h9) rfl dX12_isSo_49 ?_
      refine lv_lconst (v := 0) hx hb dX12_isSo_52 (by decide) ?_
      refine W.lcmp hx hb dX12_isSo_53 ?_
      refine lv_if_ne (tgt := 59) hx hb dX12_isSo_54 (by decide) (fun c_19 => ?_) (fun c_19 => ?_)
      ·
        have n_19 : gNe ((lg_cmp z16 0).toInt) (0) := by have z := g5_ne (a := (lg_cmp z16 0).toInt) (b := 0) (by rfl) (by decide) c_19; unfold gNe; omega
        refine lv_aload_n hx hb dX12_isSo_59 rfl (lv_at hl 0 rfl) ?_
        refine va_get (D := G.1) (ci := 12) (v := .ref b_ro) (C := RX12) (T := TX12) (N := 52) hx hb hts inG_X12 hown hK hP 0 rfl rfl 3 (by decide) (hts _ fl_X12_13) (fun _ h9 => h9) rfl dX12_isSo_60 ?_
        refine lv_iload_n hx hb dX12_isSo_63 rfl (lv_at hl 1 rfl) ?_
        refine va_iald hx hb hK hP 1 0 rfl rfl (i := p_1) (vp_in_iff.mpr ⟨by omega, by omega⟩) dX12_isSo_64 ?_
        refine lv_iconst (v := 2) hx hb dX12_isSo_65 (by decide) ?_
        refine lv_icmp_ge (tgt := 110) hx hb dX12_isSo_66 (by decide) (fun c_20 => ?_) (fun c_20 => ?_)
        ·
          have i_20 : (v_ro p_1.toNatClampNeg).toInt ≥ 2 := by have z := g5_ge (a := (v_ro p_1.toNatClampNeg).toInt) (b := 2) (by rfl) (by decide) c_20; omega
          refine lv_iconst (v := 1) hx hb dX12_isSo_110 (by decide) ?_
          exact W.zret (v := 1) hx hb hr rfl (fun t ht hW => ⟨⟨1, [(b_o, (oc12 u_th u_sa b_rf b_ro b_im b_ke u_fd b_tp u_td u_fr u_to u_so u_wo u_fa u_bd u_nc b_nl u_co b_op b_ar u_le b_pi b_pa u_pd u_od b_ws b_hw u_la b_se b_re z15 z16 u_su u_ce u_ho u_wy u_bt u_ps b_pt u_tg u_sn b_ip u_ic b_ah b_be b_me u_wd b_tr b_ld u_st b_wn u_id)), (b_ro, (arI G 5740 v_ro)), (b_se, (arJ G 13 v_se)), (b_re, (arJ G 400 z17))], rfl, ⟨1, z15, z16, u_su, z17, ⟨by have zc_o_r : (1 : Int32).toInt = 1 := (by decide); omega, by have zc_o_r : (1 : Int32).toInt = 1 := (by decide); omega⟩, i_14, rfl, rfl⟩, by rw [ht]; exact hP.sub [0, 1, 2, 3] rfl, hD.sub [0, 1, 2, 3] (by decide) rfl⟩, hS.F ht⟩) hS.2.2 dX12_isSo_111
        ·
          have i_20 : (v_ro p_1.toNatClampNeg).toInt < 2 := by have z := g5_geN (a := (v_ro p_1.toNatClampNeg).toInt) (b := 2) (by rfl) (by decide) c_20; omega
          refine lv_aload_n hx hb dX12_isSo_69 rfl (lv_at hl 0 rfl) ?_
          refine lv_aload_n hx hb dX12_isSo_70 rfl (lv_at hl 0 rfl) ?_
          refine va_get (D := G.1) (ci := 12) (v := .ref b_ro) (C := RX12) (T := TX12) (N := 52) hx hb hts inG_X12 hown hK hP 0 rfl rfl 3 (by decide) (hts _ fl_X12_13) (fun _ h9 => h9) rfl dX12_isSo_71 ?_
          refine lv_iload_n hx hb dX12_isSo_74 rfl (lv_at hl 1 rfl) ?_
          refine lv_iconst (v := 3) hx hb dX12_isSo_75 (by decide) ?_
          refine lv_iadd hx hb dX12_isSo_76 ?_
          have t_21 : (p_1 + 3).toInt = p_1.toInt + 3 := g5_iadd (a := p_1.toInt) (b := 3) (by rfl) (by decide) (by omega) (by omega)
          refine va_iald hx hb hK hP 1 0 rfl rfl (i := (p_1 + 3)) (vp_in_iff.mpr ⟨by omega, by omega⟩) dX12_isSo_77 ?_
          refine lv_aload_n hx hb dX12_isSo_78 rfl (lv_at hl 0 rfl) ?_
          refine va_get (D := G.1) (ci := 12) (v := .ref b_ro) (C := RX12) (T := TX12) (N := 52) hx hb hts inG_X12 hown hK hP 0 rfl rfl 3 (by decide) (hts _ fl_X12_13) (fun _ h9 => h9) rfl dX12_isSo_79 ?_
          refine lv_iload_n hx hb dX12_isSo_82 rfl (lv_at hl 1 rfl) ?_
          refine lv_iconst (v := 4) hx hb dX12_isSo_83 (by decide) ?_
          refine lv_iadd hx hb dX12_isSo_84 ?_
          have t_22 : (p_1 + 4).toInt = p_1.toInt + 4 := g5_iadd (a := p_1.toInt) (b := 4) (by rfl) (by decide) (by omega) (by omega)
          refine va_iald hx hb hK hP 1 0 rfl rfl (i := (p_1 + 4)) (vp_in_iff.mpr ⟨by omega, by omega⟩) dX12_isSo_85 ?_
          obtain ⟨hPc, hDc, hFc⟩ := g5_sub3 (wc := [(b_o, (oc12 u_th u_sa b_rf b_ro b_im b_ke u_fd b_tp u_td u_fr u_to u_so u_wo u_fa u_bd u_nc b_nl u_co b_op b_ar u_le b_pi b_pa u_pd u_od b_ws b_hw u_la b_se b_re z15 z16 u_su u_ce u_ho u_wy u_bt u_ps b_pt u_tg u_sn b_ip u_ic b_ah b_be b_me u_wd b_tr b_ld u_st b_wn u_id)), (b_ro, (arI G 5740 v_ro)), (b_se, (arJ G 13 v_se)), (b_re, (arJ G 400 z17))]) hP hD hS hA [0, 1, 2, 3] (by decide) rfl
          refine va_callv (va_runV (As := [.int (v_ro (p_1 + 3).toNatClampNeg), .int (v_ro (p_1 + 4).toNatClampNeg)]) (rest := []) ⟨hx, hb, hml, hown, hts⟩ (n_reckonAll l G b_o b_ro b_se b_re b_rf b_im b_ke b_tp b_nl b_op b_ar b_pi b_pa b_ws b_hw b_pt b_ip b_ah b_be b_me b_tr b_ld b_wn H.size u_th u_sa u_fd u_td u_fr u_to u_so u_fa u_bd u_nc u_co u_le u_pd u_od u_la z15 u_ce u_ho u_wy u_bt u_ps u_tg u_sn u_ic u_wd u_id (v_ro (p_1 + 3).toNatClampNeg) (v_ro (p_1 + 4).toNatClampNeg) u_wo z16 u_su u_st v_ro v_se z17 h_u_td h_u_fr h_u_to h_u_bd h_u_nc h_u_co h_u_pd h_u_la i_14 h_u_ce h_u_ho h_u_wy h_u_bt h_u_ps h_u_ic h_u_id ⟨by omega, by omega⟩ ⟨by omega, by omega⟩ (r_ro) (d2 (by omega))) (cwV 2 hts gV_X12_343 rfl rfl rfl hv_X12_reckonAll ⟨Nat.le_of_ble_eq_true rfl, Nat.le_of_ble_eq_true rfl⟩) (g5_preV hPc hK hDc hN hT hS hFc (ci := 12) (q0 := 0) rfl rfl) rfl rfl hl.1 rfl (lv_room (Nat.le_of_ble_eq_true rfl)) dX12_isSo_86 ⟨Nat.le_of_ble_eq_true rfl, Nat.le_of_ble_eq_true rfl⟩) hS (fun q _ h => hFc q h) hFc (fun u t H1 locs ht hvm hw hB hz1 hk1 hS => ?_)
          obtain ⟨hP1, hD1⟩ := hB
          rw [ht] at hP1
          obtain ⟨z24, z25, z26, i_23, rfl⟩ := hw
          have i_23 : 0 ≤ z24.toInt ∧ z24.toInt ≤ 1 := i_23
          obtain ⟨hP, hD⟩ := va_join (wr := []) hP hD [0, 1, 2, 3] [] rfl rfl (by decide) (by decide) hk1 hFc hP1 hD1
          generalize H1 = H at hP hS ⊢
          refine g5_rs [(b_o, (oc12 u_th u_sa b_rf b_ro b_im b_ke u_fd b_tp u_td u_fr u_to u_so u_wo u_fa u_bd u_nc b_nl u_co b_op b_ar u_le b_pi b_pa u_pd u_od b_ws b_hw u_la b_se b_re z24 z25 u_su u_ce u_ho u_wy u_bt u_ps b_pt u_tg u_sn b_ip u_ic b_ah b_be b_me u_wd b_tr b_ld u_st b_wn u_id)), (b_ro, (arI G 5740 v_ro)), (b_se, (arJ G 13 v_se)), (b_re, (arJ G 400 z26))] hP hD (fun hP hD => ?_)
          refine lv_aload_n hx hb dX12_isSo_89 rfl (lv_at hl 0 rfl) ?_
          refine lv_aload_n hx hb dX12_isSo_90 rfl (lv_at hl 0 rfl) ?_
          refine va_get (D := G.1) (ci := 12) (v := .long z25) (C := RX12) (T := TX12) (N := 52) hx hb hts inG_X12 hown hK hP 0 rfl rfl 31 (by decide) (hts _ fl_X12_340) (fun _ h9 => h9) rfl dX12_isSo_91 ?_
          refine va_put (D := G.1) (ci := 12) (v := .long z25) (ty := .long) (C := RX12) (T := TX12) (N := 52) hx hb hts inG_X12 tyX12 tyX12_ok nmX12 hown hK hP hD hS 0 rfl rfl 32 (by decide) (hts _ fl_X12_346) (fun _ h9 => h9) rfl (by decide +kernel) rfl rfl (Nat.le_of_ble_eq_true rfl) dX12_isSo_94 (fun H locs hP hD hS => ?_)
          refine g5_rs [(b_o, (oc12 u_th u_sa b_rf b_ro b_im b_ke u_fd b_tp u_td u_fr u_to u_so u_wo u_fa u_bd u_nc b_nl u_co b_op b_ar u_le b_pi b_pa u_pd u_od b_ws b_hw u_la b_se b_re z24 z25 z25 u_ce u_ho u_wy u_bt u_ps b_pt u_tg u_sn b_ip u_ic b_ah b_be b_me u_wd b_tr b_ld u_st b_wn u_id)), (b_ro, (arI G 5740 v_ro)), (b_se, (arJ G 13 v_se)), (b_re, (arJ G 400 z26))] hP hD (fun hP hD => ?_)
          refine lv_aload_n hx hb dX12_isSo_97 rfl (lv_at hl 0 rfl) ?_
          refine va_get (D := G.1) (ci := 12) (v := .int z24) (C := RX12) (T := TX12) (N := 52) hx hb hts inG_X12 hown hK hP 0 rfl rfl 30 (by decide) (hts _ fl_X12_326) (fun _ h9 => h9) rfl dX12_isSo_98 ?_
          refine lv_if_ne (tgt := 108) hx hb dX12_isSo_101 (by decide) (fun c_27 => ?_) (fun c_27 => ?_)
          ·
            have n_27 : gNe (z24.toInt) (0) := by have z := g5_ne (a := z24.toInt) (b := 0) (by rfl) (by decide) c_27; unfold gNe; omega
            have i_27 : z24.toInt ≥ 1 := by have z := g5_ne (a := z24.toInt) (b := 0) (by rfl) (by decide) c_27; omega
            refine lv_iconst (v := 0) hx hb dX12_isSo_108 (by decide) ?_
            exact W.zret (v := 0) hx hb hr rfl (fun t ht hW => ⟨⟨0, [(b_o, (oc12 u_th u_sa b_rf b_ro b_im b_ke u_fd b_tp u_td u_fr u_to u_so u_wo u_fa u_bd u_nc b_nl u_co b_op b_ar u_le b_pi b_pa u_pd u_od b_ws b_hw u_la b_se b_re z24 z25 z25 u_ce u_ho u_wy u_bt u_ps b_pt u_tg u_sn b_ip u_ic b_ah b_be b_me u_wd b_tr b_ld u_st b_wn u_id)), (b_ro, (arI G 5740 v_ro)), (b_se, (arJ G 13 v_se)), (b_re, (arJ G 400 z26))], rfl, ⟨0, z24, z25, z25, z26, ⟨by have zc_o_r : (0 : Int32).toInt = 0 := (by decide); omega, by have zc_o_r : (0 : Int32).toInt = 0 := (by decide); omega⟩, i_23, rfl, rfl⟩, by rw [ht]; exact hP.sub [0, 1, 2, 3] rfl, hD.sub [0, 1, 2, 3] (by decide) rfl⟩, hS.F ht⟩) hS.2.2 dX12_isSo_109
          ·
            have i_27 : z24.toInt = 0 := by have z := g5_neN (a := z24.toInt) (b := 0) (by rfl) (by decide) c_27; omega
            refine lv_iconst (v := 1) hx hb dX12_isSo_104 (by decide) ?_
            refine lv_goto (tgt := 109) hx hb dX12_isSo_105 (by decide) ?_
            exact W.zret (v := 1) hx hb hr rfl (fun t ht hW => ⟨⟨1, [(b_o, (oc12 u_th u_sa b_rf b_ro b_im b_ke u_fd b_tp u_td u_fr u_to u_so u_wo u_fa u_bd u_nc b_nl u_co b_op b_ar u_le b_pi b_pa u_pd u_od b_ws b_hw u_la b_se b_re z24 z25 z25 u_ce u_ho u_wy u_bt u_ps b_pt u_tg u_sn b_ip u_ic b_ah b_be b_me u_wd b_tr b_ld u_st b_wn u_id)), (b_ro, (arI G 5740 v_ro)), (b_se, (arJ G 13 v_se)), (b_re, (arJ G 400 z26))], rfl, ⟨1, z24, z25, z25, z26, ⟨by have zc_o_r : (1 : Int32).toInt = 1 := (by decide); omega, by have zc_o_r : (1 : Int32).toInt = 1 := (by decide); omega⟩, i_23, rfl, rfl⟩, by rw [ht]; exact hP.sub [0, 1, 2, 3] rfl, hD.sub [0, 1, 2, 3] (by decide) rfl⟩, hS.F ht⟩) hS.2.2 dX12_isSo_109
      ·
        have i_19 : (lg_cmp z16 0).toInt = 0 := by have z := g5_neN (a := (lg_cmp z16 0).toInt) (b := 0) (by rfl) (by decide) c_19; omega
        refine lv_iconst (v := 0) hx hb dX12_isSo_57 (by decide) ?_
        exact W.zret (v := 0) hx hb hr rfl (fun t ht hW => ⟨⟨0, [(b_o, (oc12 u_th u_sa b_rf b_ro b_im b_ke u_fd b_tp u_td u_fr u_to u_so u_wo u_fa u_bd u_nc b_nl u_co b_op b_ar u_le b_pi b_pa u_pd u_od b_ws b_hw u_la b_se b_re z15 z16 u_su u_ce u_ho u_wy u_bt u_ps b_pt u_tg u_sn b_ip u_ic b_ah b_be b_me u_wd b_tr b_ld u_st b_wn u_id)), (b_ro, (arI G 5740 v_ro)), (b_se, (arJ G 13 v_se)), (b_re, (arJ G 400 z17))], rfl, ⟨0, z15, z16, u_su, z17, ⟨by have zc_o_r : (0 : Int32).toInt = 0 := (by decide); omega, by have zc_o_r : (0 : Int32).toInt = 0 := (by decide); omega⟩, i_14, rfl, rfl⟩, by rw [ht]; exact hP.sub [0, 1, 2, 3] rfl, hD.sub [0, 1, 2, 3] (by decide) rfl⟩, hS.F ht⟩) hS.2.2 dX12_isSo_58
