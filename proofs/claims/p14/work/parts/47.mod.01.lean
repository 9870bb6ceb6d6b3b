set_option maxHeartbeats 4000000 in
set_option maxRecDepth 100000 in
theorem n_findSoonest (l : Launch) (G : g5_G) (b_o b_ro b_se b_re b_pt b_tr b_ld b_rf b_im b_ke b_tp b_nl b_op b_ar b_pi b_pa b_ws b_hw b_ip b_ah b_be b_me b_wn : Nat) (sz : Nat) (u_th : Int32) (u_sa : Int32) (u_fd : Int32) (u_td : Int32) (u_fr : Int32) (u_to : Int32) (u_so : Int32) (u_fa : Int32) (u_bd : Int32) (u_nc : Int32) (u_co : Int32) (u_le : Int32) (u_pd : Int32) (u_od : Int32) (u_la : Int32) (u_bk : Int32) (u_ce : Int32) (u_ho : Int32) (u_wy : Int32) (u_bt : Int32) (u_ps : Int32) (u_tg : Int32) (u_sn : Int32) (u_ic : Int32) (u_wd : Int32) (u_id : Int32) (p_1 : Int32) (p_2 : Int32) (p_3 : Int32) (u_wo : Int64) (u_va : Int64) (u_su : Int64) (u_st : Int64) (v_ro : Nat → Int32) (v_se : Nat → Int64) (v_re : Nat → Int64) (v_pt : Nat → Int32) (v_tr : Nat → Int32) (v_ld : Nat → Int32) (h_u_td : 0 ≤ u_td.toInt ∧ u_td.toInt ≤ 400) (h_u_fr : 0 ≤ u_fr.toInt ∧ u_fr.toInt ≤ 400) (h_u_to : 0 ≤ u_to.toInt ∧ u_to.toInt ≤ 400) (h_u_bd : 0 ≤ u_bd.toInt ∧ u_bd.toInt ≤ 1) (h_u_nc : 0 ≤ u_nc.toInt ∧ u_nc.toInt ≤ 12) (h_u_co : 0 ≤ u_co.toInt ∧ u_co.toInt ≤ 400) (h_u_pd : 0 ≤ u_pd.toInt ∧ u_pd.toInt ≤ 400) (h_u_la : 0 ≤ u_la.toInt ∧ u_la.toInt ≤ 4840) (h_u_bk : 0 ≤ u_bk.toInt ∧ u_bk.toInt ≤ 1) (h_u_ce : 0 ≤ u_ce.toInt ∧ u_ce.toInt ≤ 63) (h_u_ho : 0 ≤ u_ho.toInt ∧ u_ho.toInt ≤ 23) (h_u_wy : 0 ≤ u_wy.toInt ∧ u_wy.toInt ≤ 3) (h_u_bt : 0 ≤ u_bt.toInt ∧ u_bt.toInt ≤ 1000000) (h_u_ps : 0 ≤ u_ps.toInt ∧ u_ps.toInt ≤ 200) (h_u_ic : 0 ≤ u_ic.toInt ∧ u_ic.toInt ≤ 1) (h_u_id : 0 ≤ u_id.toInt ∧ u_id.toInt ≤ 1) (h_p_2 : 0 ≤ p_2.toInt ∧ p_2.toInt ≤ 63) (h_p_3 : 0 ≤ p_3.toInt ∧ p_3.toInt ≤ 23) (r_ro : MI v_ro) (r_pt : PTI v_pt) : Met l yX12_findSoonest (wsG yX12_findSoonest cX12_findSoonest 9 (some .int)) ({ frames := 8, cells := 0, slots := 0, locals := 200 }) (va_Pc [.ref b_o, .int p_1, .int p_2, .int p_3] (g5_P G [(b_o, (oc12 u_th u_sa b_rf b_ro b_im b_ke u_fd b_tp u_td u_fr u_to u_so u_wo u_fa u_bd u_nc b_nl u_co b_op b_ar u_le b_pi b_pa u_pd u_od b_ws b_hw u_la b_se b_re u_bk u_va u_su u_ce u_ho u_wy u_bt u_ps b_pt u_tg u_sn b_ip u_ic b_ah b_be b_me u_wd b_tr b_ld u_st b_wn u_id)), (b_ro, (arI G 5740 v_ro)), (b_se, (arJ G 13 v_se)), (b_re, (arJ G 400 v_re)), (b_pt, (arI G 200 v_pt)), (b_tr, (arZ G 1536 v_tr)), (b_ld, (arZ G 1536 v_ld))] sz)) (va_Qi (fun (r : Int32) (u : va_W) => (∃ (o_r : Int32) (o_la : Int32) (o_bk : Int32) (o_va : Int64) (o_su : Int64) (o_ce : Int32) (o_ho : Int32) (o_wy : Int32) (o_bt : Int32) (o_ps : Int32) (o_tg : Int32) (o_sn : Int32) (o_se : Nat → Int64) (o_re : Nat → Int64) (o_pt : Nat → Int32) (o_tr : Nat → Int32) (o_ld : Nat → Int32), ((-1) ≤ o_r.toInt ∧ o_r.toInt ≤ 23) ∧ (0 ≤ o_la.toInt ∧ o_la.toInt ≤ 4840) ∧ (0 ≤ o_bk.toInt ∧ o_bk.toInt ≤ 1) ∧ (0 ≤ o_ce.toInt ∧ o_ce.toInt ≤ 63) ∧ (0 ≤ o_ho.toInt ∧ o_ho.toInt ≤ 23) ∧ (0 ≤ o_wy.toInt ∧ o_wy.toInt ≤ 3) ∧ (0 ≤ o_bt.toInt ∧ o_bt.toInt ≤ 1000000) ∧ (0 ≤ o_ps.toInt ∧ o_ps.toInt ≤ 200) ∧ (PTI o_pt) ∧ (r = o_r) ∧ (u = [(b_o, (oc12 u_th u_sa b_rf b_ro b_im b_ke u_fd b_tp u_td u_fr u_to u_so u_wo u_fa u_bd u_nc b_nl u_co b_op b_ar u_le b_pi b_pa u_pd u_od b_ws b_hw o_la b_se b_re o_bk o_va o_su o_ce o_ho o_wy o_bt o_ps b_pt o_tg o_sn b_ip u_ic b_ah b_be b_me u_wd b_tr b_ld u_st b_wn u_id)), (b_ro, (arI G 5740 v_ro)), (b_se, (arJ G 13 o_se)), (b_re, (arJ G 400 o_re)), (b_pt, (arI G 200 o_pt)), (b_tr, (arZ G 1536 o_tr)), (b_ld, (arZ G 1536 o_ld))]))) (g5_B G (va_A [(b_o, (oc12 u_th u_sa b_rf b_ro b_im b_ke u_fd b_tp u_td u_fr u_to u_so u_wo u_fa u_bd u_nc b_nl u_co b_op b_ar u_le b_pi b_pa u_pd u_od b_ws b_hw u_la b_se b_re u_bk u_va u_su u_ce u_ho u_wy u_bt u_ps b_pt u_tg u_sn b_ip u_ic b_ah b_be b_me u_wd b_tr b_ld u_st b_wn u_id)), (b_ro, (arI G 5740 v_ro)), (b_se, (arJ G 13 v_se)), (b_re, (arJ G 400 v_re)), (b_pt, (arI G 200 v_pt)), (b_tr, (arZ G 1536 v_tr)), (b_ld, (arZ G 1536 v_ld))] sz)) (va_A [(b_o, (oc12 u_th u_sa b_rf b_ro b_im b_ke u_fd b_tp u_td u_fr u_to u_so u_wo u_fa u_bd u_nc b_nl u_co b_op b_ar u_le b_pi b_pa u_pd u_od b_ws b_hw u_la b_se b_re u_bk u_va u_su u_ce u_ho u_wy u_bt u_ps b_pt u_tg u_sn b_ip u_ic b_ah b_be b_me u_wd b_tr b_ld u_st b_wn u_id)), (b_ro, (arI G 5740 v_ro)), (b_se, (arJ G 13 v_se)), (b_re, (arJ G 400 v_re)), (b_pt, (arI G 200 v_pt)), (b_tr, (arZ G 1536 v_tr)), (b_ld, (arZ G 1536 v_ld))] sz)) 0 0 (va_A [(b_o, (oc12 u_th u_sa b_rf b_ro b_im b_ke u_fd b_tp u_td u_fr u_to u_so u_wo u_fa u_bd u_nc b_nl u_co b_op b_ar u_le b_pi b_pa u_pd u_od b_ws b_hw u_la b_se b_re u_bk u_va u_su u_ce u_ho u_wy u_bt u_ps b_pt u_tg u_sn b_ip u_ic b_ah b_be b_me u_wd b_tr b_ld u_st b_wn u_id)), (b_ro, (arI G 5740 v_ro)), (b_se, (arJ G 13 v_se)), (b_re, (arJ G 400 v_re)), (b_pt, (arI G 200 v_pt)), (b_tr, (arZ G 1536 v_tr)), (b_ld, (arZ G 1536 v_ld))] sz) := by
  refine Met.ofW (cc := cX12_findSoonest) (maxL := 9) (ret := (some .int)) (by decide +kernel) rfl ?_
  intro p e s m args below meth c s₁ B hml hv
  obtain ⟨rfl, hsz, hP, hK, hD0, hN, hT⟩ := hv
  have hx := B.exec
  have hb := B.bytes
  have hr := B.returns
  have hts : ∀ w ∈ tblG, w.before _ s = true := fun w h => atoms_spec (ws := (wsG yX12_findSoonest cX12_findSoonest 9 (some .int))) B.pre w (List.mem_cons_of_mem _ h)
  have hown : s.vm.findClass RX12 = some m.cls := findClass_of_methodNamed B.named
  have hlocks := B.notSynchronized
  subst hsz
  have hD := hD0.self (sz := s.heap.size)
  generalize hAe : va_A [(b_o, (oc12 u_th u_sa b_rf b_ro b_im b_ke u_fd b_tp u_td u_fr u_to u_so u_wo u_fa u_bd u_nc b_nl u_co b_op b_ar u_le b_pi b_pa u_pd u_od b_ws b_hw u_la b_se b_re u_bk u_va u_su u_ce u_ho u_wy u_bt u_ps b_pt u_tg u_sn b_ip u_ic b_ah b_be b_me u_wd b_tr b_ld u_st b_wn u_id)), (b_ro, (arI G 5740 v_ro)), (b_se, (arJ G 13 v_se)), (b_re, (arJ G 400 v_re)), (b_pt, (arI G 200 v_pt)), (b_tr, (arZ G 1536 v_tr)), (b_ld, (arZ G 1536 v_ld))] s.heap.size = A at hD hT ⊢
  have hA : ∀ q : Nat, s.heap.size ≤ q → A q := fun q h => by rw [← hAe]; exact Or.inr h
  have hS : va_S A s.heap s.heap [] := va_S.rf
  replace hP : va_P G.1 vwCl [(b_o, (oc12 u_th u_sa b_rf b_ro b_im b_ke u_fd b_tp u_td u_fr u_to u_so u_wo u_fa u_bd u_nc b_nl u_co b_op b_ar u_le b_pi b_pa u_pd u_od b_ws b_hw u_la b_se b_re u_bk u_va u_su u_ce u_ho u_wy u_bt u_ps b_pt u_tg u_sn b_ip u_ic b_ah b_be b_me u_wd b_tr b_ld u_st b_wn u_id)), (b_ro, (arI G 5740 v_ro)), (b_se, (arJ G 13 v_se)), (b_re, (arJ G 400 v_re)), (b_pt, (arI G 200 v_pt)), (b_tr, (arZ G 1536 v_tr)), (b_ld, (arZ G 1536 v_ld))] s.heap := hP
  have hl := lv_entry ([.ref b_o, .int p_1, .int p_2, .int p_3]) (n := 9) (Nat.le_of_ble_eq_true rfl)
  rw [lg_entry_eq]
  generalize (lg_sl ([.ref b_o, .int p_1, .int p_2, .int p_3]) ++ List.replicate (9 - (lg_sl ([.ref b_o, .int p_1, .int p_2, .int p_3])).length) Slot.unset).toArray = ls at hl ⊢
  replace hl : lv_has ls 9 [(0, .ref b_o), (1, .int p_1), (2, .int p_2), (3, .int p_3)] := hl
  refine lv_iconst (v := 0) hx hb dX12_findSoonest_0 (by decide +kernel) ?_
  refine lv_istore (lv' := [(4, .int 0), (0, .ref b_o), (1, .int p_1), (2, .int p_2), (3, .int p_3)]) hx hb dX12_findSoonest_1 hl (by decide +kernel) rfl ?_
  clear hl
  intro ls hl
  refine g5_loop (α := (Int32) × (Nat → Int32) × (Nat → Int32)) (fun (q : (Int32) × (Nat → Int32) × (Nat → Int32)) (ls : Array Slot) (H : Heap) (locs : List Loc) => match q with | (k3_4, k3_tr, k3_ld) => lv_has ls 9 [(4, .int k3_4), (0, .ref b_o), (1, .int p_1), (2, .int p_2), (3, .int p_3)] ∧ va_P G.1 vwCl [(b_o, (oc12 u_th u_sa b_rf b_ro b_im b_ke u_fd b_tp u_td u_fr u_to u_so u_wo u_fa u_bd u_nc b_nl u_co b_op b_ar u_le b_pi b_pa u_pd u_od b_ws b_hw u_la b_se b_re u_bk u_va u_su u_ce u_ho u_wy u_bt u_ps b_pt u_tg u_sn b_ip u_ic b_ah b_be b_me u_wd b_tr b_ld u_st b_wn u_id)), (b_ro, (arI G 5740 v_ro)), (b_se, (arJ G 13 v_se)), (b_re, (arJ G 400 v_re)), (b_pt, (arI G 200 v_pt)), (b_tr, (arZ G 1536 k3_tr)), (b_ld, (arZ G 1536 k3_ld))] H ∧ va_D A [(b_o, (oc12 u_th u_sa b_rf b_ro b_im b_ke u_fd b_tp u_td u_fr u_to u_so u_wo u_fa u_bd u_nc b_nl u_co b_op b_ar u_le b_pi b_pa u_pd u_od b_ws b_hw u_la b_se b_re u_bk u_va u_su u_ce u_ho u_wy u_bt u_ps b_pt u_tg u_sn b_ip u_ic b_ah b_be b_me u_wd b_tr b_ld u_st b_wn u_id)), (b_ro, (arI G 5740 v_ro)), (b_se, (arJ G 13 v_se)), (b_re, (arJ G 400 v_re)), (b_pt, (arI G 200 v_pt)), (b_tr, (arZ G 1536 k3_tr)), (b_ld, (arZ G 1536 k3_ld))] ∧ va_S A s.heap H locs ∧ (0 ≤ k3_4.toInt ∧ k3_4.toInt ≤ 1536)) (fun (q : (Int32) × (Nat → Int32) × (Nat → Int32)) => match q with | (k3_4, k3_tr, k3_ld) => Int.toNat (1536 - k3_4.toInt)) (0, v_tr, v_ld) ⟨lv_sub hl [0, 1, 2, 3, 4] rfl, hP, hD, hS, ⟨by decide, by decide⟩⟩ ?_
  rintro ⟨k3_4, k3_tr, k3_ld⟩ ls H locs ⟨hl, hP, hD, hS, (i_1 : 0 ≤ k3_4.toInt ∧ k3_4.toInt ≤ 1536)⟩ ih_3_2
  replace hl : lv_has ls 9 [(4, .int k3_4), (0, .ref b_o), (1, .int p_1), (2, .int p_2), (3, .int p_3)] := hl
  refine g5_rs [(b_o, (oc12 u_th u_sa b_rf b_ro b_im b_ke u_fd b_tp u_td u_fr u_to u_so u_wo u_fa u_bd u_nc b_nl u_co b_op b_ar u_le b_pi b_pa u_pd u_od b_ws b_hw u_la b_se b_re u_bk u_va u_su u_ce u_ho u_wy u_bt u_ps b_pt u_tg u_sn b_ip u_ic b_ah b_be b_me u_wd b_tr b_ld u_st b_wn u_id)), (b_ro, (arI G 5740 v_ro)), (b_se, (arJ G 13 v_se)), (b_re, (arJ G 400 v_re)), (b_pt, (arI G 200 v_pt)), (b_tr, (arZ G 1536 k3_tr)), (b_ld, (arZ G 1536 k3_ld))] hP hD ?_
  clear hP hD
  intro hP hD
  refine lv_iload hx hb dX12_findSoonest_3 (lv_at hl 0 rfl) ?_
  refine lv_sipush (v := 1536) hx hb dX12_findSoonest_5 (by decide +kernel) ?_
  refine lv_icmp_ge (tgt := 56) hx hb dX12_findSoonest_8 (by decide +kernel) (fun c_3 => ?_) (fun c_3 => ?_)
  ·
    have i_3 : k3_4.toInt ≥ 1536 := g5_ge (a := k3_4.toInt) (b := 1536) rfl (by decide +kernel) c_3
    refine lv_iconst (v := (-1)) hx hb dX12_findSoonest_56 (by decide +kernel) ?_
    refine lv_istore (lv' := [(4, .int (-1)), (0, .ref b_o), (1, .int p_1), (2, .int p_2), (3, .int p_3)]) hx hb dX12_findSoonest_57 hl (by decide +kernel) rfl ?_
    clear hl
    intro ls hl
    refine lv_iload_n hx hb dX12_findSoonest_59 rfl (lv_at hl 4 rfl) ?_
    refine lv_istore (lv' := [(5, .int p_3), (4, .int (-1)), (0, .ref b_o), (1, .int p_1), (2, .int p_2), (3, .int p_3)]) hx hb dX12_findSoonest_60 hl (by decide +kernel) rfl ?_
    clear hl
    intro ls hl
    refine g5_loop (α := (Int32) × (Int32) × (Int32) × (Int32) × (Int64) × (Int64) × (Int32) × (Int32) × (Int32) × (Int32) × (Int32) × (Int32) × (Int32) × (Nat → Int64) × (Nat → Int64) × (Nat → Int32) × (Nat → Int32) × (Nat → Int32)) (fun (q : (Int32) × (Int32) × (Int32) × (Int32) × (Int64) × (Int64) × (Int32) × (Int32) × (Int32) × (Int32) × (Int32) × (Int32) × (Int32) × (Nat → Int64) × (Nat → Int64) × (Nat → Int32) × (Nat → Int32) × (Nat → Int32)) (ls : Array Slot) (H : Heap) (locs : List Loc) => match q with | (k62_5, k62_4, k62_la, k62_bk, k62_va, k62_su, k62_ce, k62_ho, k62_wy, k62_bt, k62_ps, k62_tg, k62_sn, k62_se, k62_re, k62_pt, k62_tr, k62_ld) => lv_has ls 9 [(4, .int k62_4), (5, .int k62_5), (0, .ref b_o), (1, .int p_1), (2, .int p_2), (3, .int p_3)] ∧ va_P G.1 vwCl [(b_o, (oc12 u_th u_sa b_rf b_ro b_im b_ke u_fd b_tp u_td u_fr u_to u_so u_wo u_fa u_bd u_nc b_nl u_co b_op b_ar u_le b_pi b_pa u_pd u_od b_ws b_hw k62_la b_se b_re k62_bk k62_va k62_su k62_ce k62_ho k62_wy k62_bt k62_ps b_pt k62_tg k62_sn b_ip u_ic b_ah b_be b_me u_wd b_tr b_ld u_st b_wn u_id)), (b_ro, (arI G 5740 v_ro)), (b_se, (arJ G 13 k62_se)), (b_re, (arJ G 400 k62_re)), (b_pt, (arI G 200 k62_pt)), (b_tr, (arZ G 1536 k62_tr)), (b_ld, (arZ G 1536 k62_ld))] H ∧ va_D A [(b_o, (oc12 u_th u_sa b_rf b_ro b_im b_ke u_fd b_tp u_td u_fr u_to u_so u_wo u_fa u_bd u_nc b_nl u_co b_op b_ar u_le b_pi b_pa u_pd u_od b_ws b_hw k62_la b_se b_re k62_bk k62_va k62_su k62_ce k62_ho k62_wy k62_bt k62_ps b_pt k62_tg k62_sn b_ip u_ic b_ah b_be b_me u_wd b_tr b_ld u_st b_wn u_id)), (b_ro, (arI G 5740 v_ro)), (b_se, (arJ G 13 k62_se)), (b_re, (arJ G 400 k62_re)), (b_pt, (arI G 200 k62_pt)), (b_tr, (arZ G 1536 k62_tr)), (b_ld, (arZ G 1536 k62_ld))] ∧ va_S A s.heap H locs ∧ (0 ≤ k62_5.toInt ∧ k62_5.toInt ≤ 24) ∧ ((-1) ≤ k62_4.toInt ∧ k62_4.toInt ≤ 23) ∧ (0 ≤ k62_la.toInt ∧ k62_la.toInt ≤ 4840) ∧ (0 ≤ k62_bk.toInt ∧ k62_bk.toInt ≤ 1) ∧ (0 ≤ k62_ce.toInt ∧ k62_ce.toInt ≤ 63) ∧ (0 ≤ k62_ho.toInt ∧ k62_ho.toInt ≤ 23) ∧ (0 ≤ k62_wy.toInt ∧ k62_wy.toInt ≤ 3) ∧ (0 ≤ k62_bt.toInt ∧ k62_bt.toInt ≤ 1000000) ∧ (0 ≤ k62_ps.toInt ∧ k62_ps.toInt ≤ 200) ∧ (PTI k62_pt)) (fun (q : (Int32) × (Int32) × (Int32) × (Int32) × (Int64) × (Int64) × (Int32) × (Int32) × (Int32) × (Int32) × (Int32) × (Int32) × (Int32) × (Nat → Int64) × (Nat → Int64) × (Nat → Int32) × (Nat → Int32) × (Nat → Int32)) => match q with | (k62_5, k62_4, k62_la, k62_bk, k62_va, k62_su, k62_ce, k62_ho, k62_wy, k62_bt, k62_ps, k62_tg, k62_sn, k62_se, k62_re, k62_pt, k62_tr, k62_ld) => Int.toNat (24 - k62_5.toInt)) (p_3, (-1), u_la, u_bk, u_va, u_su, u_ce, u_ho, u_wy, u_bt, u_ps, u_tg, u_sn, v_se, v_re, v_pt, k3_tr, k3_ld) ⟨lv_sub hl [1, 0, 2, 3, 4, 5] rfl, hP, hD, hS, ⟨by omega, by omega⟩, ⟨by decide, by decide⟩, h_u_la, h_u_bk, h_u_ce, h_u_ho, h_u_wy, h_u_bt, h_u_ps, r_pt⟩ ?_
    rintro ⟨k62_5, k62_4, k62_la, k62_bk, k62_va, k62_su, k62_ce, k62_ho, k62_wy, k62_bt, k62_ps, k62_tg, k62_sn, k62_se, k62_re, k62_pt, k62_tr, k62_ld⟩ ls H locs ⟨hl, hP, hD, hS, (i_4 : 0 ≤ k62_5.toInt ∧ k62_5.toInt ≤ 24), (i_5 : (-1) ≤ k62_4.toInt ∧ k62_4.toInt ≤ 23), (i_6 : 0 ≤ k62_la.toInt ∧ k62_la.toInt ≤ 4840), (i_7 : 0 ≤ k62_bk.toInt ∧ k62_bk.toInt ≤ 1), (i_8 : 0 ≤ k62_ce.toInt ∧ k62_ce.toInt ≤ 63), (i_9 : 0 ≤ k62_ho.toInt ∧ k62_ho.toInt ≤ 23), (i_10 : 0 ≤ k62_wy.toInt ∧ k62_wy.toInt ≤ 3), (i_11 : 0 ≤ k62_bt.toInt ∧ k62_bt.toInt ≤ 1000000), (i_12 : 0 ≤ k62_ps.toInt ∧ k62_ps.toInt ≤ 200), (i_13 : PTI k62_pt)⟩ ih_62_14
    replace hl : lv_has ls 9 [(4, .int k62_4), (5, .int k62_5), (0, .ref b_o), (1, .int p_1), (2, .int p_2), (3, .int p_3)] := hl
    refine g5_rs [(b_o, (oc12 u_th u_sa b_rf b_ro b_im b_ke u_fd b_tp u_td u_fr u_to u_so u_wo u_fa u_bd u_nc b_nl u_co b_op b_ar u_le b_pi b_pa u_pd u_od b_ws b_hw k62_la b_se b_re k62_bk k62_va k62_su k62_ce k62_ho k62_wy k62_bt k62_ps b_pt k62_tg k62_sn b_ip u_ic b_ah b_be b_me u_wd b_tr b_ld u_st b_wn u_id)), (b_ro, (arI G 5740 v_ro)), (b_se, (arJ G 13 k62_se)), (b_re, (arJ G 400 k62_re)), (b_pt, (arI G 200 k62_pt)), (b_tr, (arZ G 1536 k62_tr)), (b_ld, (arZ G 1536 k62_ld))] hP hD ?_
    clear hP hD
    intro hP hD
    refine lv_iload hx hb dX12_findSoonest_62 (lv_at hl 1 rfl) ?_
    refine lv_bipush (v := 24) hx hb dX12_findSoonest_64 (by decide +kernel) ?_
    refine lv_icmp_ge (tgt := 228) hx hb dX12_findSoonest_66 (by decide +kernel) (fun c_15 => ?_) (fun c_15 => ?_)
    ·
      have i_15 : k62_5.toInt ≥ 24 := g5_ge (a := k62_5.toInt) (b := 24) rfl (by decide +kernel) c_15
      refine lv_iload hx hb dX12_findSoonest_228 (lv_at hl 0 rfl) ?_
      refine lv_iconst (v := 1) hx hb dX12_findSoonest_230 (by decide +kernel) ?_
      refine lv_isub hx hb dX12_findSoonest_231 ?_
      have t_16 : (k62_4 - 1).toInt = k62_4.toInt - 1 := g5_isub (a := k62_4.toInt) (b := 1) (by rfl) (by decide +kernel) (by omega) (by omega)
      refine lv_istore (lv' := [(5, .int (k62_4 - 1)), (4, .int k62_4), (0, .ref b_o), (1, .int p_1), (2, .int p_2), (3, .int p_3)]) hx hb dX12_findSoonest_232 hl (by decide +kernel) rfl ?_
      clear hl
      intro ls hl
      refine g5_loop (α := (Int32) × (Nat → Int32)) (fun (q : (Int32) × (Nat → Int32)) (ls : Array Slot) (H : Heap) (locs : List Loc) => match q with | (k234_5, k234_ld) => lv_has ls 9 [(5, .int k234_5), (4, .int k62_4), (0, .ref b_o), (1, .int p_1), (2, .int p_2), (3, .int p_3)] ∧ va_P G.1 vwCl [(b_o, (oc12 u_th u_sa b_rf b_ro b_im b_ke u_fd b_tp u_td u_fr u_to u_so u_wo u_fa u_bd u_nc b_nl u_co b_op b_ar u_le b_pi b_pa u_pd u_od b_ws b_hw k62_la b_se b_re k62_bk k62_va k62_su k62_ce k62_ho k62_wy k62_bt k62_ps b_pt k62_tg k62_sn b_ip u_ic b_ah b_be b_me u_wd b_tr b_ld u_st b_wn u_id)), (b_ro, (arI G 5740 v_ro)), (b_se, (arJ G 13 k62_se)), (b_re, (arJ G 400 k62_re)), (b_pt, (arI G 200 k62_pt)), (b_tr, (arZ G 1536 k62_tr)), (b_ld, (arZ G 1536 k234_ld))] H ∧ va_D A [(b_o, (oc12 u_th u_sa b_rf b_ro b_im b_ke u_fd b_tp u_td u_fr u_to u_so u_wo u_fa u_bd u_nc b_nl u_co b_op b_ar u_le b_pi b_pa u_pd u_od b_ws b_hw k62_la b_se b_re k62_bk k62_va k62_su k62_ce k62_ho k62_wy k62_bt k62_ps b_pt k62_tg k62_sn b_ip u_ic b_ah b_be b_me u_wd b_tr b_ld u_st b_wn u_id)), (b_ro, (arI G 5740 v_ro)), (b_se, (arJ G 13 k62_se)), (b_re, (arJ G 400 k62_re)), (b_pt, (arI G 200 k62_pt)), (b_tr, (arZ G 1536 k62_tr)), (b_ld, (arZ G 1536 k234_ld))] ∧ va_S A s.heap H locs ∧ ((-2) ≤ k234_5.toInt ∧ k234_5.toInt ≤ 22)) (fun (q : (Int32) × (Nat → Int32)) => match q with | (k234_5, k234_ld) => Int.toNat (k234_5.toInt + 1)) ((k62_4 - 1), k62_ld) ⟨lv_sub hl [0, 1, 2, 3, 4, 5] rfl, hP, hD, hS, ⟨by omega, by omega⟩⟩ ?_
      rintro ⟨k234_5, k234_ld⟩ ls H locs ⟨hl, hP, hD, hS, (i_17 : (-2) ≤ k234_5.toInt ∧ k234_5.toInt ≤ 22)⟩ ih_234_18
      replace hl : lv_has ls 9 [(5, .int k234_5), (4, .int k62_4), (0, .ref b_o), (1, .int p_1), (2, .int p_2), (3, .int p_3)] := hl
      refine g5_rs [(b_o, (oc12 u_th u_sa b_rf b_ro b_im b_ke u_fd b_tp u_td u_fr u_to u_so u_wo u_fa u_bd u_nc b_nl u_co b_op b_ar u_le b_pi b_pa u_pd u_od b_ws b_hw k62_la b_se b_re k62_bk k62_va k62_su k62_ce k62_ho k62_wy k62_bt k62_ps b_pt k62_tg k62_sn b_ip u_ic b_ah b_be b_me u_wd b_tr b_ld u_st b_wn u_id)), (b_ro, (arI G 5740 v_ro)), (b_se, (arJ G 13 k62_se)), (b_re, (arJ G 400 k62_re)), (b_pt, (arI G 200 k62_pt)), (b_tr, (arZ G 1536 k62_tr)), (b_ld, (arZ G 1536 k234_ld))] hP hD ?_
      clear hP hD
      intro hP hD
      refine lv_iload hx hb dX12_findSoonest_234 (lv_at hl 0 rfl) ?_
      refine lv_iload_n hx hb dX12_findSoonest_236 rfl (lv_at hl 5 rfl) ?_
      refine lv_icmp_lt (tgt := 380) hx hb dX12_findSoonest_237 (by decide +kernel) (fun c_19 => ?_) (fun c_19 => ?_)
      ·
        have i_19 : k234_5.toInt < p_3.toInt := g5_lt (a := k234_5.toInt) (b := p_3.toInt) rfl rfl c_19
        refine lv_iload hx hb dX12_findSoonest_380 (lv_at hl 1 rfl) ?_
        exact W.iret (v := k62_4) hx hb hr (fun t ht hW => ⟨⟨k62_4, [(b_o, (oc12 u_th u_sa b_rf b_ro b_im b_ke u_fd b_tp u_td u_fr u_to u_so u_wo u_fa u_bd u_nc b_nl u_co b_op b_ar u_le b_pi b_pa u_pd u_od b_ws b_hw k62_la b_se b_re k62_bk k62_va k62_su k62_ce k62_ho k62_wy k62_bt k62_ps b_pt k62_tg k62_sn b_ip u_ic b_ah b_be b_me u_wd b_tr b_ld u_st b_wn u_id)), (b_ro, (arI G 5740 v_ro)), (b_se, (arJ G 13 k62_se)), (b_re, (arJ G 400 k62_re)), (b_pt, (arI G 200 k62_pt)), (b_tr, (arZ G 1536 k62_tr)), (b_ld, (arZ G 1536 k234_ld))], rfl, ⟨k62_4, k62_la, k62_bk, k62_va, k62_su, k62_ce, k62_ho, k62_wy, k62_bt, k62_ps, k62_tg, k62_sn, k62_se, k62_re, k62_pt, k62_tr, k234_ld, i_5, i_6, i_7, i_8, i_9, i_10, i_11, i_12, i_13, rfl, rfl⟩, by rw [ht]; exact hP.sub [0, 1, 2, 3, 4, 5, 6] rfl, hD.sub [0, 1, 2, 3, 4, 5, 6] (by decide +kernel) rfl⟩, hS.F ht⟩) hS.2.2 dX12_findSoonest_382
      ·
        have i_19 : k234_5.toInt ≥ p_3.toInt := g5_ltN (a := k234_5.toInt) (b := p_3.toInt) rfl rfl c_19
        refine lv_iconst (v := 0) hx hb dX12_findSoonest_240 (by decide +kernel) ?_
        refine lv_istore (lv' := [(6, .int 0), (5, .int k234_5), (4, .int k62_4), (0, .ref b_o), (1, .int p_1), (2, .int p_2), (3, .int p_3)]) hx hb dX12_findSoonest_241 hl (by decide +kernel) rfl ?_
        clear hl
        intro ls hl
        refine g5_loop (α := (Int32) × (Nat → Int32)) (fun (q : (Int32) × (Nat → Int32)) (ls : Array Slot) (H : Heap) (locs : List Loc) => match q with | (k243_6, k243_ld) => lv_has ls 9 [(6, .int k243_6), (5, .int k234_5), (4, .int k62_4), (0, .ref b_o), (1, .int p_1), (2, .int p_2), (3, .int p_3)] ∧ va_P G.1 vwCl [(b_o, (oc12 u_th u_sa b_rf b_ro b_im b_ke u_fd b_tp u_td u_fr u_to u_so u_wo u_fa u_bd u_nc b_nl u_co b_op b_ar u_le b_pi b_pa u_pd u_od b_ws b_hw k62_la b_se b_re k62_bk k62_va k62_su k62_ce k62_ho k62_wy k62_bt k62_ps b_pt k62_tg k62_sn b_ip u_ic b_ah b_be b_me u_wd b_tr b_ld u_st b_wn u_id)), (b_ro, (arI G 5740 v_ro)), (b_se, (arJ G 13 k62_se)), (b_re, (arJ G 400 k62_re)), (b_pt, (arI G 200 k62_pt)), (b_tr, (arZ G 1536 k62_tr)), (b_ld, (arZ G 1536 k243_ld))] H ∧ va_D A [(b_o, (oc12 u_th u_sa b_rf b_ro b_im b_ke u_fd b_tp u_td u_fr u_to u_so u_wo u_fa u_bd u_nc b_nl u_co b_op b_ar u_le b_pi b_pa u_pd u_od b_ws b_hw k62_la b_se b_re k62_bk k62_va k62_su k62_ce k62_ho k62_wy k62_bt k62_ps b_pt k62_tg k62_sn b_ip u_ic b_ah b_be b_me u_wd b_tr b_ld u_st b_wn u_id)), (b_ro, (arI G 5740 v_ro)), (b_se, (arJ G 13 k62_se)), (b_re, (arJ G 400 k62_re)), (b_pt, (arI G 200 k62_pt)), (b_tr, (arZ G 1536 k62_tr)), (b_ld, (arZ G 1536 k243_ld))] ∧ va_S A s.heap H locs ∧ (0 ≤ k243_6.toInt ∧ k243_6.toInt ≤ 64)) (fun (q : (Int32) × (Nat → Int32)) => match q with | (k243_6, k243_ld) => Int.toNat (64 - k243_6.toInt)) (0, k234_ld) ⟨lv_sub hl [0, 1, 2, 3, 4, 5, 6] rfl, hP, hD, hS, ⟨by decide, by decide⟩⟩ ?_
        rintro ⟨k243_6, k243_ld⟩ ls H locs ⟨hl, hP, hD, hS, (i_20 : 0 ≤ k243_6.toInt ∧ k243_6.toInt ≤ 64)⟩ ih_243_21
        replace hl : lv_has ls 9 [(6, .int k243_6), (5, .int k234_5), (4, .int k62_4), (0, .ref b_o), (1, .int p_1), (2, .int p_2), (3, .int p_3)] := hl
        refine g5_rs [(b_o, (oc12 u_th u_sa b_rf b_ro b_im b_ke u_fd b_tp u_td u_fr u_to u_so u_wo u_fa u_bd u_nc b_nl u_co b_op b_ar u_le b_pi b_pa u_pd u_od b_ws b_hw k62_la b_se b_re k62_bk k62_va k62_su k62_ce k62_ho k62_wy k62_bt k62_ps b_pt k62_tg k62_sn b_ip u_ic b_ah b_be b_me u_wd b_tr b_ld u_st b_wn u_id)), (b_ro, (arI G 5740 v_ro)), (b_se, (arJ G 13 k62_se)), (b_re, (arJ G 400 k62_re)), (b_pt, (arI G 200 k62_pt)), (b_tr, (arZ G 1536 k62_tr)), (b_ld, (arZ G 1536 k243_ld))] hP hD ?_
        clear hP hD
        intro hP hD
        refine lv_iload hx hb dX12_findSoonest_243 (lv_at hl 0 rfl) ?_
        refine lv_bipush (v := 64) hx hb dX12_findSoonest_245 (by decide +kernel) ?_
        refine lv_icmp_ge (tgt := 374) hx hb dX12_findSoonest_247 (by decide +kernel) (fun c_22 => ?_) (fun c_22 => ?_)
        ·
          have i_22 : k243_6.toInt ≥ 64 := g5_ge (a := k243_6.toInt) (b := 64) rfl (by decide +kernel) c_22
          obtain ⟨y23, hy_23, t_23⟩ := g_incN k234_5 (-1) (by decide +kernel) (by omega) (by omega)
          have t_23 : y23.toInt = k234_5.toInt + (-1) := t_23
          refine lv_iinc (v := y23) (lv' := [(5, .int y23), (6, .int k243_6), (4, .int k62_4), (0, .ref b_o), (1, .int p_1), (2, .int p_2), (3, .int p_3)]) hx hb dX12_findSoonest_374 hl (k := 1) rfl hy_23 (by decide +kernel) rfl ?_
          clear hl
          intro ls hl
          refine lv_goto (tgt := 234) hx hb dX12_findSoonest_377 (by decide +kernel) ?_
          exact ih_234_18 (y23, k243_ld) ls H locs (show Int.toNat (y23.toInt + 1) < Int.toNat (k234_5.toInt + 1) from g_dn (show y23.toInt < k234_5.toInt by omega) (show 0 ≤ k234_5.toInt by omega)) ⟨lv_sub hl [0, 2, 3, 4, 5, 6] rfl, hP, hD, hS, ⟨by omega, by omega⟩⟩
        ·
          have i_22 : k243_6.toInt < 64 := g5_geN (a := k243_6.toInt) (b := 64) rfl (by decide +kernel) c_22
          refine lv_iconst (v := 0) hx hb dX12_findSoonest_250 (by decide +kernel) ?_
          refine lv_istore (lv' := [(7, .int 0), (6, .int k243_6), (5, .int k234_5), (4, .int k62_4), (0, .ref b_o), (1, .int p_1), (2, .int p_2), (3, .int p_3)]) hx hb dX12_findSoonest_251 hl (by decide +kernel) rfl ?_
          clear hl
          intro ls hl
          refine g5_loop (α := (Int32) × (Nat → Int32)) (fun (q : (Int32) × (Nat → Int32)) (ls : Array Slot) (H : Heap) (locs : List Loc) => match q with | (k253_7, k253_ld) => lv_has ls 9 [(7, .int k253_7), (6, .int k243_6), (5, .int k234_5), (4, .int k62_4), (0, .ref b_o), (1, .int p_1), (2, .int p_2), (3, .int p_3)] ∧ va_P G.1 vwCl [(b_o, (oc12 u_th u_sa b_rf b_ro b_im b_ke u_fd b_tp u_td u_fr u_to u_so u_wo u_fa u_bd u_nc b_nl u_co b_op b_ar u_le b_pi b_pa u_pd u_od b_ws b_hw k62_la b_se b_re k62_bk k62_va k62_su k62_ce k62_ho k62_wy k62_bt k62_ps b_pt k62_tg k62_sn b_ip u_ic b_ah b_be b_me u_wd b_tr b_ld u_st b_wn u_id)), (b_ro, (arI G 5740 v_ro)), (b_se, (arJ G 13 k62_se)), (b_re, (arJ G 400 k62_re)), (b_pt, (arI G 200 k62_pt)), (b_tr, (arZ G 1536 k62_tr)), (b_ld, (arZ G 1536 k253_ld))] H ∧ va_D A [(b_o, (oc12 u_th u_sa b_rf b_ro b_im b_ke u_fd b_tp u_td u_fr u_to u_so u_wo u_fa u_bd u_nc b_nl u_co b_op b_ar u_le b_pi b_pa u_pd u_od b_ws b_hw k62_la b_se b_re k62_bk k62_va k62_su k62_ce k62_ho k62_wy k62_bt k62_ps b_pt k62_tg k62_sn b_ip u_ic b_ah b_be b_me u_wd b_tr b_ld u_st b_wn u_id)), (b_ro, (arI G 5740 v_ro)), (b_se, (arJ G 13 k62_se)), (b_re, (arJ G 400 k62_re)), (b_pt, (arI G 200 k62_pt)), (b_tr, (arZ G 1536 k62_tr)), (b_ld, (arZ G 1536 k253_ld))] ∧ va_S A s.heap H locs ∧ (0 ≤ k253_7.toInt ∧ k253_7.toInt ≤ 5)) (fun (q : (Int32) × (Nat → Int32)) => match q with | (k253_7, k253_ld) => Int.toNat (5 - k253_7.toInt)) (0, k243_ld) ⟨lv_sub hl [0, 1, 2, 3, 4, 5, 6, 7] rfl, hP, hD, hS, ⟨by decide, by decide⟩⟩ ?_
          rintro ⟨k253_7, k253_ld⟩ ls H locs ⟨hl, hP, hD, hS, (i_24 : 0 ≤ k253_7.toInt ∧ k253_7.toInt ≤ 5)⟩ ih_253_25
          replace hl : lv_has ls 9 [(7, .int k253_7), (6, .int k243_6), (5, .int k234_5), (4, .int k62_4), (0, .ref b_o), (1, .int p_1), (2, .int p_2), (3, .int p_3)] := hl
          refine g5_rs [(b_o, (oc12 u_th u_sa b_rf b_ro b_im b_ke u_fd b_tp u_td u_fr u_to u_so u_wo u_fa u_bd u_nc b_nl u_co b_op b_ar u_le b_pi b_pa u_pd u_od b_ws b_hw k62_la b_se b_re k62_bk k62_va k62_su k62_ce k62_ho k62_wy k62_bt k62_ps b_pt k62_tg k62_sn b_ip u_ic b_ah b_be b_me u_wd b_tr b_ld u_st b_wn u_id)), (b_ro, (arI G 5740 v_ro)), (b_se, (arJ G 13 k62_se)), (b_re, (arJ G 400 k62_re)), (b_pt, (arI G 200 k62_pt)), (b_tr, (arZ G 1536 k62_tr)), (b_ld, (arZ G 1536 k253_ld))] hP hD ?_
          clear hP hD
          intro hP hD
          refine lv_iload hx hb dX12_findSoonest_253 (lv_at hl 0 rfl) ?_
          refine lv_iconst (v := 5) hx hb dX12_findSoonest_255 (by decide +kernel) ?_
          refine lv_icmp_ge (tgt := 368) hx hb dX12_findSoonest_256 (by decide +kernel) (fun c_26 => ?_) (fun c_26 => ?_)
          ·
            have i_26 : k253_7.toInt ≥ 5 := g5_ge (a := k253_7.toInt) (b := 5) rfl (by decide +kernel) c_26
            refine lv_iinc (v := (k243_6 + 1)) (lv' := [(6, .int (k243_6 + 1)), (7, .int k253_7), (5, .int k234_5), (4, .int k62_4), (0, .ref b_o), (1, .int p_1), (2, .int p_2), (3, .int p_3)]) hx hb dX12_findSoonest_368 hl (k := 1) rfl rfl (by decide +kernel) rfl ?_
            clear hl
            intro ls hl
            have t_27 : (k243_6 + 1).toInt = k243_6.toInt + 1 := g5_iadd (a := k243_6.toInt) (b := 1) rfl (by decide +kernel) (by omega) (by omega)
            refine lv_goto (tgt := 243) hx hb dX12_findSoonest_371 (by decide +kernel) ?_
            exact ih_243_21 ((k243_6 + 1), k253_ld) ls H locs (show Int.toNat (64 - (k243_6 + 1).toInt) < Int.toNat (64 - k243_6.toInt) from g_up (show k243_6.toInt < (k243_6 + 1).toInt by omega) (show k243_6.toInt < 64 by omega)) ⟨lv_sub hl [0, 2, 3, 4, 5, 6, 7] rfl, hP, hD, hS, ⟨by omega, by omega⟩⟩
          ·
            have i_26 : k253_7.toInt < 5 := g5_geN (a := k253_7.toInt) (b := 5) rfl (by decide +kernel) c_26
            refine lv_iload hx hb dX12_findSoonest_259 (lv_at hl 0 rfl) ?_
            refine lv_iconst (v := 4) hx hb dX12_findSoonest_261 (by decide +kernel) ?_
            refine lv_icmp_ne (tgt := 270) hx hb dX12_findSoonest_262 (by decide +kernel) (fun c_28 => ?_) (fun c_28 => ?_)
            ·
              have n_28 : gNe (k253_7.toInt) (4) := g5_ne (a := k253_7.toInt) (b := 4) rfl (by decide +kernel) c_28
              have i_28 : k253_7.toInt ≤ 3 := by have z := g5_ne (a := k253_7.toInt) (b := 4) (by rfl) (by decide +kernel) c_28; omega
              refine lv_iload hx hb dX12_findSoonest_270 (lv_at hl 1 rfl) ?_
              refine lv_iload hx hb dX12_findSoonest_272 (lv_at hl 0 rfl) ?_
              obtain ⟨hPc, hDc, hFc⟩ := g5_sub3 (wc := []) hP hD hS hA [] (by decide +kernel) rfl
              refine va_calli (va_runS (As := [.int k243_6, .int k253_7]) (rest := []) ⟨hx, hb, hml, hown, hts⟩ (n_beside l G H.size k243_6 k253_7 ⟨by omega, by omega⟩) (va_cwS 2 hts gS_X12_374 rfl rfl rfl hs_X12_beside ⟨Nat.le_of_ble_eq_true rfl, Nat.le_of_ble_eq_true rfl⟩) (g5_preS hPc hK hDc hN hT hS hFc) rfl rfl hl.1 rfl (lv_room (Nat.le_of_ble_eq_true rfl)) dX12_findSoonest_274 ⟨Nat.le_of_ble_eq_true rfl, Nat.le_of_ble_eq_true rfl⟩) hS (fun q _ h => hFc q h) hFc (fun r u t H locs ht hvm hw hB hz1 hk1 hS => ?_)
              obtain ⟨hP1, hD1⟩ := hB
              have hP1 := g5_ht ht hP1
              obtain ⟨z30, (i_29 : -1 ≤ z30.toInt ∧ z30.toInt ≤ 63), y31, rfl⟩ := hw
              have hJ9 := g5_same hP hk1
              clear hP hPc hDc hFc ht hvm hz1 hk1 hP1 hD1
              have hP := hJ9
              clear hJ9
              refine g5_ti (v := z30) y31 ?_
              refine lv_istore (lv' := [(8, .int z30), (7, .int k253_7), (6, .int k243_6), (5, .int k234_5), (4, .int k62_4), (0, .ref b_o), (1, .int p_1), (2, .int p_2), (3, .int p_3)]) hx hb dX12_findSoonest_277 hl (by decide +kernel) rfl ?_
              clear hl
              intro ls hl
              refine lv_aload_n hx hb dX12_findSoonest_279 rfl (lv_at hl 5 rfl) ?_
              refine va_get (D := G.1) (ci := 12) (v := .ref b_ld) (C := RX12) (T := TX12) (N := 52) hx hb hts inG_X12 hown hK hP 0 rfl rfl 48 (by decide +kernel) (hts _ fl_X12_101) (fun _ h9 => h9) rfl dX12_findSoonest_280 ?_
              refine lv_bipush (v := 64) hx hb dX12_findSoonest_283 (by decide +kernel) ?_
              refine lv_iload hx hb dX12_findSoonest_285 (lv_at hl 3 rfl) ?_
              refine lv_imul hx hb dX12_findSoonest_287 ?_
              have t_32 : (64 * k234_5).toInt = 64 * k234_5.toInt := g5_imul (a := 64) (b := k234_5.toInt) (by decide +kernel) (by rfl) (by omega) (by omega)
              refine lv_iload hx hb dX12_findSoonest_288 (lv_at hl 2 rfl) ?_
              refine lv_iadd hx hb dX12_findSoonest_290 ?_
              have t_33 : ((64 * k234_5) + k243_6).toInt = (64 * k234_5).toInt + k243_6.toInt := g5_iadd (a := (64 * k234_5).toInt) (b := k243_6.toInt) (by rfl) (by rfl) (by omega) (by omega)
              refine lv_aload_n hx hb dX12_findSoonest_291 rfl (lv_at hl 5 rfl) ?_
              refine va_get (D := G.1) (ci := 12) (v := .ref b_ld) (C := RX12) (T := TX12) (N := 52) hx hb hts inG_X12 hown hK hP 0 rfl rfl 48 (by decide +kernel) (hts _ fl_X12_101) (fun _ h9 => h9) rfl dX12_findSoonest_292 ?_
              refine lv_bipush (v := 64) hx hb dX12_findSoonest_295 (by decide +kernel) ?_
              refine lv_iload hx hb dX12_findSoonest_297 (lv_at hl 3 rfl) ?_
              refine lv_imul hx hb dX12_findSoonest_299 ?_
              have t_34 : (64 * k234_5).toInt = 64 * k234_5.toInt := g5_imul (a := 64) (b := k234_5.toInt) (by decide +kernel) (by rfl) (by omega) (by omega)
              refine lv_iload hx hb dX12_findSoonest_300 (lv_at hl 2 rfl) ?_
              refine lv_iadd hx hb dX12_findSoonest_302 ?_
              have t_35 : ((64 * k234_5) + k243_6).toInt = (64 * k234_5).toInt + k243_6.toInt := g5_iadd (a := (64 * k234_5).toInt) (b := k243_6.toInt) (by rfl) (by rfl) (by omega) (by omega)
              refine va_zald hx hb hK hP 6 2 rfl rfl (i := ((64 * k234_5) + k243_6)) (vp_in_iff.mpr ⟨by omega, by omega⟩) dX12_findSoonest_303 ?_
              refine lv_if_ne (tgt := 356) hx hb dX12_findSoonest_304 (by decide +kernel) (fun c_36 => ?_) (fun c_36 => ?_)
              ·
                have n_36 : gNe ((k253_ld ((64 * k234_5) + k243_6).toNatClampNeg).toInt) (0) := g5_ne (a := (k253_ld ((64 * k234_5) + k243_6).toNatClampNeg).toInt) (b := 0) rfl (by decide +kernel) c_36
                refine lv_iconst (v := 1) hx hb dX12_findSoonest_356 (by decide +kernel) ?_
                refine lv_goto (tgt := 361) hx hb dX12_findSoonest_357 (by decide +kernel) ?_
                refine va_zast hx hb hK hP hD hS 6 2 rfl rfl (i := ((64 * k234_5) + k243_6)) (x := 1) (vp_in_iff.mpr ⟨by omega, by omega⟩) dX12_findSoonest_361 ?_
                clear hP hD hS
                intro H locs hP hD hS
                refine g5_rs [(b_o, (oc12 u_th u_sa b_rf b_ro b_im b_ke u_fd b_tp u_td u_fr u_to u_so u_wo u_fa u_bd u_nc b_nl u_co b_op b_ar u_le b_pi b_pa u_pd u_od b_ws b_hw k62_la b_se b_re k62_bk k62_va k62_su k62_ce k62_ho k62_wy k62_bt k62_ps b_pt k62_tg k62_sn b_ip u_ic b_ah b_be b_me u_wd b_tr b_ld u_st b_wn u_id)), (b_ro, (arI G 5740 v_ro)), (b_se, (arJ G 13 k62_se)), (b_re, (arJ G 400 k62_re)), (b_pt, (arI G 200 k62_pt)), (b_tr, (arZ G 1536 k62_tr)), (b_ld, (arZ G 1536 (upd k253_ld ((64 * k234_5) + k243_6).toNatClampNeg 1)))] hP hD ?_
                clear hP hD
                intro hP hD
                refine lv_iinc (v := (k253_7 + 1)) (lv' := [(7, .int (k253_7 + 1)), (8, .int z30), (6, .int k243_6), (5, .int k234_5), (4, .int k62_4), (0, .ref b_o), (1, .int p_1), (2, .int p_2), (3, .int p_3)]) hx hb dX12_findSoonest_362 hl (k := 1) rfl rfl (by decide +kernel) rfl ?_
                clear hl
                intro ls hl
                have t_37 : (k253_7 + 1).toInt = k253_7.toInt + 1 := g5_iadd (a := k253_7.toInt) (b := 1) rfl (by decide +kernel) (by omega) (by omega)
                refine lv_goto (tgt := 253) hx hb dX12_findSoonest_365 (by decide +kernel) ?_
                exact ih_253_25 ((k253_7 + 1), (upd k253_ld ((64 * k234_5) + k243_6).toNatClampNeg 1)) ls H locs (show Int.toNat (5 - (k253_7 + 1).toInt) < Int.toNat (5 - k253_7.toInt) from g_up (show k253_7.toInt < (k253_7 + 1).toInt by omega) (show k253_7.toInt < 5 by omega)) ⟨lv_sub hl [0, 2, 3, 4, 5, 6, 7, 8] rfl, hP, hD, hS, ⟨by omega, by omega⟩⟩
              ·
                have i_36 : (k253_ld ((64 * k234_5) + k243_6).toNatClampNeg).toInt = 0 := g5_neN (a := (k253_ld ((64 * k234_5) + k243_6).toNatClampNeg).toInt) (b := 0) rfl (by decide +kernel) c_36
                refine lv_aload_n hx hb dX12_findSoonest_307 rfl (lv_at hl 5 rfl) ?_
                refine va_get (D := G.1) (ci := 12) (v := .ref b_tr) (C := RX12) (T := TX12) (N := 52) hx hb hts inG_X12 hown hK hP 0 rfl rfl 47 (by decide +kernel) (hts _ fl_X12_98) (fun _ h9 => h9) rfl dX12_findSoonest_308 ?_
                refine lv_bipush (v := 64) hx hb dX12_findSoonest_311 (by decide +kernel) ?_
                refine lv_iload hx hb dX12_findSoonest_313 (lv_at hl 3 rfl) ?_
                refine lv_imul hx hb dX12_findSoonest_315 ?_
                have t_38 : (64 * k234_5).toInt = 64 * k234_5.toInt := g5_imul (a := 64) (b := k234_5.toInt) (by decide +kernel) (by rfl) (by omega) (by omega)
                refine lv_iload hx hb dX12_findSoonest_316 (lv_at hl 2 rfl) ?_
                refine lv_iadd hx hb dX12_findSoonest_318 ?_
                have t_39 : ((64 * k234_5) + k243_6).toInt = (64 * k234_5).toInt + k243_6.toInt := g5_iadd (a := (64 * k234_5).toInt) (b := k243_6.toInt) (by rfl) (by rfl) (by omega) (by omega)
                refine va_zald hx hb hK hP 5 2 rfl rfl (i := ((64 * k234_5) + k243_6)) (vp_in_iff.mpr ⟨by omega, by omega⟩) dX12_findSoonest_319 ?_
                refine lv_if_eq (tgt := 360) hx hb dX12_findSoonest_320 (by decide +kernel) (fun c_40 => ?_) (fun c_40 => ?_)
                ·
                  have i_40 : (k62_tr ((64 * k234_5) + k243_6).toNatClampNeg).toInt = 0 := g5_eq (a := (k62_tr ((64 * k234_5) + k243_6).toNatClampNeg).toInt) (b := 0) rfl (by decide +kernel) c_40
                  refine lv_iconst (v := 0) hx hb dX12_findSoonest_360 (by decide +kernel) ?_
                  refine va_zast hx hb hK hP hD hS 6 2 rfl rfl (i := ((64 * k234_5) + k243_6)) (x := 0) (vp_in_iff.mpr ⟨by omega, by omega⟩) dX12_findSoonest_361 ?_
                  clear hP hD hS
                  intro H locs hP hD hS
                  refine g5_rs [(b_o, (oc12 u_th u_sa b_rf b_ro b_im b_ke u_fd b_tp u_td u_fr u_to u_so u_wo u_fa u_bd u_nc b_nl u_co b_op b_ar u_le b_pi b_pa u_pd u_od b_ws b_hw k62_la b_se b_re k62_bk k62_va k62_su k62_ce k62_ho k62_wy k62_bt k62_ps b_pt k62_tg k62_sn b_ip u_ic b_ah b_be b_me u_wd b_tr b_ld u_st b_wn u_id)), (b_ro, (arI G 5740 v_ro)), (b_se, (arJ G 13 k62_se)), (b_re, (arJ G 400 k62_re)), (b_pt, (arI G 200 k62_pt)), (b_tr, (arZ G 1536 k62_tr)), (b_ld, (arZ G 1536 (upd k253_ld ((64 * k234_5) + k243_6).toNatClampNeg 0)))] hP hD ?_
                  clear hP hD
                  intro hP hD
                  refine lv_iinc (v := (k253_7 + 1)) (lv' := [(7, .int (k253_7 + 1)), (8, .int z30), (6, .int k243_6), (5, .int k234_5), (4, .int k62_4), (0, .ref b_o), (1, .int p_1), (2, .int p_2), (3, .int p_3)]) hx hb dX12_findSoonest_362 hl (k := 1) rfl rfl (by decide +kernel) rfl ?_
                  clear hl
                  intro ls hl
                  have t_41 : (k253_7 + 1).toInt = k253_7.toInt + 1 := g5_iadd (a := k253_7.toInt) (b := 1) rfl (by decide +kernel) (by omega) (by omega)
                  refine lv_goto (tgt := 253) hx hb dX12_findSoonest_365 (by decide +kernel) ?_
                  exact ih_253_25 ((k253_7 + 1), (upd k253_ld ((64 * k234_5) + k243_6).toNatClampNeg 0)) ls H locs (show Int.toNat (5 - (k253_7 + 1).toInt) < Int.toNat (5 - k253_7.toInt) from g_up (show k253_7.toInt < (k253_7 + 1).toInt by omega) (show k253_7.toInt < 5 by omega)) ⟨lv_sub hl [0, 2, 3, 4, 5, 6, 7, 8] rfl, hP, hD, hS, ⟨by omega, by omega⟩⟩
                ·
                  have n_40 : gNe ((k62_tr ((64 * k234_5) + k243_6).toNatClampNeg).toInt) (0) := g5_eqN (a := (k62_tr ((64 * k234_5) + k243_6).toNatClampNeg).toInt) (b := 0) rfl (by decide +kernel) c_40
                  refine lv_iload hx hb dX12_findSoonest_323 (lv_at hl 0 rfl) ?_
                  refine lv_iconst (v := (-1)) hx hb dX12_findSoonest_325 (by decide +kernel) ?_
                  refine lv_icmp_eq (tgt := 360) hx hb dX12_findSoonest_326 (by decide +kernel) (fun c_42 => ?_) (fun c_42 => ?_)
                  ·
                    have i_42 : z30.toInt = (-1) := g5_eq (a := z30.toInt) (b := (-1)) rfl (by decide +kernel) c_42
                    refine lv_iconst (v := 0) hx hb dX12_findSoonest_360 (by decide +kernel) ?_
                    refine va_zast hx hb hK hP hD hS 6 2 rfl rfl (i := ((64 * k234_5) + k243_6)) (x := 0) (vp_in_iff.mpr ⟨by omega, by omega⟩) dX12_findSoonest_361 ?_
                    clear hP hD hS
                    intro H locs hP hD hS
                    refine g5_rs [(b_o, (oc12 u_th u_sa b_rf b_ro b_im b_ke u_fd b_tp u_td u_fr u_to u_so u_wo u_fa u_bd u_nc b_nl u_co b_op b_ar u_le b_pi b_pa u_pd u_od b_ws b_hw k62_la b_se b_re k62_bk k62_va k62_su k62_ce k62_ho k62_wy k62_bt k62_ps b_pt k62_tg k62_sn b_ip u_ic b_ah b_be b_me u_wd b_tr b_ld u_st b_wn u_id)), (b_ro, (arI G 5740 v_ro)), (b_se, (arJ G 13 k62_se)), (b_re, (arJ G 400 k62_re)), (b_pt, (arI G 200 k62_pt)), (b_tr, (arZ G 1536 k62_tr)), (b_ld, (arZ G 1536 (upd k253_ld ((64 * k234_5) + k243_6).toNatClampNeg 0)))] hP hD ?_
                    clear hP hD
                    intro hP hD
                    refine lv_iinc (v := (k253_7 + 1)) (lv' := [(7, .int (k253_7 + 1)), (8, .int z30), (6, .int k243_6), (5, .int k234_5), (4, .int k62_4), (0, .ref b_o), (1, .int p_1), (2, .int p_2), (3, .int p_3)]) hx hb dX12_findSoonest_362 hl (k := 1) rfl rfl (by decide +kernel) rfl ?_
                    clear hl
                    intro ls hl
                    have t_43 : (k253_7 + 1).toInt = k253_7.toInt + 1 := g5_iadd (a := k253_7.toInt) (b := 1) rfl (by decide +kernel) (by omega) (by omega)
                    refine lv_goto (tgt := 253) hx hb dX12_findSoonest_365 (by decide +kernel) ?_
                    exact ih_253_25 ((k253_7 + 1), (upd k253_ld ((64 * k234_5) + k243_6).toNatClampNeg 0)) ls H locs (show Int.toNat (5 - (k253_7 + 1).toInt) < Int.toNat (5 - k253_7.toInt) from g_up (show k253_7.toInt < (k253_7 + 1).toInt by omega) (show k253_7.toInt < 5 by omega)) ⟨lv_sub hl [0, 2, 3, 4, 5, 6, 7, 8] rfl, hP, hD, hS, ⟨by omega, by omega⟩⟩
                  ·
                    have n_42 : gNe (z30.toInt) ((-1)) := g5_eqN (a := z30.toInt) (b := (-1)) rfl (by decide +kernel) c_42
                    have i_42 : z30.toInt ≥ 0 := by have z := g5_eqN (a := z30.toInt) (b := (-1)) (by rfl) (by decide +kernel) c_42; omega
                    refine lv_aload_n hx hb dX12_findSoonest_329 rfl (lv_at hl 5 rfl) ?_
                    refine va_get (D := G.1) (ci := 12) (v := .ref b_ld) (C := RX12) (T := TX12) (N := 52) hx hb hts inG_X12 hown hK hP 0 rfl rfl 48 (by decide +kernel) (hts _ fl_X12_101) (fun _ h9 => h9) rfl dX12_findSoonest_330 ?_
                    refine lv_bipush (v := 64) hx hb dX12_findSoonest_333 (by decide +kernel) ?_
                    refine lv_iload hx hb dX12_findSoonest_335 (lv_at hl 3 rfl) ?_
                    refine lv_iconst (v := 1) hx hb dX12_findSoonest_337 (by decide +kernel) ?_
                    refine lv_iadd hx hb dX12_findSoonest_338 ?_
                    have t_44 : (k234_5 + 1).toInt = k234_5.toInt + 1 := g5_iadd (a := k234_5.toInt) (b := 1) (by rfl) (by decide +kernel) (by omega) (by omega)
                    refine lv_imul hx hb dX12_findSoonest_339 ?_
                    have t_45 : (64 * (k234_5 + 1)).toInt = 64 * (k234_5 + 1).toInt := g5_imul (a := 64) (b := (k234_5 + 1).toInt) (by decide +kernel) (by rfl) (by omega) (by omega)
                    refine lv_iload hx hb dX12_findSoonest_340 (lv_at hl 0 rfl) ?_
                    refine lv_if_ge (tgt := 349) hx hb dX12_findSoonest_342 (by decide +kernel) (fun c_46 => ?_) (fun c_46 => ?_)
                    ·
                      have i_46 : z30.toInt ≥ 0 := g5_ge (a := z30.toInt) (b := 0) rfl (by decide +kernel) c_46
                      refine lv_iload hx hb dX12_findSoonest_349 (lv_at hl 0 rfl) ?_
                      refine lv_iadd hx hb dX12_findSoonest_351 ?_
                      have t_47 : ((64 * (k234_5 + 1)) + z30).toInt = (64 * (k234_5 + 1)).toInt + z30.toInt := g5_iadd (a := (64 * (k234_5 + 1)).toInt) (b := z30.toInt) (by rfl) (by rfl) (by omega) (by omega)
                      refine va_zald hx hb hK hP 6 2 rfl rfl (i := ((64 * (k234_5 + 1)) + z30)) (vp_in_iff.mpr ⟨by omega, by omega⟩) dX12_findSoonest_352 ?_
                      refine lv_if_eq (tgt := 360) hx hb dX12_findSoonest_353 (by decide +kernel) (fun c_48 => ?_) (fun c_48 => ?_)
                      ·
                        have i_48 : (k253_ld ((64 * (k234_5 + 1)) + z30).toNatClampNeg).toInt = 0 := g5_eq (a := (k253_ld ((64 * (k234_5 + 1)) + z30).toNatClampNeg).toInt) (b := 0) rfl (by decide +kernel) c_48
                        refine lv_iconst (v := 0) hx hb dX12_findSoonest_360 (by decide +kernel) ?_
                        refine va_zast hx hb hK hP hD hS 6 2 rfl rfl (i := ((64 * k234_5) + k243_6)) (x := 0) (vp_in_iff.mpr ⟨by omega, by omega⟩) dX12_findSoonest_361 ?_
                        clear hP hD hS
                        intro H locs hP hD hS
                        refine g5_rs [(b_o, (oc12 u_th u_sa b_rf b_ro b_im b_ke u_fd b_tp u_td u_fr u_to u_so u_wo u_fa u_bd u_nc b_nl u_co b_op b_ar u_le b_pi b_pa u_pd u_od b_ws b_hw k62_la b_se b_re k62_bk k62_va k62_su k62_ce k62_ho k62_wy k62_bt k62_ps b_pt k62_tg k62_sn b_ip u_ic b_ah b_be b_me u_wd b_tr b_ld u_st b_wn u_id)), (b_ro, (arI G 5740 v_ro)), (b_se, (arJ G 13 k62_se)), (b_re, (arJ G 400 k62_re)), (b_pt, (arI G 200 k62_pt)), (b_tr, (arZ G 1536 k62_tr)), (b_ld, (arZ G 1536 (upd k253_ld ((64 * k234_5) + k243_6).toNatClampNeg 0)))] hP hD ?_
                        clear hP hD
                        intro hP hD
                        refine lv_iinc (v := (k253_7 + 1)) (lv' := [(7, .int (k253_7 + 1)), (8, .int z30), (6, .int k243_6), (5, .int k234_5), (4, .int k62_4), (0, .ref b_o), (1, .int p_1), (2, .int p_2), (3, .int p_3)]) hx hb dX12_findSoonest_362 hl (k := 1) rfl rfl (by decide +kernel) rfl ?_
                        clear hl
                        intro ls hl
                        have t_49 : (k253_7 + 1).toInt = k253_7.toInt + 1 := g5_iadd (a := k253_7.toInt) (b := 1) rfl (by decide +kernel) (by omega) (by omega)
                        refine lv_goto (tgt := 253) hx hb dX12_findSoonest_365 (by decide +kernel) ?_
                        exact ih_253_25 ((k253_7 + 1), (upd k253_ld ((64 * k234_5) + k243_6).toNatClampNeg 0)) ls H locs (show Int.toNat (5 - (k253_7 + 1).toInt) < Int.toNat (5 - k253_7.toInt) from g_up (show k253_7.toInt < (k253_7 + 1).toInt by omega) (show k253_7.toInt < 5 by omega)) ⟨lv_sub hl [0, 2, 3, 4, 5, 6, 7, 8] rfl, hP, hD, hS, ⟨by omega, by omega⟩⟩
                      ·
                        have n_48 : gNe ((k253_ld ((64 * (k234_5 + 1)) + z30).toNatClampNeg).toInt) (0) := g5_eqN (a := (k253_ld ((64 * (k234_5 + 1)) + z30).toNatClampNeg).toInt) (b := 0) rfl (by decide +kernel) c_48
                        refine lv_iconst (v := 1) hx hb dX12_findSoonest_356 (by decide +kernel) ?_
                        refine lv_goto (tgt := 361) hx hb dX12_findSoonest_357 (by decide +kernel) ?_
                        refine va_zast hx hb hK hP hD hS 6 2 rfl rfl (i := ((64 * k234_5) + k243_6)) (x := 1) (vp_in_iff.mpr ⟨by omega, by omega⟩) dX12_findSoonest_361 ?_
                        clear hP hD hS
                        intro H locs hP hD hS
                        refine g5_rs [(b_o, (oc12 u_th u_sa b_rf b_ro b_im b_ke u_fd b_tp u_td u_fr u_to u_so u_wo u_fa u_bd u_nc b_nl u_co b_op b_ar u_le b_pi b_pa u_pd u_od b_ws b_hw k62_la b_se b_re k62_bk k62_va k62_su k62_ce k62_ho k62_wy k62_bt k62_ps b_pt k62_tg k62_sn b_ip u_ic b_ah b_be b_me u_wd b_tr b_ld u_st b_wn u_id)), (b_ro, (arI G 5740 v_ro)), (b_se, (arJ G 13 k62_se)), (b_re, (arJ G 400 k62_re)), (b_pt, (arI G 200 k62_pt)), (b_tr, (arZ G 1536 k62_tr)), (b_ld, (arZ G 1536 (upd k253_ld ((64 * k234_5) + k243_6).toNatClampNeg 1)))] hP hD ?_
                        clear hP hD
                        intro hP hD
                        refine lv_iinc (v := (k253_7 + 1)) (lv' := [(7, .int (k253_7 + 1)), (8, .int z30), (6, .int k243_6), (5, .int k234_5), (4, .int k62_4), (0, .ref b_o), (1, .int p_1), (2, .int p_2), (3, .int p_3)]) hx hb dX12_findSoonest_362 hl (k := 1) rfl rfl (by decide +kernel) rfl ?_
                        clear hl
                        intro ls hl
                        have t_50 : (k253_7 + 1).toInt = k253_7.toInt + 1 := g5_iadd (a := k253_7.toInt) (b := 1) rfl (by decide +kernel) (by omega) (by omega)
                        refine lv_goto (tgt := 253) hx hb dX12_findSoonest_365 (by decide +kernel) ?_
                        exact ih_253_25 ((k253_7 + 1), (upd k253_ld ((64 * k234_5) + k243_6).toNatClampNeg 1)) ls H locs (show Int.toNat (5 - (k253_7 + 1).toInt) < Int.toNat (5 - k253_7.toInt) from g_up (show k253_7.toInt < (k253_7 + 1).toInt by omega) (show k253_7.toInt < 5 by omega)) ⟨lv_sub hl [0, 2, 3, 4, 5, 6, 7, 8] rfl, hP, hD, hS, ⟨by omega, by omega⟩⟩
                    ·
                      have i_46 : z30.toInt < 0 := g5_geN (a := z30.toInt) (b := 0) rfl (by decide +kernel) c_46
                      omega
            ·
              have i_28 : k253_7.toInt = 4 := g5_neN (a := k253_7.toInt) (b := 4) rfl (by decide +kernel) c_28
              refine lv_iload hx hb dX12_findSoonest_265 (lv_at hl 1 rfl) ?_
              refine lv_goto (tgt := 277) hx hb dX12_findSoonest_267 (by decide +kernel) ?_
              refine lv_istore (lv' := [(8, .int k243_6), (7, .int k253_7), (6, .int k243_6), (5, .int k234_5), (4, .int k62_4), (0, .ref b_o), (1, .int p_1), (2, .int p_2), (3, .int p_3)]) hx hb dX12_findSoonest_277 hl (by decide +kernel) rfl ?_
              clear hl
              intro ls hl
              refine lv_aload_n hx hb dX12_findSoonest_279 rfl (lv_at hl 5 rfl) ?_
              refine va_get (D := G.1) (ci := 12) (v := .ref b_ld) (C := RX12) (T := TX12) (N := 52) hx hb hts inG_X12 hown hK hP 0 rfl rfl 48 (by decide +kernel) (hts _ fl_X12_101) (fun _ h9 => h9) rfl dX12_findSoonest_280 ?_
              refine lv_bipush (v := 64) hx hb dX12_findSoonest_283 (by decide +kernel) ?_
              refine lv_iload hx hb dX12_findSoonest_285 (lv_at hl 3 rfl) ?_
              refine lv_imul hx hb dX12_findSoonest_287 ?_
              have t_51 : (64 * k234_5).toInt = 64 * k234_5.toInt := g5_imul (a := 64) (b := k234_5.toInt) (by decide +kernel) (by rfl) (by omega) (by omega)
              refine lv_iload hx hb dX12_findSoonest_288 (lv_at hl 2 rfl) ?_
              refine lv_iadd hx hb dX12_findSoonest_290 ?_
              have t_52 : ((64 * k234_5) + k243_6).toInt = (64 * k234_5).toInt + k243_6.toInt := g5_iadd (a := (64 * k234_5).toInt) (b := k243_6.toInt) (by rfl) (by rfl) (by omega) (by omega)
              refine lv_aload_n hx hb dX12_findSoonest_291 rfl (lv_at hl 5 rfl) ?_
              refine va_get (D := G.1) (ci := 12) (v := .ref b_ld) (C := RX12) (T := TX12) (N := 52) hx hb hts inG_X12 hown hK hP 0 rfl rfl 48 (by decide +kernel) (hts _ fl_X12_101) (fun _ h9 => h9) rfl dX12_findSoonest_292 ?_
              refine lv_bipush (v := 64) hx hb dX12_findSoonest_295 (by decide +kernel) ?_
              refine lv_iload hx hb dX12_findSoonest_297 (lv_at hl 3 rfl) ?_
              refine lv_imul hx hb dX12_findSoonest_299 ?_
              have t_53 : (64 * k234_5).toInt = 64 * k234_5.toInt := g5_imul (a := 64) (b := k234_5.toInt) (by decide +kernel) (by rfl) (by omega) (by omega)
              refine lv_iload hx hb dX12_findSoonest_300 (lv_at hl 2 rfl) ?_
              refine lv_iadd hx hb dX12_findSoonest_302 ?_
              have t_54 : ((64 * k234_5) + k243_6).toInt = (64 * k234_5).toInt + k243_6.toInt := g5_iadd (a := (64 * k234_5).toInt) (b := k243_6.toInt) (by rfl) (by rfl) (by omega) (by omega)
              refine va_zald hx hb hK hP 6 2 rfl rfl (i := ((64 * k234_5) + k243_6)) (vp_in_iff.mpr ⟨by omega, by omega⟩) dX12_findSoonest_303 ?_
              refine lv_if_ne (tgt := 356) hx hb dX12_findSoonest_304 (by decide +kernel) (fun c_55 => ?_) (fun c_55 => ?_)
              ·
                have n_55 : gNe ((k253_ld ((64 * k234_5) + k243_6).toNatClampNeg).toInt) (0) := g5_ne (a := (k253_ld ((64 * k234_5) + k243_6).toNatClampNeg).toInt) (b := 0) rfl (by decide +kernel) c_55
                refine lv_iconst (v := 1) hx hb dX12_findSoonest_356 (by decide +kernel) ?_
                refine lv_goto (tgt := 361) hx hb dX12_findSoonest_357 (by decide +kernel) ?_
                refine va_zast hx hb hK hP hD hS 6 2 rfl rfl (i := ((64 * k234_5) + k243_6)) (x := 1) (vp_in_iff.mpr ⟨by omega, by omega⟩) dX12_findSoonest_361 ?_
                clear hP hD hS
                intro H locs hP hD hS
                refine g5_rs [(b_o, (oc12 u_th u_sa b_rf b_ro b_im b_ke u_fd b_tp u_td u_fr u_to u_so u_wo u_fa u_bd u_nc b_nl u_co b_op b_ar u_le b_pi b_pa u_pd u_od b_ws b_hw k62_la b_se b_re k62_bk k62_va k62_su k62_ce k62_ho k62_wy k62_bt k62_ps b_pt k62_tg k62_sn b_ip u_ic b_ah b_be b_me u_wd b_tr b_ld u_st b_wn u_id)), (b_ro, (arI G 5740 v_ro)), (b_se, (arJ G 13 k62_se)), (b_re, (arJ G 400 k62_re)), (b_pt, (arI G 200 k62_pt)), (b_tr, (arZ G 1536 k62_tr)), (b_ld, (arZ G 1536 (upd k253_ld ((64 * k234_5) + k243_6).toNatClampNeg 1)))] hP hD ?_
                clear hP hD
                intro hP hD
                refine lv_iinc (v := (k253_7 + 1)) (lv' := [(7, .int (k253_7 + 1)), (8, .int k243_6), (6, .int k243_6), (5, .int k234_5), (4, .int k62_4), (0, .ref b_o), (1, .int p_1), (2, .int p_2), (3, .int p_3)]) hx hb dX12_findSoonest_362 hl (k := 1) rfl rfl (by decide +kernel) rfl ?_
                clear hl
                intro ls hl
                have t_56 : (k253_7 + 1).toInt = k253_7.toInt + 1 := g5_iadd (a := k253_7.toInt) (b := 1) rfl (by decide +kernel) (by omega) (by omega)
                refine lv_goto (tgt := 253) hx hb dX12_findSoonest_365 (by decide +kernel) ?_
                exact ih_253_25 ((k253_7 + 1), (upd k253_ld ((64 * k234_5) + k243_6).toNatClampNeg 1)) ls H locs (show Int.toNat (5 - (k253_7 + 1).toInt) < Int.toNat (5 - k253_7.toInt) from g_up (show k253_7.toInt < (k253_7 + 1).toInt by omega) (show k253_7.toInt < 5 by omega)) ⟨lv_sub hl [0, 2, 3, 4, 5, 6, 7, 8] rfl, hP, hD, hS, ⟨by omega, by omega⟩⟩
              ·
                have i_55 : (k253_ld ((64 * k234_5) + k243_6).toNatClampNeg).toInt = 0 := g5_neN (a := (k253_ld ((64 * k234_5) + k243_6).toNatClampNeg).toInt) (b := 0) rfl (by decide +kernel) c_55
                refine lv_aload_n hx hb dX12_findSoonest_307 rfl (lv_at hl 5 rfl) ?_
                refine va_get (D := G.1) (ci := 12) (v := .ref b_tr) (C := RX12) (T := TX12) (N := 52) hx hb hts inG_X12 hown hK hP 0 rfl rfl 47 (by decide +kernel) (hts _ fl_X12_98) (fun _ h9 => h9) rfl dX12_findSoonest_308 ?_
                refine lv_bipush (v := 64) hx hb dX12_findSoonest_311 (by decide +kernel) ?_
                refine lv_iload hx hb dX12_findSoonest_313 (lv_at hl 3 rfl) ?_
                refine lv_imul hx hb dX12_findSoonest_315 ?_
                have t_57 : (64 * k234_5).toInt = 64 * k234_5.toInt := g5_imul (a := 64) (b := k234_5.toInt) (by decide +kernel) (by rfl) (by omega) (by omega)
                refine lv_iload hx hb dX12_findSoonest_316 (lv_at hl 2 rfl) ?_
                refine lv_iadd hx hb dX12_findSoonest_318 ?_
                have t_58 : ((64 * k234_5) + k243_6).toInt = (64 * k234_5).toInt + k243_6.toInt := g5_iadd (a := (64 * k234_5).toInt) (b := k243_6.toInt) (by rfl) (by rfl) (by omega) (by omega)
                refine va_zald hx hb hK hP 5 2 rfl rfl (i := ((64 * k234_5) + k243_6)) (vp_in_iff.mpr ⟨by omega, by omega⟩) dX12_findSoonest_319 ?_
                refine lv_if_eq (tgt := 360) hx hb dX12_findSoonest_320 (by decide +kernel) (fun c_59 => ?_) (fun c_59 => ?_)
                ·
                  have i_59 : (k62_tr ((64 * k234_5) + k243_6).toNatClampNeg).toInt = 0 := g5_eq (a := (k62_tr ((64 * k234_5) + k243_6).toNatClampNeg).toInt) (b := 0) rfl (by decide +kernel) c_59
                  refine lv_iconst (v := 0) hx hb dX12_findSoonest_360 (by decide +kernel) ?_
                  refine va_zast hx hb hK hP hD hS 6 2 rfl rfl (i := ((64 * k234_5) + k243_6)) (x := 0) (vp_in_iff.mpr ⟨by omega, by omega⟩) dX12_findSoonest_361 ?_
                  clear hP hD hS
                  intro H locs hP hD hS
                  refine g5_rs [(b_o, (oc12 u_th u_sa b_rf b_ro b_im b_ke u_fd b_tp u_td u_fr u_to u_so u_wo u_fa u_bd u_nc b_nl u_co b_op b_ar u_le b_pi b_pa u_pd u_od b_ws b_hw k62_la b_se b_re k62_bk k62_va k62_su k62_ce k62_ho k62_wy k62_bt k62_ps b_pt k62_tg k62_sn b_ip u_ic b_ah b_be b_me u_wd b_tr b_ld u_st b_wn u_id)), (b_ro, (arI G 5740 v_ro)), (b_se, (arJ G 13 k62_se)), (b_re, (arJ G 400 k62_re)), (b_pt, (arI G 200 k62_pt)), (b_tr, (arZ G 1536 k62_tr)), (b_ld, (arZ G 1536 (upd k253_ld ((64 * k234_5) + k243_6).toNatClampNeg 0)))] hP hD ?_
                  clear hP hD
                  intro hP hD
                  refine lv_iinc (v := (k253_7 + 1)) (lv' := [(7, .int (k253_7 + 1)), (8, .int k243_6), (6, .int k243_6), (5, .int k234_5), (4, .int k62_4), (0, .ref b_o), (1, .int p_1), (2, .int p_2), (3, .int p_3)]) hx hb dX12_findSoonest_362 hl (k := 1) rfl rfl (by decide +kernel) rfl ?_
                  clear hl
                  intro ls hl
                  have t_60 : (k253_7 + 1).toInt = k253_7.toInt + 1 := g5_iadd (a := k253_7.toInt) (b := 1) rfl (by decide +kernel) (by omega) (by omega)
                  refine lv_goto (tgt := 253) hx hb dX12_findSoonest_365 (by decide +kernel) ?_
                  exact ih_253_25 ((k253_7 + 1), (upd k253_ld ((64 * k234_5) + k243_6).toNatClampNeg 0)) ls H locs (show Int.toNat (5 - (k253_7 + 1).toInt) < Int.toNat (5 - k253_7.toInt) from g_up (show k253_7.toInt < (k253_7 + 1).toInt by omega) (show k253_7.toInt < 5 by omega)) ⟨lv_sub hl [0, 2, 3, 4, 5, 6, 7, 8] rfl, hP, hD, hS, ⟨by omega, by omega⟩⟩
                ·
                  have n_59 : gNe ((k62_tr ((64 * k234_5) + k243_6).toNatClampNeg).toInt) (0) := g5_eqN (a := (k62_tr ((64 * k234_5) + k243_6).toNatClampNeg).toInt) (b := 0) rfl (by decide +kernel) c_59
                  refine lv_iload hx hb dX12_findSoonest_323 (lv_at hl 0 rfl) ?_
                  refine lv_iconst (v := (-1)) hx hb dX12_findSoonest_325 (by decide +kernel) ?_
                  refine lv_icmp_eq (tgt := 360) hx hb dX12_findSoonest_326 (by decide +kernel) (fun c_61 => ?_) (fun c_61 => ?_)
                  ·
                    have i_61 : k243_6.toInt = (-1) := g5_eq (a := k243_6.toInt) (b := (-1)) rfl (by decide +kernel) c_61
                    omega
                  ·
                    have n_61 : gNe (k243_6.toInt) ((-1)) := g5_eqN (a := k243_6.toInt) (b := (-1)) rfl (by decide +kernel) c_61
                    refine lv_aload_n hx hb dX12_findSoonest_329 rfl (lv_at hl 5 rfl) ?_
                    refine va_get (D := G.1) (ci := 12) (v := .ref b_ld) (C := RX12) (T := TX12) (N := 52) hx hb hts inG_X12 hown hK hP 0 rfl rfl 48 (by decide +kernel) (hts _ fl_X12_101) (fun _ h9 => h9) rfl dX12_findSoonest_330 ?_
                    refine lv_bipush (v := 64) hx hb dX12_findSoonest_333 (by decide +kernel) ?_
                    refine lv_iload hx hb dX12_findSoonest_335 (lv_at hl 3 rfl) ?_
                    refine lv_iconst (v := 1) hx hb dX12_findSoonest_337 (by decide +kernel) ?_
                    refine lv_iadd hx hb dX12_findSoonest_338 ?_
                    have t_62 : (k234_5 + 1).toInt = k234_5.toInt + 1 := g5_iadd (a := k234_5.toInt) (b := 1) (by rfl) (by decide +kernel) (by omega) (by omega)
                    refine lv_imul hx hb dX12_findSoonest_339 ?_
                    have t_63 : (64 * (k234_5 + 1)).toInt = 64 * (k234_5 + 1).toInt := g5_imul (a := 64) (b := (k234_5 + 1).toInt) (by decide +kernel) (by rfl) (by omega) (by omega)
                    refine lv_iload hx hb dX12_findSoonest_340 (lv_at hl 0 rfl) ?_
                    refine lv_if_ge (tgt := 349) hx hb dX12_findSoonest_342 (by decide +kernel) (fun c_64 => ?_) (fun c_64 => ?_)
                    ·
                      have i_64 : k243_6.toInt ≥ 0 := g5_ge (a := k243_6.toInt) (b := 0) rfl (by decide +kernel) c_64
                      refine lv_iload hx hb dX12_findSoonest_349 (lv_at hl 0 rfl) ?_
                      refine lv_iadd hx hb dX12_findSoonest_351 ?_
                      have t_65 : ((64 * (k234_5 + 1)) + k243_6).toInt = (64 * (k234_5 + 1)).toInt + k243_6.toInt := g5_iadd (a := (64 * (k234_5 + 1)).toInt) (b := k243_6.toInt) (by rfl) (by rfl) (by omega) (by omega)
                      refine va_zald hx hb hK hP 6 2 rfl rfl (i := ((64 * (k234_5 + 1)) + k243_6)) (vp_in_iff.mpr ⟨by omega, by omega⟩) dX12_findSoonest_352 ?_
                      refine lv_if_eq (tgt := 360) hx hb dX12_findSoonest_353 (by decide +kernel) (fun c_66 => ?_) (fun c_66 => ?_)
                      ·
                        have i_66 : (k253_ld ((64 * (k234_5 + 1)) + k243_6).toNatClampNeg).toInt = 0 := g5_eq (a := (k253_ld ((64 * (k234_5 + 1)) + k243_6).toNatClampNeg).toInt) (b := 0) rfl (by decide +kernel) c_66
                        refine lv_iconst (v := 0) hx hb dX12_findSoonest_360 (by decide +kernel) ?_
                        refine va_zast hx hb hK hP hD hS 6 2 rfl rfl (i := ((64 * k234_5) + k243_6)) (x := 0) (vp_in_iff.mpr ⟨by omega, by omega⟩) dX12_findSoonest_361 ?_
                        clear hP hD hS
                        intro H locs hP hD hS
                        refine g5_rs [(b_o, (oc12 u_th u_sa b_rf b_ro b_im b_ke u_fd b_tp u_td u_fr u_to u_so u_wo u_fa u_bd u_nc b_nl u_co b_op b_ar u_le b_pi b_pa u_pd u_od b_ws b_hw k62_la b_se b_re k62_bk k62_va k62_su k62_ce k62_ho k62_wy k62_bt k62_ps b_pt k62_tg k62_sn b_ip u_ic b_ah b_be b_me u_wd b_tr b_ld u_st b_wn u_id)), (b_ro, (arI G 5740 v_ro)), (b_se, (arJ G 13 k62_se)), (b_re, (arJ G 400 k62_re)), (b_pt, (arI G 200 k62_pt)), (b_tr, (arZ G 1536 k62_tr)), (b_ld, (arZ G 1536 (upd k253_ld ((64 * k234_5) + k243_6).toNatClampNeg 0)))] hP hD ?_
                        clear hP hD
                        intro hP hD
                        refine lv_iinc (v := (k253_7 + 1)) (lv' := [(7, .int (k253_7 + 1)), (8, .int k243_6), (6, .int k243_6), (5, .int k234_5), (4, .int k62_4), (0, .ref b_o), (1, .int p_1), (2, .int p_2), (3, .int p_3)]) hx hb dX12_findSoonest_362 hl (k := 1) rfl rfl (by decide +kernel) rfl ?_
                        clear hl
                        intro ls hl
                        have t_67 : (k253_7 + 1).toInt = k253_7.toInt + 1 := g5_iadd (a := k253_7.toInt) (b := 1) rfl (by decide +kernel) (by omega) (by omega)
                        refine lv_goto (tgt := 253) hx hb dX12_findSoonest_365 (by decide +kernel) ?_
                        exact ih_253_25 ((k253_7 + 1), (upd k253_ld ((64 * k234_5) + k243_6).toNatClampNeg 0)) ls H locs (show Int.toNat (5 - (k253_7 + 1).toInt) < Int.toNat (5 - k253_7.toInt) from g_up (show k253_7.toInt < (k253_7 + 1).toInt by omega) (show k253_7.toInt < 5 by omega)) ⟨lv_sub hl [0, 2, 3, 4, 5, 6, 7, 8] rfl, hP, hD, hS, ⟨by omega, by omega⟩⟩
                      ·
                        have n_66 : gNe ((k253_ld ((64 * (k234_5 + 1)) + k243_6).toNatClampNeg).toInt) (0) := g5_eqN (a := (k253_ld ((64 * (k234_5 + 1)) + k243_6).toNatClampNeg).toInt) (b := 0) rfl (by decide +kernel) c_66
                        refine lv_iconst (v := 1) hx hb dX12_findSoonest_356 (by decide +kernel) ?_
                        refine lv_goto (tgt := 361) hx hb dX12_findSoonest_357 (by decide +kernel) ?_
                        refine va_zast hx hb hK hP hD hS 6 2 rfl rfl (i := ((64 * k234_5) + k243_6)) (x := 1) (vp_in_iff.mpr ⟨by omega, by omega⟩) dX12_findSoonest_361 ?_
                        clear hP hD hS
                        intro H locs hP hD hS
                        refine g5_rs [(b_o, (oc12 u_th u_sa b_rf b_ro b_im b_ke u_fd b_tp u_td u_fr u_to u_so u_wo u_fa u_bd u_nc b_nl u_co b_op b_ar u_le b_pi b_pa u_pd u_od b_ws b_hw k62_la b_se b_re k62_bk k62_va k62_su k62_ce k62_ho k62_wy k62_bt k62_ps b_pt k62_tg k62_sn b_ip u_ic b_ah b_be b_me u_wd b_tr b_ld u_st b_wn u_id)), (b_ro, (arI G 5740 v_ro)), (b_se, (arJ G 13 k62_se)), (b_re, (arJ G 400 k62_re)), (b_pt, (arI G 200 k62_pt)), (b_tr, (arZ G 1536 k62_tr)), (b_ld, (arZ G 1536 (upd k253_ld ((64 * k234_5) + k243_6).toNatClampNeg 1)))] hP hD ?_
                        clear hP hD
                        intro hP hD
                        refine lv_iinc (v := (k253_7 + 1)) (lv' := [(7, .int (k253_7 + 1)), (8, .int k243_6), (6, .int k243_6), (5, .int k234_5), (4, .int k62_4), (0, .ref b_o), (1, .int p_1), (2, .int p_2), (3, .int p_3)]) hx hb dX12_findSoonest_362 hl (k := 1) rfl rfl (by decide +kernel) rfl ?_
                        clear hl
                        intro ls hl
                        have t_68 : (k253_7 + 1).toInt = k253_7.toInt + 1 := g5_iadd (a := k253_7.toInt) (b := 1) rfl (by decide +kernel) (by omega) (by omega)
                        refine lv_goto (tgt := 253) hx hb dX12_findSoonest_365 (by decide +kernel) ?_
                        exact ih_253_25 ((k253_7 + 1), (upd k253_ld ((64 * k234_5) + k243_6).toNatClampNeg 1)) ls H locs (show Int.toNat (5 - (k253_7 + 1).toInt) < Int.toNat (5 - k253_7.toInt) from g_up (show k253_7.toInt < (k253_7 + 1).toInt by omega) (show k253_7.toInt < 5 by omega)) ⟨lv_sub hl [0, 2, 3, 4, 5, 6, 7, 8] rfl, hP, hD, hS, ⟨by omega, by omega⟩⟩
                    ·
                      have i_64 : k243_6.toInt < 0 := g5_geN (a := k243_6.toInt) (b := 0) rfl (by decide +kernel) c_64
                      omega
    ·
      have i_15 : k62_5.toInt < 24 := g5_geN (a := k62_5.toInt) (b := 24) rfl (by decide +kernel) c_15
      refine lv_iload hx hb dX12_findSoonest_69 (lv_at hl 0 rfl) ?_
      refine lv_iconst (v := (-1)) hx hb dX12_findSoonest_71 (by decide +kernel) ?_
      refine lv_icmp_ne (tgt := 228) hx hb dX12_findSoonest_72 (by decide +kernel) (fun c_69 => ?_) (fun c_69 => ?_)
      ·
        have n_69 : gNe (k62_4.toInt) ((-1)) := g5_ne (a := k62_4.toInt) (b := (-1)) rfl (by decide +kernel) c_69
        have i_69 : k62_4.toInt ≥ 0 := by have z := g5_ne (a := k62_4.toInt) (b := (-1)) (by rfl) (by decide +kernel) c_69; omega
        refine lv_iload hx hb dX12_findSoonest_228 (lv_at hl 0 rfl) ?_
        refine lv_iconst (v := 1) hx hb dX12_findSoonest_230 (by decide +kernel) ?_
        refine lv_isub hx hb dX12_findSoonest_231 ?_
        have t_70 : (k62_4 - 1).toInt = k62_4.toInt - 1 := g5_isub (a := k62_4.toInt) (b := 1) (by rfl) (by decide +kernel) (by omega) (by omega)
        refine lv_istore (lv' := [(5, .int (k62_4 - 1)), (4, .int k62_4), (0, .ref b_o), (1, .int p_1), (2, .int p_2), (3, .int p_3)]) hx hb dX12_findSoonest_232 hl (by decide +kernel) rfl ?_
        clear hl
        intro ls hl
        refine g5_loop (α := (Int32) × (Nat → Int32)) (fun (q : (Int32) × (Nat → Int32)) (ls : Array Slot) (H : Heap) (locs : List Loc) => match q with | (k234_5, k234_ld) => lv_has ls 9 [(5, .int k234_5), (4, .int k62_4), (0, .ref b_o), (1, .int p_1), (2, .int p_2), (3, .int p_3)] ∧ va_P G.1 vwCl [(b_o, (oc12 u_th u_sa b_rf b_ro b_im b_ke u_fd b_tp u_td u_fr u_to u_so u_wo u_fa u_bd u_nc b_nl u_co b_op b_ar u_le b_pi b_pa u_pd u_od b_ws b_hw k62_la b_se b_re k62_bk k62_va k62_su k62_ce k62_ho k62_wy k62_bt k62_ps b_pt k62_tg k62_sn b_ip u_ic b_ah b_be b_me u_wd b_tr b_ld u_st b_wn u_id)), (b_ro, (arI G 5740 v_ro)), (b_se, (arJ G 13 k62_se)), (b_re, (arJ G 400 k62_re)), (b_pt, (arI G 200 k62_pt)), (b_tr, (arZ G 1536 k62_tr)), (b_ld, (arZ G 1536 k234_ld))] H ∧ va_D A [(b_o, (oc12 u_th u_sa b_rf b_ro b_im b_ke u_fd b_tp u_td u_fr u_to u_so u_wo u_fa u_bd u_nc b_nl u_co b_op b_ar u_le b_pi b_pa u_pd u_od b_ws b_hw k62_la b_se b_re k62_bk k62_va k62_su k62_ce k62_ho k62_wy k62_bt k62_ps b_pt k62_tg k62_sn b_ip u_ic b_ah b_be b_me u_wd b_tr b_ld u_st b_wn u_id)), (b_ro, (arI G 5740 v_ro)), (b_se, (arJ G 13 k62_se)), (b_re, (arJ G 400 k62_re)), (b_pt, (arI G 200 k62_pt)), (b_tr, (arZ G 1536 k62_tr)), (b_ld, (arZ G 1536 k234_ld))] ∧ va_S A s.heap H locs ∧ ((-2) ≤ k234_5.toInt ∧ k234_5.toInt ≤ 22)) (fun (q : (Int32) × (Nat → Int32)) => match q with | (k234_5, k234_ld) => Int.toNat (k234_5.toInt + 1)) ((k62_4 - 1), k62_ld) ⟨lv_sub hl [0, 1, 2, 3, 4, 5] rfl, hP, hD, hS, ⟨by omega, by omega⟩⟩ ?_
        rintro ⟨k234_5, k234_ld⟩ ls H locs ⟨hl, hP, hD, hS, (i_71 : (-2) ≤ k234_5.toInt ∧ k234_5.toInt ≤ 22)⟩ ih_234_72
        replace hl : lv_has ls 9 [(5, .int k234_5), (4, .int k62_4), (0, .ref b_o), (1, .int p_1), (2, .int p_2), (3, .int p_3)] := hl
        refine g5_rs [(b_o, (oc12 u_th u_sa b_rf b_ro b_im b_ke u_fd b_tp u_td u_fr u_to u_so u_wo u_fa u_bd u_nc b_nl u_co b_op b_ar u_le b_pi b_pa u_pd u_od b_ws b_hw k62_la b_se b_re k62_bk k62_va k62_su k62_ce k62_ho k62_wy k62_bt k62_ps b_pt k62_tg k62_sn b_ip u_ic b_ah b_be b_me u_wd b_tr b_ld u_st b_wn u_id)), (b_ro, (arI G 5740 v_ro)), (b_se, (arJ G 13 k62_se)), (b_re, (arJ G 400 k62_re)), (b_pt, (arI G 200 k62_pt)), (b_tr, (arZ G 1536 k62_tr)), (b_ld, (arZ G 1536 k234_ld))] hP hD ?_
        clear hP hD
        intro hP hD
        refine lv_iload hx hb dX12_findSoonest_234 (lv_at hl 0 rfl) ?_
        refine lv_iload_n hx hb dX12_findSoonest_236 rfl (lv_at hl 5 rfl) ?_
        refine lv_icmp_lt (tgt := 380) hx hb dX12_findSoonest_237 (by decide +kernel) (fun c_73 => ?_) (fun c_73 => ?_)
        ·
          have i_73 : k234_5.toInt < p_3.toInt := g5_lt (a := k234_5.toInt) (b := p_3.toInt) rfl rfl c_73
          refine lv_iload hx hb dX12_findSoonest_380 (lv_at hl 1 rfl) ?_
          exact W.iret (v := k62_4) hx hb hr (fun t ht hW => ⟨⟨k62_4, [(b_o, (oc12 u_th u_sa b_rf b_ro b_im b_ke u_fd b_tp u_td u_fr u_to u_so u_wo u_fa u_bd u_nc b_nl u_co b_op b_ar u_le b_pi b_pa u_pd u_od b_ws b_hw k62_la b_se b_re k62_bk k62_va k62_su k62_ce k62_ho k62_wy k62_bt k62_ps b_pt k62_tg k62_sn b_ip u_ic b_ah b_be b_me u_wd b_tr b_ld u_st b_wn u_id)), (b_ro, (arI G 5740 v_ro)), (b_se, (arJ G 13 k62_se)), (b_re, (arJ G 400 k62_re)), (b_pt, (arI G 200 k62_pt)), (b_tr, (arZ G 1536 k62_tr)), (b_ld, (arZ G 1536 k234_ld))], rfl, ⟨k62_4, k62_la, k62_bk, k62_va, k62_su, k62_ce, k62_ho, k62_wy, k62_bt, k62_ps, k62_tg, k62_sn, k62_se, k62_re, k62_pt, k62_tr, k234_ld, i_5, i_6, i_7, i_8, i_9, i_10, i_11, i_12, i_13, rfl, rfl⟩, by rw [ht]; exact hP.sub [0, 1, 2, 3, 4, 5, 6] rfl, hD.sub [0, 1, 2, 3, 4, 5, 6] (by decide +kernel) rfl⟩, hS.F ht⟩) hS.2.2 dX12_findSoonest_382
        ·
          have i_73 : k234_5.toInt ≥ p_3.toInt := g5_ltN (a := k234_5.toInt) (b := p_3.toInt) rfl rfl c_73
          refine lv_iconst (v := 0) hx hb dX12_findSoonest_240 (by decide +kernel) ?_
          refine lv_istore (lv' := [(6, .int 0), (5, .int k234_5), (4, .int k62_4), (0, .ref b_o), (1, .int p_1), (2, .int p_2), (3, .int p_3)]) hx hb dX12_findSoonest_241 hl (by decide +kernel) rfl ?_
          clear hl
          intro ls hl
          refine g5_loop (α := (Int32) × (Nat → Int32)) (fun (q : (Int32) × (Nat → Int32)) (ls : Array Slot) (H : Heap) (locs : List Loc) => match q with | (k243_6, k243_ld) => lv_has ls 9 [(6, .int k243_6), (5, .int k234_5), (4, .int k62_4), (0, .ref b_o), (1, .int p_1), (2, .int p_2), (3, .int p_3)] ∧ va_P G.1 vwCl [(b_o, (oc12 u_th u_sa b_rf b_ro b_im b_ke u_fd b_tp u_td u_fr u_to u_so u_wo u_fa u_bd u_nc b_nl u_co b_op b_ar u_le b_pi b_pa u_pd u_od b_ws b_hw k62_la b_se b_re k62_bk k62_va k62_su k62_ce k62_ho k62_wy k62_bt k62_ps b_pt k62_tg k62_sn b_ip u_ic b_ah b_be b_me u_wd b_tr b_ld u_st b_wn u_id)), (b_ro, (arI G 5740 v_ro)), (b_se, (arJ G 13 k62_se)), (b_re, (arJ G 400 k62_re)), (b_pt, (arI G 200 k62_pt)), (b_tr, (arZ G 1536 k62_tr)), (b_ld, (arZ G 1536 k243_ld))] H ∧ va_D A [(b_o, (oc12 u_th u_sa b_rf b_ro b_im b_ke u_fd b_tp u_td u_fr u_to u_so u_wo u_fa u_bd u_nc b_nl u_co b_op b_ar u_le b_pi b_pa u_pd u_od b_ws b_hw k62_la b_se b_re k62_bk k62_va k62_su k62_ce k62_ho k62_wy k62_bt k62_ps b_pt k62_tg k62_sn b_ip u_ic b_ah b_be b_me u_wd b_tr b_ld u_st b_wn u_id)), (b_ro, (arI G 5740 v_ro)), (b_se, (arJ G 13 k62_se)), (b_re, (arJ G 400 k62_re)), (b_pt, (arI G 200 k62_pt)), (b_tr, (arZ G 1536 k62_tr)), (b_ld, (arZ G 1536 k243_ld))] ∧ va_S A s.heap H locs ∧ (0 ≤ k243_6.toInt ∧ k243_6.toInt ≤ 64)) (fun (q : (Int32) × (Nat → Int32)) => match q with | (k243_6, k243_ld) => Int.toNat (64 - k243_6.toInt)) (0, k234_ld) ⟨lv_sub hl [0, 1, 2, 3, 4, 5, 6] rfl, hP, hD, hS, ⟨by decide, by decide⟩⟩ ?_
          rintro ⟨k243_6, k243_ld⟩ ls H locs ⟨hl, hP, hD, hS, (i_74 : 0 ≤ k243_6.toInt ∧ k243_6.toInt ≤ 64)⟩ ih_243_75
          replace hl : lv_has ls 9 [(6, .int k243_6), (5, .int k234_5), (4, .int k62_4), (0, .ref b_o), (1, .int p_1), (2, .int p_2), (3, .int p_3)] := hl
          refine g5_rs [(b_o, (oc12 u_th u_sa b_rf b_ro b_im b_ke u_fd b_tp u_td u_fr u_to u_so u_wo u_fa u_bd u_nc b_nl u_co b_op b_ar u_le b_pi b_pa u_pd u_od b_ws b_hw k62_la b_se b_re k62_bk k62_va k62_su k62_ce k62_ho k62_wy k62_bt k62_ps b_pt k62_tg k62_sn b_ip u_ic b_ah b_be b_me u_wd b_tr b_ld u_st b_wn u_id)), (b_ro, (arI G 5740 v_ro)), (b_se, (arJ G 13 k62_se)), (b_re, (arJ G 400 k62_re)), (b_pt, (arI G 200 k62_pt)), (b_tr, (arZ G 1536 k62_tr)), (b_ld, (arZ G 1536 k243_ld))] hP hD ?_
          clear hP hD
          intro hP hD
          refine lv_iload hx hb dX12_findSoonest_243 (lv_at hl 0 rfl) ?_
          refine lv_bipush (v := 64) hx hb dX12_findSoonest_245 (by decide +kernel) ?_
          refine lv_icmp_ge (tgt := 374) hx hb dX12_findSoonest_247 (by decide +kernel) (fun c_76 => ?_) (fun c_76 => ?_)
          ·
            have i_76 : k243_6.toInt ≥ 64 := g5_ge (a := k243_6.toInt) (b := 64) rfl (by decide +kernel) c_76
            obtain ⟨y77, hy_77, t_77⟩ := g_incN k234_5 (-1) (by decide +kernel) (by omega) (by omega)
            have t_77 : y77.toInt = k234_5.toInt + (-1) := t_77
            refine lv_iinc (v := y77) (lv' := [(5, .int y77), (6, .int k243_6), (4, .int k62_4), (0, .ref b_o), (1, .int p_1), (2, .int p_2), (3, .int p_3)]) hx hb dX12_findSoonest_374 hl (k := 1) rfl hy_77 (by decide +kernel) rfl ?_
            clear hl
            intro ls hl
            refine lv_goto (tgt := 234) hx hb dX12_findSoonest_377 (by decide +kernel) ?_
            exact ih_234_72 (y77, k243_ld) ls H locs (show Int.toNat (y77.toInt + 1) < Int.toNat (k234_5.toInt + 1) from g_dn (show y77.toInt < k234_5.toInt by omega) (show 0 ≤ k234_5.toInt by omega)) ⟨lv_sub hl [0, 2, 3, 4, 5, 6] rfl, hP, hD, hS, ⟨by omega, by omega⟩⟩
          ·
            have i_76 : k243_6.toInt < 64 := g5_geN (a := k243_6.toInt) (b := 64) rfl (by decide +kernel) c_76
            refine lv_iconst (v := 0) hx hb dX12_findSoonest_250 (by decide +kernel) ?_
            refine lv_istore (lv' := [(7, .int 0), (6, .int k243_6), (5, .int k234_5), (4, .int k62_4), (0, .ref b_o), (1, .int p_1), (2, .int p_2), (3, .int p_3)]) hx hb dX12_findSoonest_251 hl (by decide +kernel) rfl ?_
            clear hl
            intro ls hl
            refine g5_loop (α := (Int32) × (Nat → Int32)) (fun (q : (Int32) × (Nat → Int32)) (ls : Array Slot) (H : Heap) (locs : List Loc) => match q with | (k253_7, k253_ld) => lv_has ls 9 [(7, .int k253_7), (6, .int k243_6), (5, .int k234_5), (4, .int k62_4), (0, .ref b_o), (1, .int p_1), (2, .int p_2), (3, .int p_3)] ∧ va_P G.1 vwCl [(b_o, (oc12 u_th u_sa b_rf b_ro b_im b_ke u_fd b_tp u_td u_fr u_to u_so u_wo u_fa u_bd u_nc b_nl u_co b_op b_ar u_le b_pi b_pa u_pd u_od b_ws b_hw k62_la b_se b_re k62_bk k62_va k62_su k62_ce k62_ho k62_wy k62_bt k62_ps b_pt k62_tg k62_sn b_ip u_ic b_ah b_be b_me u_wd b_tr b_ld u_st b_wn u_id)), (b_ro, (arI G 5740 v_ro)), (b_se, (arJ G 13 k62_se)), (b_re, (arJ G 400 k62_re)), (b_pt, (arI G 200 k62_pt)), (b_tr, (arZ G 1536 k62_tr)), (b_ld, (arZ G 1536 k253_ld))] H ∧ va_D A [(b_o, (oc12 u_th u_sa b_rf b_ro b_im b_ke u_fd b_tp u_td u_fr u_to u_so u_wo u_fa u_bd u_nc b_nl u_co b_op b_ar u_le b_pi b_pa u_pd u_od b_ws b_hw k62_la b_se b_re k62_bk k62_va k62_su k62_ce k62_ho k62_wy k62_bt k62_ps b_pt k62_tg k62_sn b_ip u_ic b_ah b_be b_me u_wd b_tr b_ld u_st b_wn u_id)), (b_ro, (arI G 5740 v_ro)), (b_se, (arJ G 13 k62_se)), (b_re, (arJ G 400 k62_re)), (b_pt, (arI G 200 k62_pt)), (b_tr, (arZ G 1536 k62_tr)), (b_ld, (arZ G 1536 k253_ld))] ∧ va_S A s.heap H locs ∧ (0 ≤ k253_7.toInt ∧ k253_7.toInt ≤ 5)) (fun (q : (Int32) × (Nat → Int32)) => match q with | (k253_7, k253_ld) => Int.toNat (5 - k253_7.toInt)) (0, k243_ld) ⟨lv_sub hl [0, 1, 2, 3, 4, 5, 6, 7] rfl, hP, hD, hS, ⟨by decide, by decide⟩⟩ ?_
            rintro ⟨k253_7, k253_ld⟩ ls H locs ⟨hl, hP, hD, hS, (i_78 : 0 ≤ k253_7.toInt ∧ k253_7.toInt ≤ 5)⟩ ih_253_79
            replace hl : lv_has ls 9 [(7, .int k253_7), (6, .int k243_6), (5, .int k234_5), (4, .int k62_4), (0, .ref b_o), (1, .int p_1), (2, .int p_2), (3, .int p_3)] := hl
            refine g5_rs [(b_o, (oc12 u_th u_sa b_rf b_ro b_im b_ke u_fd b_tp u_td u_fr u_to u_so u_wo u_fa u_bd u_nc b_nl u_co b_op b_ar u_le b_pi b_pa u_pd u_od b_ws b_hw k62_la b_se b_re k62_bk k62_va k62_su k62_ce k62_ho k62_wy k62_bt k62_ps b_pt k62_tg k62_sn b_ip u_ic b_ah b_be b_me u_wd b_tr b_ld u_st b_wn u_id)), (b_ro, (arI G 5740 v_ro)), (b_se, (arJ G 13 k62_se)), (b_re, (arJ G 400 k62_re)), (b_pt, (arI G 200 k62_pt)), (b_tr, (arZ G 1536 k62_tr)), (b_ld, (arZ G 1536 k253_ld))] hP hD ?_
            clear hP hD
            intro hP hD
            refine lv_iload hx hb dX12_findSoonest_253 (lv_at hl 0 rfl) ?_
            refine lv_iconst (v := 5) hx hb dX12_findSoonest_255 (by decide +kernel) ?_
            refine lv_icmp_ge (tgt := 368) hx hb dX12_findSoonest_256 (by decide +kernel) (fun c_80 => ?_) (fun c_80 => ?_)
            ·
              have i_80 : k253_7.toInt ≥ 5 := g5_ge (a := k253_7.toInt) (b := 5) rfl (by decide +kernel) c_80
              refine lv_iinc (v := (k243_6 + 1)) (lv' := [(6, .int (k243_6 + 1)), (7, .int k253_7), (5, .int k234_5), (4, .int k62_4), (0, .ref b_o), (1, .int p_1), (2, .int p_2), (3, .int p_3)]) hx hb dX12_findSoonest_368 hl (k := 1) rfl rfl (by decide +kernel) rfl ?_
              clear hl
              intro ls hl
              have t_81 : (k243_6 + 1).toInt = k243_6.toInt + 1 := g5_iadd (a := k243_6.toInt) (b := 1) rfl (by decide +kernel) (by omega) (by omega)
              refine lv_goto (tgt := 243) hx hb dX12_findSoonest_371 (by decide +kernel) ?_
              exact ih_243_75 ((k243_6 + 1), k253_ld) ls H locs (show Int.toNat (64 - (k243_6 + 1).toInt) < Int.toNat (64 - k243_6.toInt) from g_up (show k243_6.toInt < (k243_6 + 1).toInt by omega) (show k243_6.toInt < 64 by omega)) ⟨lv_sub hl [0, 2, 3, 4, 5, 6, 7] rfl, hP, hD, hS, ⟨by omega, by omega⟩⟩
            ·
              have i_80 : k253_7.toInt < 5 := g5_geN (a := k253_7.toInt) (b := 5) rfl (by decide +kernel) c_80
              refine lv_iload hx hb dX12_findSoonest_259 (lv_at hl 0 rfl) ?_
              refine lv_iconst (v := 4) hx hb dX12_findSoonest_261 (by decide +kernel) ?_
              refine lv_icmp_ne (tgt := 270) hx hb dX12_findSoonest_262 (by decide +kernel) (fun c_82 => ?_) (fun c_82 => ?_)
              ·
                have n_82 : gNe (k253_7.toInt) (4) := g5_ne (a := k253_7.toInt) (b := 4) rfl (by decide +kernel) c_82
                have i_82 : k253_7.toInt ≤ 3 := by have z := g5_ne (a := k253_7.toInt) (b := 4) (by rfl) (by decide +kernel) c_82; omega
                refine lv_iload hx hb dX12_findSoonest_270 (lv_at hl 1 rfl) ?_
                refine lv_iload hx hb dX12_findSoonest_272 (lv_at hl 0 rfl) ?_
                obtain ⟨hPc, hDc, hFc⟩ := g5_sub3 (wc := []) hP hD hS hA [] (by decide +kernel) rfl
                refine va_calli (va_runS (As := [.int k243_6, .int k253_7]) (rest := []) ⟨hx, hb, hml, hown, hts⟩ (n_beside l G H.size k243_6 k253_7 ⟨by omega, by omega⟩) (va_cwS 2 hts gS_X12_374 rfl rfl rfl hs_X12_beside ⟨Nat.le_of_ble_eq_true rfl, Nat.le_of_ble_eq_true rfl⟩) (g5_preS hPc hK hDc hN hT hS hFc) rfl rfl hl.1 rfl (lv_room (Nat.le_of_ble_eq_true rfl)) dX12_findSoonest_274 ⟨Nat.le_of_ble_eq_true rfl, Nat.le_of_ble_eq_true rfl⟩) hS (fun q _ h => hFc q h) hFc (fun r u t H locs ht hvm hw hB hz1 hk1 hS => ?_)
                obtain ⟨hP1, hD1⟩ := hB
                have hP1 := g5_ht ht hP1
                obtain ⟨z84, (i_83 : -1 ≤ z84.toInt ∧ z84.toInt ≤ 63), y85, rfl⟩ := hw
                have hJ9 := g5_same hP hk1
                clear hP hPc hDc hFc ht hvm hz1 hk1 hP1 hD1
                have hP := hJ9
                clear hJ9
                refine g5_ti (v := z84) y85 ?_
                refine lv_istore (lv' := [(8, .int z84), (7, .int k253_7), (6, .int k243_6), (5, .int k234_5), (4, .int k62_4), (0, .ref b_o), (1, .int p_1), (2, .int p_2), (3, .int p_3)]) hx hb dX12_findSoonest_277 hl (by decide +kernel) rfl ?_
                clear hl
                intro ls hl
                refine lv_aload_n hx hb dX12_findSoonest_279 rfl (lv_at hl 5 rfl) ?_
                refine va_get (D := G.1) (ci := 12) (v := .ref b_ld) (C := RX12) (T := TX12) (N := 52) hx hb hts inG_X12 hown hK hP 0 rfl rfl 48 (by decide +kernel) (hts _ fl_X12_101) (fun _ h9 => h9) rfl dX12_findSoonest_280 ?_
                refine lv_bipush (v := 64) hx hb dX12_findSoonest_283 (by decide +kernel) ?_
                refine lv_iload hx hb dX12_findSoonest_285 (lv_at hl 3 rfl) ?_
                refine lv_imul hx hb dX12_findSoonest_287 ?_
                have t_86 : (64 * k234_5).toInt = 64 * k234_5.toInt := g5_imul (a := 64) (b := k234_5.toInt) (by decide +kernel) (by rfl) (by omega) (by omega)
                refine lv_iload hx hb dX12_findSoonest_288 (lv_at hl 2 rfl) ?_
                refine lv_iadd hx hb dX12_findSoonest_290 ?_
                have t_87 : ((64 * k234_5) + k243_6).toInt = (64 * k234_5).toInt + k243_6.toInt := g5_iadd (a := (64 * k234_5).toInt) (b := k243_6.toInt) (by rfl) (by rfl) (by omega) (by omega)
                refine lv_aload_n hx hb dX12_findSoonest_291 rfl (lv_at hl 5 rfl) ?_
                refine va_get (D := G.1) (ci := 12) (v := .ref b_ld) (C := RX12) (T := TX12) (N := 52) hx hb hts inG_X12 hown hK hP 0 rfl rfl 48 (by decide +kernel) (hts _ fl_X12_101) (fun _ h9 => h9) rfl dX12_findSoonest_292 ?_
                refine lv_bipush (v := 64) hx hb dX12_findSoonest_295 (by decide +kernel) ?_
                refine lv_iload hx hb dX12_findSoonest_297 (lv_at hl 3 rfl) ?_
                refine lv_imul hx hb dX12_findSoonest_299 ?_
                have t_88 : (64 * k234_5).toInt = 64 * k234_5.toInt := g5_imul (a := 64) (b := k234_5.toInt) (by decide +kernel) (by rfl) (by omega) (by omega)
                refine lv_iload hx hb dX12_findSoonest_300 (lv_at hl 2 rfl) ?_
                refine lv_iadd hx hb dX12_findSoonest_302 ?_
                have t_89 : ((64 * k234_5) + k243_6).toInt = (64 * k234_5).toInt + k243_6.toInt := g5_iadd (a := (64 * k234_5).toInt) (b := k243_6.toInt) (by rfl) (by rfl) (by omega) (by omega)
                refine va_zald hx hb hK hP 6 2 rfl rfl (i := ((64 * k234_5) + k243_6)) (vp_in_iff.mpr ⟨by omega, by omega⟩) dX12_findSoonest_303 ?_
                refine lv_if_ne (tgt := 356) hx hb dX12_findSoonest_304 (by decide +kernel) (fun c_90 => ?_) (fun c_90 => ?_)
                ·
                  have n_90 : gNe ((k253_ld ((64 * k234_5) + k243_6).toNatClampNeg).toInt) (0) := g5_ne (a := (k253_ld ((64 * k234_5) + k243_6).toNatClampNeg).toInt) (b := 0) rfl (by decide +kernel) c_90
                  refine lv_iconst (v := 1) hx hb dX12_findSoonest_356 (by decide +kernel) ?_
                  refine lv_goto (tgt := 361) hx hb dX12_findSoonest_357 (by decide +kernel) ?_
                  refine va_zast hx hb hK hP hD hS 6 2 rfl rfl (i := ((64 * k234_5) + k243_6)) (x := 1) (vp_in_iff.mpr ⟨by omega, by omega⟩) dX12_findSoonest_361 ?_
                  clear hP hD hS
                  intro H locs hP hD hS
                  refine g5_rs [(b_o, (oc12 u_th u_sa b_rf b_ro b_im b_ke u_fd b_tp u_td u_fr u_to u_so u_wo u_fa u_bd u_nc b_nl u_co b_op b_ar u_le b_pi b_pa u_pd u_od b_ws b_hw k62_la b_se b_re k62_bk k62_va k62_su k62_ce k62_ho k62_wy k62_bt k62_ps b_pt k62_tg k62_sn b_ip u_ic b_ah b_be b_me u_wd b_tr b_ld u_st b_wn u_id)), (b_ro, (arI G 5740 v_ro)), (b_se, (arJ G 13 k62_se)), (b_re, (arJ G 400 k62_re)), (b_pt, (arI G 200 k62_pt)), (b_tr, (arZ G 1536 k62_tr)), (b_ld, (arZ G 1536 (upd k253_ld ((64 * k234_5) + k243_6).toNatClampNeg 1)))] hP hD ?_
                  clear hP hD
                  intro hP hD
                  refine lv_iinc (v := (k253_7 + 1)) (lv' := [(7, .int (k253_7 + 1)), (8, .int z84), (6, .int k243_6), (5, .int k234_5), (4, .int k62_4), (0, .ref b_o), (1, .int p_1), (2, .int p_2), (3, .int p_3)]) hx hb dX12_findSoonest_362 hl (k := 1) rfl rfl (by decide +kernel) rfl ?_
                  clear hl
                  intro ls hl
                  have t_91 : (k253_7 + 1).toInt = k253_7.toInt + 1 := g5_iadd (a := k253_7.toInt) (b := 1) rfl (by decide +kernel) (by omega) (by omega)
                  refine lv_goto (tgt := 253) hx hb dX12_findSoonest_365 (by decide +kernel) ?_
                  exact ih_253_79 ((k253_7 + 1), (upd k253_ld ((64 * k234_5) + k243_6).toNatClampNeg 1)) ls H locs (show Int.toNat (5 - (k253_7 + 1).toInt) < Int.toNat (5 - k253_7.toInt) from g_up (show k253_7.toInt < (k253_7 + 1).toInt by omega) (show k253_7.toInt < 5 by omega)) ⟨lv_sub hl [0, 2, 3, 4, 5, 6, 7, 8] rfl, hP, hD, hS, ⟨by omega, by omega⟩⟩
                ·
                  have i_90 : (k253_ld ((64 * k234_5) + k243_6).toNatClampNeg).toInt = 0 := g5_neN (a := (k253_ld ((64 * k234_5) + k243_6).toNatClampNeg).toInt) (b := 0) rfl (by decide +kernel) c_90
                  refine lv_aload_n hx hb dX12_findSoonest_307 rfl (lv_at hl 5 rfl) ?_
                  refine va_get (D := G.1) (ci := 12) (v := .ref b_tr) (C := RX12) (T := TX12) (N := 52) hx hb hts inG_X12 hown hK hP 0 rfl rfl 47 (by decide +kernel) (hts _ fl_X12_98) (fun _ h9 => h9) rfl dX12_findSoonest_308 ?_
                  refine lv_bipush (v := 64) hx hb dX12_findSoonest_311 (by decide +kernel) ?_
                  refine lv_iload hx hb dX12_findSoonest_313 (lv_at hl 3 rfl) ?_
                  refine lv_imul hx hb dX12_findSoonest_315 ?_
                  have t_92 : (64 * k234_5).toInt = 64 * k234_5.toInt := g5_imul (a := 64) (b := k234_5.toInt) (by decide +kernel) (by rfl) (by omega) (by omega)
                  refine lv_iload hx hb dX12_findSoonest_316 (lv_at hl 2 rfl) ?_
                  refine lv_iadd hx hb dX12_findSoonest_318 ?_
                  have t_93 : ((64 * k234_5) + k243_6).toInt = (64 * k234_5).toInt + k243_6.toInt := g5_iadd (a := (64 * k234_5).toInt) (b := k243_6.toInt) (by rfl) (by rfl) (by omega) (by omega)
                  refine va_zald hx hb hK hP 5 2 rfl rfl (i := ((64 * k234_5) + k243_6)) (vp_in_iff.mpr ⟨by omega, by omega⟩) dX12_findSoonest_319 ?_
                  refine lv_if_eq (tgt := 360) hx hb dX12_findSoonest_320 (by decide +kernel) (fun c_94 => ?_) (fun c_94 => ?_)
                  ·
                    have i_94 : (k62_tr ((64 * k234_5) + k243_6).toNatClampNeg).toInt = 0 := g5_eq (a := (k62_tr ((64 * k234_5) + k243_6).toNatClampNeg).toInt) (b := 0) rfl (by decide +kernel) c_94
                    refine lv_iconst (v := 0) hx hb dX12_findSoonest_360 (by decide +kernel) ?_
                    refine va_zast hx hb hK hP hD hS 6 2 rfl rfl (i := ((64 * k234_5) + k243_6)) (x := 0) (vp_in_iff.mpr ⟨by omega, by omega⟩) dX12_findSoonest_361 ?_
                    clear hP hD hS
                    intro H locs hP hD hS
                    refine g5_rs [(b_o, (oc12 u_th u_sa b_rf b_ro b_im b_ke u_fd b_tp u_td u_fr u_to u_so u_wo u_fa u_bd u_nc b_nl u_co b_op b_ar u_le b_pi b_pa u_pd u_od b_ws b_hw k62_la b_se b_re k62_bk k62_va k62_su k62_ce k62_ho k62_wy k62_bt k62_ps b_pt k62_tg k62_sn b_ip u_ic b_ah b_be b_me u_wd b_tr b_ld u_st b_wn u_id)), (b_ro, (arI G 5740 v_ro)), (b_se, (arJ G 13 k62_se)), (b_re, (arJ G 400 k62_re)), (b_pt, (arI G 200 k62_pt)), (b_tr, (arZ G 1536 k62_tr)), (b_ld, (arZ G 1536 (upd k253_ld ((64 * k234_5) + k243_6).toNatClampNeg 0)))] hP hD ?_
                    clear hP hD
                    intro hP hD
                    refine lv_iinc (v := (k253_7 + 1)) (lv' := [(7, .int (k253_7 + 1)), (8, .int z84), (6, .int k243_6), (5, .int k234_5), (4, .int k62_4), (0, .ref b_o), (1, .int p_1), (2, .int p_2), (3, .int p_3)]) hx hb dX12_findSoonest_362 hl (k := 1) rfl rfl (by decide +kernel) rfl ?_
                    clear hl
                    intro ls hl
                    have t_95 : (k253_7 + 1).toInt = k253_7.toInt + 1 := g5_iadd (a := k253_7.toInt) (b := 1) rfl (by decide +kernel) (by omega) (by omega)
                    refine lv_goto (tgt := 253) hx hb dX12_findSoonest_365 (by decide +kernel) ?_
                    exact ih_253_79 ((k253_7 + 1), (upd k253_ld ((64 * k234_5) + k243_6).toNatClampNeg 0)) ls H locs (show Int.toNat (5 - (k253_7 + 1).toInt) < Int.toNat (5 - k253_7.toInt) from g_up (show k253_7.toInt < (k253_7 + 1).toInt by omega) (show k253_7.toInt < 5 by omega)) ⟨lv_sub hl [0, 2, 3, 4, 5, 6, 7, 8] rfl, hP, hD, hS, ⟨by omega, by omega⟩⟩
                  ·
                    have n_94 : gNe ((k62_tr ((64 * k234_5) + k243_6).toNatClampNeg).toInt) (0) := g5_eqN (a := (k62_tr ((64 * k234_5) + k243_6).toNatClampNeg).toInt) (b := 0) rfl (by decide +kernel) c_94
                    refine lv_iload hx hb dX12_findSoonest_323 (lv_at hl 0 rfl) ?_
                    refine lv_iconst (v := (-1)) hx hb dX12_findSoonest_325 (by decide +kernel) ?_
                    refine lv_icmp_eq (tgt := 360) hx hb dX12_findSoonest_326 (by decide +kernel) (fun c_96 => ?_) (fun c_96 => ?_)
                    ·
                      have i_96 : z84.toInt = (-1) := g5_eq (a := z84.toInt) (b := (-1)) rfl (by decide +kernel) c_96
                      refine lv_iconst (v := 0) hx hb dX12_findSoonest_360 (by decide +kernel) ?_
                      refine va_zast hx hb hK hP hD hS 6 2 rfl rfl (i := ((64 * k234_5) + k243_6)) (x := 0) (vp_in_iff.mpr ⟨by omega, by omega⟩) dX12_findSoonest_361 ?_
                      clear hP hD hS
                      intro H locs hP hD hS
                      refine g5_rs [(b_o, (oc12 u_th u_sa b_rf b_ro b_im b_ke u_fd b_tp u_td u_fr u_to u_so u_wo u_fa u_bd u_nc b_nl u_co b_op b_ar u_le b_pi b_pa u_pd u_od b_ws b_hw k62_la b_se b_re k62_bk k62_va k62_su k62_ce k62_ho k62_wy k62_bt k62_ps b_pt k62_tg k62_sn b_ip u_ic b_ah b_be b_me u_wd b_tr b_ld u_st b_wn u_id)), (b_ro, (arI G 5740 v_ro)), (b_se, (arJ G 13 k62_se)), (b_re, (arJ G 400 k62_re)), (b_pt, (arI G 200 k62_pt)), (b_tr, (arZ G 1536 k62_tr)), (b_ld, (arZ G 1536 (upd k253_ld ((64 * k234_5) + k243_6).toNatClampNeg 0)))] hP hD ?_
                      clear hP hD
                      intro hP hD
                      refine lv_iinc (v := (k253_7 + 1)) (lv' := [(7, .int (k253_7 + 1)), (8, .int z84), (6, .int k243_6), (5, .int k234_5), (4, .int k62_4), (0, .ref b_o), (1, .int p_1), (2, .int p_2), (3, .int p_3)]) hx hb dX12_findSoonest_362 hl (k := 1) rfl rfl (by decide +kernel) rfl ?_
                      clear hl
                      intro ls hl
                      have t_97 : (k253_7 + 1).toInt = k253_7.toInt + 1 := g5_iadd (a := k253_7.toInt) (b := 1) rfl (by decide +kernel) (by omega) (by omega)
                      refine lv_goto (tgt := 253) hx hb dX12_findSoonest_365 (by decide +kernel) ?_
                      exact ih_253_79 ((k253_7 + 1), (upd k253_ld ((64 * k234_5) + k243_6).toNatClampNeg 0)) ls H locs (show Int.toNat (5 - (k253_7 + 1).toInt) < Int.toNat (5 - k253_7.toInt) from g_up (show k253_7.toInt < (k253_7 + 1).toInt by omega) (show k253_7.toInt < 5 by omega)) ⟨lv_sub hl [0, 2, 3, 4, 5, 6, 7, 8] rfl, hP, hD, hS, ⟨by omega, by omega⟩⟩
                    ·
                      have n_96 : gNe (z84.toInt) ((-1)) := g5_eqN (a := z84.toInt) (b := (-1)) rfl (by decide +kernel) c_96
                      have i_96 : z84.toInt ≥ 0 := by have z := g5_eqN (a := z84.toInt) (b := (-1)) (by rfl) (by decide +kernel) c_96; omega
                      refine lv_aload_n hx hb dX12_findSoonest_329 rfl (lv_at hl 5 rfl) ?_
                      refine va_get (D := G.1) (ci := 12) (v := .ref b_ld) (C := RX12) (T := TX12) (N := 52) hx hb hts inG_X12 hown hK hP 0 rfl rfl 48 (by decide +kernel) (hts _ fl_X12_101) (fun _ h9 => h9) rfl dX12_findSoonest_330 ?_
                      refine lv_bipush (v := 64) hx hb dX12_findSoonest_333 (by decide +kernel) ?_
                      refine lv_iload hx hb dX12_findSoonest_335 (lv_at hl 3 rfl) ?_
                      refine lv_iconst (v := 1) hx hb dX12_findSoonest_337 (by decide +kernel) ?_
                      refine lv_iadd hx hb dX12_findSoonest_338 ?_
                      have t_98 : (k234_5 + 1).toInt = k234_5.toInt + 1 := g5_iadd (a := k234_5.toInt) (b := 1) (by rfl) (by decide +kernel) (by omega) (by omega)
                      refine lv_imul hx hb dX12_findSoonest_339 ?_
                      have t_99 : (64 * (k234_5 + 1)).toInt = 64 * (k234_5 + 1).toInt := g5_imul (a := 64) (b := (k234_5 + 1).toInt) (by decide +kernel) (by rfl) (by omega) (by omega)
                      refine lv_iload hx hb dX12_findSoonest_340 (lv_at hl 0 rfl) ?_
                      refine lv_if_ge (tgt := 349) hx hb dX12_findSoonest_342 (by decide +kernel) (fun c_100 => ?_) (fun c_100 => ?_)
                      ·
                        have i_100 : z84.toInt ≥ 0 := g5_ge (a := z84.toInt) (b := 0) rfl (by decide +kernel) c_100
                        refine lv_iload hx hb dX12_findSoonest_349 (lv_at hl 0 rfl) ?_
                        refine lv_iadd hx hb dX12_findSoonest_351 ?_
                        have t_101 : ((64 * (k234_5 + 1)) + z84).toInt = (64 * (k234_5 + 1)).toInt + z84.toInt := g5_iadd (a := (64 * (k234_5 + 1)).toInt) (b := z84.toInt) (by rfl) (by rfl) (by omega) (by omega)
                        refine va_zald hx hb hK hP 6 2 rfl rfl (i := ((64 * (k234_5 + 1)) + z84)) (vp_in_iff.mpr ⟨by omega, by omega⟩) dX12_findSoonest_352 ?_
                        refine lv_if_eq (tgt := 360) hx hb dX12_findSoonest_353 (by decide +kernel) (fun c_102 => ?_) (fun c_102 => ?_)
                        ·
                          have i_102 : (k253_ld ((64 * (k234_5 + 1)) + z84).toNatClampNeg).toInt = 0 := g5_eq (a := (k253_ld ((64 * (k234_5 + 1)) + z84).toNatClampNeg).toInt) (b := 0) rfl (by decide +kernel) c_102
                          refine lv_iconst (v := 0) hx hb dX12_findSoonest_360 (by decide +kernel) ?_
                          refine va_zast hx hb hK hP hD hS 6 2 rfl rfl (i := ((64 * k234_5) + k243_6)) (x := 0) (vp_in_iff.mpr ⟨by omega, by omega⟩) dX12_findSoonest_361 ?_
                          clear hP hD hS
                          intro H locs hP hD hS
                          refine g5_rs [(b_o, (oc12 u_th u_sa b_rf b_ro b_im b_ke u_fd b_tp u_td u_fr u_to u_so u_wo u_fa u_bd u_nc b_nl u_co b_op b_ar u_le b_pi b_pa u_pd u_od b_ws b_hw k62_la b_se b_re k62_bk k62_va k62_su k62_ce k62_ho k62_wy k62_bt k62_ps b_pt k62_tg k62_sn b_ip u_ic b_ah b_be b_me u_wd b_tr b_ld u_st b_wn u_id)), (b_ro, (arI G 5740 v_ro)), (b_se, (arJ G 13 k62_se)), (b_re, (arJ G 400 k62_re)), (b_pt, (arI G 200 k62_pt)), (b_tr, (arZ G 1536 k62_tr)), (b_ld, (arZ G 1536 (upd k253_ld ((64 * k234_5) + k243_6).toNatClampNeg 0)))] hP hD ?_
                          clear hP hD
                          intro hP hD
                          refine lv_iinc (v := (k253_7 + 1)) (lv' := [(7, .int (k253_7 + 1)), (8, .int z84), (6, .int k243_6), (5, .int k234_5), (4, .int k62_4), (0, .ref b_o), (1, .int p_1), (2, .int p_2), (3, .int p_3)]) hx hb dX12_findSoonest_362 hl (k := 1) rfl rfl (by decide +kernel) rfl ?_
                          clear hl
                          intro ls hl
                          have t_103 : (k253_7 + 1).toInt = k253_7.toInt + 1 := g5_iadd (a := k253_7.toInt) (b := 1) rfl (by decide +kernel) (by omega) (by omega)
                          refine lv_goto (tgt := 253) hx hb dX12_findSoonest_365 (by decide +kernel) ?_
                          exact ih_253_79 ((k253_7 + 1), (upd k253_ld ((64 * k234_5) + k243_6).toNatClampNeg 0)) ls H locs (show Int.toNat (5 - (k253_7 + 1).toInt) < Int.toNat (5 - k253_7.toInt) from g_up (show k253_7.toInt < (k253_7 + 1).toInt by omega) (show k253_7.toInt < 5 by omega)) ⟨lv_sub hl [0, 2, 3, 4, 5, 6, 7, 8] rfl, hP, hD, hS, ⟨by omega, by omega⟩⟩
                        ·
                          have n_102 : gNe ((k253_ld ((64 * (k234_5 + 1)) + z84).toNatClampNeg).toInt) (0) := g5_eqN (a := (k253_ld ((64 * (k234_5 + 1)) + z84).toNatClampNeg).toInt) (b := 0) rfl (by decide +kernel) c_102
                          refine lv_iconst (v := 1) hx hb dX12_findSoonest_356 (by decide +kernel) ?_
                          refine lv_goto (tgt := 361) hx hb dX12_findSoonest_357 (by decide +kernel) ?_
                          refine va_zast hx hb hK hP hD hS 6 2 rfl rfl (i := ((64 * k234_5) + k243_6)) (x := 1) (vp_in_iff.mpr ⟨by omega, by omega⟩) dX12_findSoonest_361 ?_
                          clear hP hD hS
                          intro H locs hP hD hS
                          refine g5_rs [(b_o, (oc12 u_th u_sa b_rf b_ro b_im b_ke u_fd b_tp u_td u_fr u_to u_so u_wo u_fa u_bd u_nc b_nl u_co b_op b_ar u_le b_pi b_pa u_pd u_od b_ws b_hw k62_la b_se b_re k62_bk k62_va k62_su k62_ce k62_ho k62_wy k62_bt k62_ps b_pt k62_tg k62_sn b_ip u_ic b_ah b_be b_me u_wd b_tr b_ld u_st b_wn u_id)), (b_ro, (arI G 5740 v_ro)), (b_se, (arJ G 13 k62_se)), (b_re, (arJ G 400 k62_re)), (b_pt, (arI G 200 k62_pt)), (b_tr, (arZ G 1536 k62_tr)), (b_ld, (arZ G 1536 (upd k253_ld ((64 * k234_5) + k243_6).toNatClampNeg 1)))] hP hD ?_
                          clear hP hD
                          intro hP hD
                          refine lv_iinc (v := (k253_7 + 1)) (lv' := [(7, .int (k253_7 + 1)), (8, .int z84), (6, .int k243_6), (5, .int k234_5), (4, .int k62_4), (0, .ref b_o), (1, .int p_1), (2, .int p_2), (3, .int p_3)]) hx hb dX12_findSoonest_362 hl (k := 1) rfl rfl (by decide +kernel) rfl ?_
                          clear hl
                          intro ls hl
                          have t_104 : (k253_7 + 1).toInt = k253_7.toInt + 1 := g5_iadd (a := k253_7.toInt) (b := 1) rfl (by decide +kernel) (by omega) (by omega)
                          refine lv_goto (tgt := 253) hx hb dX12_findSoonest_365 (by decide +kernel) ?_
                          exact ih_253_79 ((k253_7 + 1), (upd k253_ld ((64 * k234_5) + k243_6).toNatClampNeg 1)) ls H locs (show Int.toNat (5 - (k253_7 + 1).toInt) < Int.toNat (5 - k253_7.toInt) from g_up (show k253_7.toInt < (k253_7 + 1).toInt by omega) (show k253_7.toInt < 5 by omega)) ⟨lv_sub hl [0, 2, 3, 4, 5, 6, 7, 8] rfl, hP, hD, hS, ⟨by omega, by omega⟩⟩
                      ·
                        have i_100 : z84.toInt < 0 := g5_geN (a := z84.toInt) (b := 0) rfl (by decide +kernel) c_100
                        omega
              ·
                have i_82 : k253_7.toInt = 4 := g5_neN (a := k253_7.toInt) (b := 4) rfl (by decide +kernel) c_82
                refine lv_iload hx hb dX12_findSoonest_265 (lv_at hl 1 rfl) ?_
                refine lv_goto (tgt := 277) hx hb dX12_findSoonest_267 (by decide +kernel) ?_
                refine lv_istore (lv' := [(8, .int k243_6), (7, .int k253_7), (6, .int k243_6), (5, .int k234_5), (4, .int k62_4), (0, .ref b_o), (1, .int p_1), (2, .int p_2), (3, .int p_3)]) hx hb dX12_findSoonest_277 hl (by decide +kernel) rfl ?_
                clear hl
                intro ls hl
                refine lv_aload_n hx hb dX12_findSoonest_279 rfl (lv_at hl 5 rfl) ?_
                refine va_get (D := G.1) (ci := 12) (v := .ref b_ld) (C := RX12) (T := TX12) (N := 52) hx hb hts inG_X12 hown hK hP 0 rfl rfl 48 (by decide +kernel) (hts _ fl_X12_101) (fun _ h9 => h9) rfl dX12_findSoonest_280 ?_
                refine lv_bipush (v := 64) hx hb dX12_findSoonest_283 (by decide +kernel) ?_
                refine lv_iload hx hb dX12_findSoonest_285 (lv_at hl 3 rfl) ?_
                refine lv_imul hx hb dX12_findSoonest_287 ?_
                have t_105 : (64 * k234_5).toInt = 64 * k234_5.toInt := g5_imul (a := 64) (b := k234_5.toInt) (by decide +kernel) (by rfl) (by omega) (by omega)
                refine lv_iload hx hb dX12_findSoonest_288 (lv_at hl 2 rfl) ?_
                refine lv_iadd hx hb dX12_findSoonest_290 ?_
                have t_106 : ((64 * k234_5) + k243_6).toInt = (64 * k234_5).toInt + k243_6.toInt := g5_iadd (a := (64 * k234_5).toInt) (b := k243_6.toInt) (by rfl) (by rfl) (by omega) (by omega)
                refine lv_aload_n hx hb dX12_findSoonest_291 rfl (lv_at hl 5 rfl) ?_
                refine va_get (D := G.1) (ci := 12) (v := .ref b_ld) (C := RX12) (T := TX12) (N := 52) hx hb hts inG_X12 hown hK hP 0 rfl rfl 48 (by decide +kernel) (hts _ fl_X12_101) (fun _ h9 => h9) rfl dX12_findSoonest_292 ?_
                refine lv_bipush (v := 64) hx hb dX12_findSoonest_295 (by decide +kernel) ?_
                refine lv_iload hx hb dX12_findSoonest_297 (lv_at hl 3 rfl) ?_
                refine lv_imul hx hb dX12_findSoonest_299 ?_
                have t_107 : (64 * k234_5).toInt = 64 * k234_5.toInt := g5_imul (a := 64) (b := k234_5.toInt) (by decide +kernel) (by rfl) (by omega) (by omega)
                refine lv_iload hx hb dX12_findSoonest_300 (lv_at hl 2 rfl) ?_
                refine lv_iadd hx hb dX12_findSoonest_302 ?_
                have t_108 : ((64 * k234_5) + k243_6).toInt = (64 * k234_5).toInt + k243_6.toInt := g5_iadd (a := (64 * k234_5).toInt) (b := k243_6.toInt) (by rfl) (by rfl) (by omega) (by omega)
                refine va_zald hx hb hK hP 6 2 rfl rfl (i := ((64 * k234_5) + k243_6)) (vp_in_iff.mpr ⟨by omega, by omega⟩) dX12_findSoonest_303 ?_
                refine lv_if_ne (tgt := 356) hx hb dX12_findSoonest_304 (by decide +kernel) (fun c_109 => ?_) (fun c_109 => ?_)
                ·
                  have n_109 : gNe ((k253_ld ((64 * k234_5) + k243_6).toNatClampNeg).toInt) (0) := g5_ne (a := (k253_ld ((64 * k234_5) + k243_6).toNatClampNeg).toInt) (b := 0) rfl (by decide +kernel) c_109
                  refine lv_iconst (v := 1) hx hb dX12_findSoonest_356 (by decide +kernel) ?_
                  refine lv_goto (tgt := 361) hx hb dX12_findSoonest_357 (by decide +kernel) ?_
                  refine va_zast hx hb hK hP hD hS 6 2 rfl rfl (i := ((64 * k234_5) + k243_6)) (x := 1) (vp_in_iff.mpr ⟨by omega, by omega⟩) dX12_findSoonest_361 ?_
                  clear hP hD hS
                  intro H locs hP hD hS
                  refine g5_rs [(b_o, (oc12 u_th u_sa b_rf b_ro b_im b_ke u_fd b_tp u_td u_fr u_to u_so u_wo u_fa u_bd u_nc b_nl u_co b_op b_ar u_le b_pi b_pa u_pd u_od b_ws b_hw k62_la b_se b_re k62_bk k62_va k62_su k62_ce k62_ho k62_wy k62_bt k62_ps b_pt k62_tg k62_sn b_ip u_ic b_ah b_be b_me u_wd b_tr b_ld u_st b_wn u_id)), (b_ro, (arI G 5740 v_ro)), (b_se, (arJ G 13 k62_se)), (b_re, (arJ G 400 k62_re)), (b_pt, (arI G 200 k62_pt)), (b_tr, (arZ G 1536 k62_tr)), (b_ld, (arZ G 1536 (upd k253_ld ((64 * k234_5) + k243_6).toNatClampNeg 1)))] hP hD ?_
                  clear hP hD
                  intro hP hD
                  refine lv_iinc (v := (k253_7 + 1)) (lv' := [(7, .int (k253_7 + 1)), (8, .int k243_6), (6, .int k243_6), (5, .int k234_5), (4, .int k62_4), (0, .ref b_o), (1, .int p_1), (2, .int p_2), (3, .int p_3)]) hx hb dX12_findSoonest_362 hl (k := 1) rfl rfl (by decide +kernel) rfl ?_
                  clear hl
                  intro ls hl
                  have t_110 : (k253_7 + 1).toInt = k253_7.toInt + 1 := g5_iadd (a := k253_7.toInt) (b := 1) rfl (by decide +kernel) (by omega) (by omega)
                  refine lv_goto (tgt := 253) hx hb dX12_findSoonest_365 (by decide +kernel) ?_
                  exact ih_253_79 ((k253_7 + 1), (upd k253_ld ((64 * k234_5) + k243_6).toNatClampNeg 1)) ls H locs (show Int.toNat (5 - (k253_7 + 1).toInt) < Int.toNat (5 - k253_7.toInt) from g_up (show k253_7.toInt < (k253_7 + 1).toInt by omega) (show k253_7.toInt < 5 by omega)) ⟨lv_sub hl [0, 2, 3, 4, 5, 6, 7, 8] rfl, hP, hD, hS, ⟨by omega, by omega⟩⟩
                ·
                  have i_109 : (k253_ld ((64 * k234_5) + k243_6).toNatClampNeg).toInt = 0 := g5_neN (a := (k253_ld ((64 * k234_5) + k243_6).toNatClampNeg).toInt) (b := 0) rfl (by decide +kernel) c_109
                  refine lv_aload_n hx hb dX12_findSoonest_307 rfl (lv_at hl 5 rfl) ?_
                  refine va_get (D := G.1) (ci := 12) (v := .ref b_tr) (C := RX12) (T := TX12) (N := 52) hx hb hts inG_X12 hown hK hP 0 rfl rfl 47 (by decide +kernel) (hts _ fl_X12_98) (fun _ h9 => h9) rfl dX12_findSoonest_308 ?_
                  refine lv_bipush (v := 64) hx hb dX12_findSoonest_311 (by decide +kernel) ?_
                  refine lv_iload hx hb dX12_findSoonest_313 (lv_at hl 3 rfl) ?_
                  refine lv_imul hx hb dX12_findSoonest_315 ?_
                  have t_111 : (64 * k234_5).toInt = 64 * k234_5.toInt := g5_imul (a := 64) (b := k234_5.toInt) (by decide +kernel) (by rfl) (by omega) (by omega)
                  refine lv_iload hx hb dX12_findSoonest_316 (lv_at hl 2 rfl) ?_
                  refine lv_iadd hx hb dX12_findSoonest_318 ?_
                  have t_112 : ((64 * k234_5) + k243_6).toInt = (64 * k234_5).toInt + k243_6.toInt := g5_iadd (a := (64 * k234_5).toInt) (b := k243_6.toInt) (by rfl) (by rfl) (by omega) (by omega)
                  refine va_zald hx hb hK hP 5 2 rfl rfl (i := ((64 * k234_5) + k243_6)) (vp_in_iff.mpr ⟨by omega, by omega⟩) dX12_findSoonest_319 ?_
                  refine lv_if_eq (tgt := 360) hx hb dX12_findSoonest_320 (by decide +kernel) (fun c_113 => ?_) (fun c_113 => ?_)
                  ·
                    have i_113 : (k62_tr ((64 * k234_5) + k243_6).toNatClampNeg).toInt = 0 := g5_eq (a := (k62_tr ((64 * k234_5) + k243_6).toNatClampNeg).toInt) (b := 0) rfl (by decide +kernel) c_113
                    refine lv_iconst (v := 0) hx hb dX12_findSoonest_360 (by decide +kernel) ?_
                    refine va_zast hx hb hK hP hD hS 6 2 rfl rfl (i := ((64 * k234_5) + k243_6)) (x := 0) (vp_in_iff.mpr ⟨by omega, by omega⟩) dX12_findSoonest_361 ?_
                    clear hP hD hS
                    intro H locs hP hD hS
                    refine g5_rs [(b_o, (oc12 u_th u_sa b_rf b_ro b_im b_ke u_fd b_tp u_td u_fr u_to u_so u_wo u_fa u_bd u_nc b_nl u_co b_op b_ar u_le b_pi b_pa u_pd u_od b_ws b_hw k62_la b_se b_re k62_bk k62_va k62_su k62_ce k62_ho k62_wy k62_bt k62_ps b_pt k62_tg k62_sn b_ip u_ic b_ah b_be b_me u_wd b_tr b_ld u_st b_wn u_id)), (b_ro, (arI G 5740 v_ro)), (b_se, (arJ G 13 k62_se)), (b_re, (arJ G 400 k62_re)), (b_pt, (arI G 200 k62_pt)), (b_tr, (arZ G 1536 k62_tr)), (b_ld, (arZ G 1536 (upd k253_ld ((64 * k234_5) + k243_6).toNatClampNeg 0)))] hP hD ?_
                    clear hP hD
                    intro hP hD
                    refine lv_iinc (v := (k253_7 + 1)) (lv' := [(7, .int (k253_7 + 1)), (8, .int k243_6), (6, .int k243_6), (5, .int k234_5), (4, .int k62_4), (0, .ref b_o), (1, .int p_1), (2, .int p_2), (3, .int p_3)]) hx hb dX12_findSoonest_362 hl (k := 1) rfl rfl (by decide +kernel) rfl ?_
                    clear hl
                    intro ls hl
                    have t_114 : (k253_7 + 1).toInt = k253_7.toInt + 1 := g5_iadd (a := k253_7.toInt) (b := 1) rfl (by decide +kernel) (by omega) (by omega)
                    refine lv_goto (tgt := 253) hx hb dX12_findSoonest_365 (by decide +kernel) ?_
                    exact ih_253_79 ((k253_7 + 1), (upd k253_ld ((64 * k234_5) + k243_6).toNatClampNeg 0)) ls H locs (show Int.toNat (5 - (k253_7 + 1).toInt) < Int.toNat (5 - k253_7.toInt) from g_up (show k253_7.toInt < (k253_7 + 1).toInt by omega) (show k253_7.toInt < 5 by omega)) ⟨lv_sub hl [0, 2, 3, 4, 5, 6, 7, 8] rfl, hP, hD, hS, ⟨by omega, by omega⟩⟩
                  ·
                    have n_113 : gNe ((k62_tr ((64 * k234_5) + k243_6).toNatClampNeg).toInt) (0) := g5_eqN (a := (k62_tr ((64 * k234_5) + k243_6).toNatClampNeg).toInt) (b := 0) rfl (by decide +kernel) c_113
                    refine lv_iload hx hb dX12_findSoonest_323 (lv_at hl 0 rfl) ?_
                    refine lv_iconst (v := (-1)) hx hb dX12_findSoonest_325 (by decide +kernel) ?_
                    refine lv_icmp_eq (tgt := 360) hx hb dX12_findSoonest_326 (by decide +kernel) (fun c_115 => ?_) (fun c_115 => ?_)
                    ·
                      have i_115 : k243_6.toInt = (-1) := g5_eq (a := k243_6.toInt) (b := (-1)) rfl (by decide +kernel) c_115
                      omega
                    ·
                      have n_115 : gNe (k243_6.toInt) ((-1)) := g5_eqN (a := k243_6.toInt) (b := (-1)) rfl (by decide +kernel) c_115
                      refine lv_aload_n hx hb dX12_findSoonest_329 rfl (lv_at hl 5 rfl) ?_
                      refine va_get (D := G.1) (ci := 12) (v := .ref b_ld) (C := RX12) (T := TX12) (N := 52) hx hb hts inG_X12 hown hK hP 0 rfl rfl 48 (by decide +kernel) (hts _ fl_X12_101) (fun _ h9 => h9) rfl dX12_findSoonest_330 ?_
                      refine lv_bipush (v := 64) hx hb dX12_findSoonest_333 (by decide +kernel) ?_
                      refine lv_iload hx hb dX12_findSoonest_335 (lv_at hl 3 rfl) ?_
                      refine lv_iconst (v := 1) hx hb dX12_findSoonest_337 (by decide +kernel) ?_
                      refine lv_iadd hx hb dX12_findSoonest_338 ?_
                      have t_116 : (k234_5 + 1).toInt = k234_5.toInt + 1 := g5_iadd (a := k234_5.toInt) (b := 1) (by rfl) (by decide +kernel) (by omega) (by omega)
                      refine lv_imul hx hb dX12_findSoonest_339 ?_
                      have t_117 : (64 * (k234_5 + 1)).toInt = 64 * (k234_5 + 1).toInt := g5_imul (a := 64) (b := (k234_5 + 1).toInt) (by decide +kernel) (by rfl) (by omega) (by omega)
                      refine lv_iload hx hb dX12_findSoonest_340 (lv_at hl 0 rfl) ?_
                      refine lv_if_ge (tgt := 349) hx hb dX12_findSoonest_342 (by decide +kernel) (fun c_118 => ?_) (fun c_118 => ?_)
                      ·
                        have i_118 : k243_6.toInt ≥ 0 := g5_ge (a := k243_6.toInt) (b := 0) rfl (by decide +kernel) c_118
                        refine lv_iload hx hb dX12_findSoonest_349 (lv_at hl 0 rfl) ?_
                        refine lv_iadd hx hb dX12_findSoonest_351 ?_
                        have t_119 : ((64 * (k234_5 + 1)) + k243_6).toInt = (64 * (k234_5 + 1)).toInt + k243_6.toInt := g5_iadd (a := (64 * (k234_5 + 1)).toInt) (b := k243_6.toInt) (by rfl) (by rfl) (by omega) (by omega)
                        refine va_zald hx hb hK hP 6 2 rfl rfl (i := ((64 * (k234_5 + 1)) + k243_6)) (vp_in_iff.mpr ⟨by omega, by omega⟩) dX12_findSoonest_352 ?_
                        refine lv_if_eq (tgt := 360) hx hb dX12_findSoonest_353 (by decide +kernel) (fun c_120 => ?_) (fun c_120 => ?_)
                        ·
                          have i_120 : (k253_ld ((64 * (k234_5 + 1)) + k243_6).toNatClampNeg).toInt = 0 := g5_eq (a := (k253_ld ((64 * (k234_5 + 1)) + k243_6).toNatClampNeg).toInt) (b := 0) rfl (by decide +kernel) c_120
                          refine lv_iconst (v := 0) hx hb dX12_findSoonest_360 (by decide +kernel) ?_
                          refine va_zast hx hb hK hP hD hS 6 2 rfl rfl (i := ((64 * k234_5) + k243_6)) (x := 0) (vp_in_iff.mpr ⟨by omega, by omega⟩) dX12_findSoonest_361 ?_
                          clear hP hD hS
                          intro H locs hP hD hS
                          refine g5_rs [(b_o, (oc12 u_th u_sa b_rf b_ro b_im b_ke u_fd b_tp u_td u_fr u_to u_so u_wo u_fa u_bd u_nc b_nl u_co b_op b_ar u_le b_pi b_pa u_pd u_od b_ws b_hw k62_la b_se b_re k62_bk k62_va k62_su k62_ce k62_ho k62_wy k62_bt k62_ps b_pt k62_tg k62_sn b_ip u_ic b_ah b_be b_me u_wd b_tr b_ld u_st b_wn u_id)), (b_ro, (arI G 5740 v_ro)), (b_se, (arJ G 13 k62_se)), (b_re, (arJ G 400 k62_re)), (b_pt, (arI G 200 k62_pt)), (b_tr, (arZ G 1536 k62_tr)), (b_ld, (arZ G 1536 (upd k253_ld ((64 * k234_5) + k243_6).toNatClampNeg 0)))] hP hD ?_
                          clear hP hD
                          intro hP hD
                          refine lv_iinc (v := (k253_7 + 1)) (lv' := [(7, .int (k253_7 + 1)), (8, .int k243_6), (6, .int k243_6), (5, .int k234_5), (4, .int k62_4), (0, .ref b_o), (1, .int p_1), (2, .int p_2), (3, .int p_3)]) hx hb dX12_findSoonest_362 hl (k := 1) rfl rfl (by decide +kernel) rfl ?_
                          clear hl
                          intro ls hl
                          have t_121 : (k253_7 + 1).toInt = k253_7.toInt + 1 := g5_iadd (a := k253_7.toInt) (b := 1) rfl (by decide +kernel) (by omega) (by omega)
                          refine lv_goto (tgt := 253) hx hb dX12_findSoonest_365 (by decide +kernel) ?_
                          exact ih_253_79 ((k253_7 + 1), (upd k253_ld ((64 * k234_5) + k243_6).toNatClampNeg 0)) ls H locs (show Int.toNat (5 - (k253_7 + 1).toInt) < Int.toNat (5 - k253_7.toInt) from g_up (show k253_7.toInt < (k253_7 + 1).toInt by omega) (show k253_7.toInt < 5 by omega)) ⟨lv_sub hl [0, 2, 3, 4, 5, 6, 7, 8] rfl, hP, hD, hS, ⟨by omega, by omega⟩⟩
                        ·
                          have n_120 : gNe ((k253_ld ((64 * (k234_5 + 1)) + k243_6).toNatClampNeg).toInt) (0) := g5_eqN (a := (k253_ld ((64 * (k234_5 + 1)) + k243_6).toNatClampNeg).toInt) (b := 0) rfl (by decide +kernel) c_120
                          refine lv_iconst (v := 1) hx hb dX12_findSoonest_356 (by decide +kernel) ?_
                          refine lv_goto (tgt := 361) hx hb dX12_findSoonest_357 (by decide +kernel) ?_
                          refine va_zast hx hb hK hP hD hS 6 2 rfl rfl (i := ((64 * k234_5) + k243_6)) (x := 1) (vp_in_iff.mpr ⟨by omega, by omega⟩) dX12_findSoonest_361 ?_
                          clear hP hD hS
                          intro H locs hP hD hS
                          refine g5_rs [(b_o, (oc12 u_th u_sa b_rf b_ro b_im b_ke u_fd b_tp u_td u_fr u_to u_so u_wo u_fa u_bd u_nc b_nl u_co b_op b_ar u_le b_pi b_pa u_pd u_od b_ws b_hw k62_la b_se b_re k62_bk k62_va k62_su k62_ce k62_ho k62_wy k62_bt k62_ps b_pt k62_tg k62_sn b_ip u_ic b_ah b_be b_me u_wd b_tr b_ld u_st b_wn u_id)), (b_ro, (arI G 5740 v_ro)), (b_se, (arJ G 13 k62_se)), (b_re, (arJ G 400 k62_re)), (b_pt, (arI G 200 k62_pt)), (b_tr, (arZ G 1536 k62_tr)), (b_ld, (arZ G 1536 (upd k253_ld ((64 * k234_5) + k243_6).toNatClampNeg 1)))] hP hD ?_
                          clear hP hD
                          intro hP hD
                          refine lv_iinc (v := (k253_7 + 1)) (lv' := [(7, .int (k253_7 + 1)), (8, .int k243_6), (6, .int k243_6), (5, .int k234_5), (4, .int k62_4), (0, .ref b_o), (1, .int p_1), (2, .int p_2), (3, .int p_3)]) hx hb dX12_findSoonest_362 hl (k := 1) rfl rfl (by decide +kernel) rfl ?_
                          clear hl
                          intro ls hl
                          have t_122 : (k253_7 + 1).toInt = k253_7.toInt + 1 := g5_iadd (a := k253_7.toInt) (b := 1) rfl (by decide +kernel) (by omega) (by omega)
                          refine lv_goto (tgt := 253) hx hb dX12_findSoonest_365 (by decide +kernel) ?_
                          exact ih_253_79 ((k253_7 + 1), (upd k253_ld ((64 * k234_5) + k243_6).toNatClampNeg 1)) ls H locs (show Int.toNat (5 - (k253_7 + 1).toInt) < Int.toNat (5 - k253_7.toInt) from g_up (show k253_7.toInt < (k253_7 + 1).toInt by omega) (show k253_7.toInt < 5 by omega)) ⟨lv_sub hl [0, 2, 3, 4, 5, 6, 7, 8] rfl, hP, hD, hS, ⟨by omega, by omega⟩⟩
                      ·
                        have i_118 : k243_6.toInt < 0 := g5_geN (a := k243_6.toInt) (b := 0) rfl (by decide +kernel) c_118
                        omega
      ·
        have i_69 : k62_4.toInt = (-1) := g5_neN (a := k62_4.toInt) (b := (-1)) rfl (by decide +kernel) c_69
        refine lv_iconst (v := 0) hx hb dX12_findSoonest_75 (by decide +kernel) ?_
        refine lv_istore (lv' := [(6, .int 0), (4, .int k62_4), (5, .int k62_5), (0, .ref b_o), (1, .int p_1), (2, .int p_2), (3, .int p_3)]) hx hb dX12_findSoonest_76 hl (by decide +kernel) rfl ?_
        clear hl
        intro ls hl
        refine g5_loop (α := (Int32) × (Int32) × (Int32) × (Int32) × (Int64) × (Int64) × (Int32) × (Int32) × (Int32) × (Int32) × (Int32) × (Int32) × (Int32) × (Nat → Int64) × (Nat → Int64) × (Nat → Int32) × (Nat → Int32) × (Nat → Int32)) (fun (q : (Int32) × (Int32) × (Int32) × (Int32) × (Int64) × (Int64) × (Int32) × (Int32) × (Int32) × (Int32) × (Int32) × (Int32) × (Int32) × (Nat → Int64) × (Nat → Int64) × (Nat → Int32) × (Nat → Int32) × (Nat → Int32)) (ls : Array Slot) (H : Heap) (locs : List Loc) => match q with | (k78_6, k78_4, k78_la, k78_bk, k78_va, k78_su, k78_ce, k78_ho, k78_wy, k78_bt, k78_ps, k78_tg, k78_sn, k78_se, k78_re, k78_pt, k78_tr, k78_ld) => lv_has ls 9 [(4, .int k78_4), (6, .int k78_6), (5, .int k62_5), (0, .ref b_o), (1, .int p_1), (2, .int p_2), (3, .int p_3)] ∧ va_P G.1 vwCl [(b_o, (oc12 u_th u_sa b_rf b_ro b_im b_ke u_fd b_tp u_td u_fr u_to u_so u_wo u_fa u_bd u_nc b_nl u_co b_op b_ar u_le b_pi b_pa u_pd u_od b_ws b_hw k78_la b_se b_re k78_bk k78_va k78_su k78_ce k78_ho k78_wy k78_bt k78_ps b_pt k78_tg k78_sn b_ip u_ic b_ah b_be b_me u_wd b_tr b_ld u_st b_wn u_id)), (b_ro, (arI G 5740 v_ro)), (b_se, (arJ G 13 k78_se)), (b_re, (arJ G 400 k78_re)), (b_pt, (arI G 200 k78_pt)), (b_tr, (arZ G 1536 k78_tr)), (b_ld, (arZ G 1536 k78_ld))] H ∧ va_D A [(b_o, (oc12 u_th u_sa b_rf b_ro b_im b_ke u_fd b_tp u_td u_fr u_to u_so u_wo u_fa u_bd u_nc b_nl u_co b_op b_ar u_le b_pi b_pa u_pd u_od b_ws b_hw k78_la b_se b_re k78_bk k78_va k78_su k78_ce k78_ho k78_wy k78_bt k78_ps b_pt k78_tg k78_sn b_ip u_ic b_ah b_be b_me u_wd b_tr b_ld u_st b_wn u_id)), (b_ro, (arI G 5740 v_ro)), (b_se, (arJ G 13 k78_se)), (b_re, (arJ G 400 k78_re)), (b_pt, (arI G 200 k78_pt)), (b_tr, (arZ G 1536 k78_tr)), (b_ld, (arZ G 1536 k78_ld))] ∧ va_S A s.heap H locs ∧ (0 ≤ k78_6.toInt ∧ k78_6.toInt ≤ 64) ∧ ((-1) ≤ k78_4.toInt ∧ k78_4.toInt ≤ 23) ∧ (0 ≤ k78_la.toInt ∧ k78_la.toInt ≤ 4840) ∧ (0 ≤ k78_bk.toInt ∧ k78_bk.toInt ≤ 1) ∧ (0 ≤ k78_ce.toInt ∧ k78_ce.toInt ≤ 63) ∧ (0 ≤ k78_ho.toInt ∧ k78_ho.toInt ≤ 23) ∧ (0 ≤ k78_wy.toInt ∧ k78_wy.toInt ≤ 3) ∧ (0 ≤ k78_bt.toInt ∧ k78_bt.toInt ≤ 1000000) ∧ (0 ≤ k78_ps.toInt ∧ k78_ps.toInt ≤ 200) ∧ (PTI k78_pt)) (fun (q : (Int32) × (Int32) × (Int32) × (Int32) × (Int64) × (Int64) × (Int32) × (Int32) × (Int32) × (Int32) × (Int32) × (Int32) × (Int32) × (Nat → Int64) × (Nat → Int64) × (Nat → Int32) × (Nat → Int32) × (Nat → Int32)) => match q with | (k78_6, k78_4, k78_la, k78_bk, k78_va, k78_su, k78_ce, k78_ho, k78_wy, k78_bt, k78_ps, k78_tg, k78_sn, k78_se, k78_re, k78_pt, k78_tr, k78_ld) => Int.toNat (64 - k78_6.toInt)) (0, k62_4, k62_la, k62_bk, k62_va, k62_su, k62_ce, k62_ho, k62_wy, k62_bt, k62_ps, k62_tg, k62_sn, k62_se, k62_re, k62_pt, k62_tr, k62_ld) ⟨lv_sub hl [1, 0, 2, 3, 4, 5, 6] rfl, hP, hD, hS, ⟨by decide, by decide⟩, i_5, i_6, i_7, i_8, i_9, i_10, i_11, i_12, i_13⟩ ?_
        rintro ⟨k78_6, k78_4, k78_la, k78_bk, k78_va, k78_su, k78_ce, k78_ho, k78_wy, k78_bt, k78_ps, k78_tg, k78_sn, k78_se, k78_re, k78_pt, k78_tr, k78_ld⟩ ls H locs ⟨hl, hP, hD, hS, (i_123 : 0 ≤ k78_6.toInt ∧ k78_6.toInt ≤ 64), (i_124 : (-1) ≤ k78_4.toInt ∧ k78_4.toInt ≤ 23), (i_125 : 0 ≤ k78_la.toInt ∧ k78_la.toInt ≤ 4840), (i_126 : 0 ≤ k78_bk.toInt ∧ k78_bk.toInt ≤ 1), (i_127 : 0 ≤ k78_ce.toInt ∧ k78_ce.toInt ≤ 63), (i_128 : 0 ≤ k78_ho.toInt ∧ k78_ho.toInt ≤ 23), (i_129 : 0 ≤ k78_wy.toInt ∧ k78_wy.toInt ≤ 3), (i_130 : 0 ≤ k78_bt.toInt ∧ k78_bt.toInt ≤ 1000000), (i_131 : 0 ≤ k78_ps.toInt ∧ k78_ps.toInt ≤ 200), (i_132 : PTI k78_pt)⟩ ih_78_133
        replace hl : lv_has ls 9 [(4, .int k78_4), (6, .int k78_6), (5, .int k62_5), (0, .ref b_o), (1, .int p_1), (2, .int p_2), (3, .int p_3)] := hl
        refine g5_rs [(b_o, (oc12 u_th u_sa b_rf b_ro b_im b_ke u_fd b_tp u_td u_fr u_to u_so u_wo u_fa u_bd u_nc b_nl u_co b_op b_ar u_le b_pi b_pa u_pd u_od b_ws b_hw k78_la b_se b_re k78_bk k78_va k78_su k78_ce k78_ho k78_wy k78_bt k78_ps b_pt k78_tg k78_sn b_ip u_ic b_ah b_be b_me u_wd b_tr b_ld u_st b_wn u_id)), (b_ro, (arI G 5740 v_ro)), (b_se, (arJ G 13 k78_se)), (b_re, (arJ G 400 k78_re)), (b_pt, (arI G 200 k78_pt)), (b_tr, (arZ G 1536 k78_tr)), (b_ld, (arZ G 1536 k78_ld))] hP hD ?_
        clear hP hD
        intro hP hD
        refine lv_iload hx hb dX12_findSoonest_78 (lv_at hl 1 rfl) ?_
        refine lv_bipush (v := 64) hx hb dX12_findSoonest_80 (by decide +kernel) ?_
        refine lv_icmp_ge (tgt := 222) hx hb dX12_findSoonest_82 (by decide +kernel) (fun c_134 => ?_) (fun c_134 => ?_)
        ·
          have i_134 : k78_6.toInt ≥ 64 := g5_ge (a := k78_6.toInt) (b := 64) rfl (by decide +kernel) c_134
          refine lv_iinc (v := (k62_5 + 1)) (lv' := [(5, .int (k62_5 + 1)), (4, .int k78_4), (6, .int k78_6), (0, .ref b_o), (1, .int p_1), (2, .int p_2), (3, .int p_3)]) hx hb dX12_findSoonest_222 hl (k := 2) rfl rfl (by decide +kernel) rfl ?_
          clear hl
          intro ls hl
          have t_135 : (k62_5 + 1).toInt = k62_5.toInt + 1 := g5_iadd (a := k62_5.toInt) (b := 1) rfl (by decide +kernel) (by omega) (by omega)
          refine lv_goto (tgt := 62) hx hb dX12_findSoonest_225 (by decide +kernel) ?_
          exact ih_62_14 ((k62_5 + 1), k78_4, k78_la, k78_bk, k78_va, k78_su, k78_ce, k78_ho, k78_wy, k78_bt, k78_ps, k78_tg, k78_sn, k78_se, k78_re, k78_pt, k78_tr, k78_ld) ls H locs (show Int.toNat (24 - (k62_5 + 1).toInt) < Int.toNat (24 - k62_5.toInt) from g_up (show k62_5.toInt < (k62_5 + 1).toInt by omega) (show k62_5.toInt < 24 by omega)) ⟨lv_sub hl [1, 0, 3, 4, 5, 6] rfl, hP, hD, hS, ⟨by omega, by omega⟩, i_124, i_125, i_126, i_127, i_128, i_129, i_130, i_131, i_132⟩
        ·
          have i_134 : k78_6.toInt < 64 := g5_geN (a := k78_6.toInt) (b := 64) rfl (by decide +kernel) c_134
          refine lv_aload_n hx hb dX12_findSoonest_85 rfl (lv_at hl 3 rfl) ?_
          refine va_get (D := G.1) (ci := 12) (v := .ref b_tr) (C := RX12) (T := TX12) (N := 52) hx hb hts inG_X12 hown hK hP 0 rfl rfl 47 (by decide +kernel) (hts _ fl_X12_98) (fun _ h9 => h9) rfl dX12_findSoonest_86 ?_
          refine lv_bipush (v := 64) hx hb dX12_findSoonest_89 (by decide +kernel) ?_
          refine lv_iload hx hb dX12_findSoonest_91 (lv_at hl 2 rfl) ?_
          refine lv_imul hx hb dX12_findSoonest_93 ?_
          have t_136 : (64 * k62_5).toInt = 64 * k62_5.toInt := g5_imul (a := 64) (b := k62_5.toInt) (by decide +kernel) (by rfl) (by omega) (by omega)
          refine lv_iload hx hb dX12_findSoonest_94 (lv_at hl 1 rfl) ?_
          refine lv_iadd hx hb dX12_findSoonest_96 ?_
          have t_137 : ((64 * k62_5) + k78_6).toInt = (64 * k62_5).toInt + k78_6.toInt := g5_iadd (a := (64 * k62_5).toInt) (b := k78_6.toInt) (by rfl) (by rfl) (by omega) (by omega)
          refine va_zald hx hb hK hP 5 2 rfl rfl (i := ((64 * k62_5) + k78_6)) (vp_in_iff.mpr ⟨by omega, by omega⟩) dX12_findSoonest_97 ?_
          refine lv_if_eq (tgt := 216) hx hb dX12_findSoonest_98 (by decide +kernel) (fun c_138 => ?_) (fun c_138 => ?_)
          ·
            have i_138 : (k78_tr ((64 * k62_5) + k78_6).toNatClampNeg).toInt = 0 := g5_eq (a := (k78_tr ((64 * k62_5) + k78_6).toNatClampNeg).toInt) (b := 0) rfl (by decide +kernel) c_138
            refine lv_iinc (v := (k78_6 + 1)) (lv' := [(6, .int (k78_6 + 1)), (4, .int k78_4), (5, .int k62_5), (0, .ref b_o), (1, .int p_1), (2, .int p_2), (3, .int p_3)]) hx hb dX12_findSoonest_216 hl (k := 1) rfl rfl (by decide +kernel) rfl ?_
            clear hl
            intro ls hl
            have t_139 : (k78_6 + 1).toInt = k78_6.toInt + 1 := g5_iadd (a := k78_6.toInt) (b := 1) rfl (by decide +kernel) (by omega) (by omega)
            refine lv_goto (tgt := 78) hx hb dX12_findSoonest_219 (by decide +kernel) ?_
            exact ih_78_133 ((k78_6 + 1), k78_4, k78_la, k78_bk, k78_va, k78_su, k78_ce, k78_ho, k78_wy, k78_bt, k78_ps, k78_tg, k78_sn, k78_se, k78_re, k78_pt, k78_tr, k78_ld) ls H locs (show Int.toNat (64 - (k78_6 + 1).toInt) < Int.toNat (64 - k78_6.toInt) from g_up (show k78_6.toInt < (k78_6 + 1).toInt by omega) (show k78_6.toInt < 64 by omega)) ⟨lv_sub hl [1, 0, 2, 3, 4, 5, 6] rfl, hP, hD, hS, ⟨by omega, by omega⟩, i_124, i_125, i_126, i_127, i_128, i_129, i_130, i_131, i_132⟩
          ·
            have n_138 : gNe ((k78_tr ((64 * k62_5) + k78_6).toNatClampNeg).toInt) (0) := g5_eqN (a := (k78_tr ((64 * k62_5) + k78_6).toNatClampNeg).toInt) (b := 0) rfl (by decide +kernel) c_138
            refine lv_aload_n hx hb dX12_findSoonest_101 rfl (lv_at hl 3 rfl) ?_
            refine lv_iload hx hb dX12_findSoonest_102 (lv_at hl 1 rfl) ?_
            refine lv_iload hx hb dX12_findSoonest_104 (lv_at hl 2 rfl) ?_
            obtain ⟨hPc, hDc, hFc⟩ := g5_sub3 (wc := [(b_o, (oc12 u_th u_sa b_rf b_ro b_im b_ke u_fd b_tp u_td u_fr u_to u_so u_wo u_fa u_bd u_nc b_nl u_co b_op b_ar u_le b_pi b_pa u_pd u_od b_ws b_hw k78_la b_se b_re k78_bk k78_va k78_su k78_ce k78_ho k78_wy k78_bt k78_ps b_pt k78_tg k78_sn b_ip u_ic b_ah b_be b_me u_wd b_tr b_ld u_st b_wn u_id)), (b_ro, (arI G 5740 v_ro)), (b_se, (arJ G 13 k78_se)), (b_re, (arJ G 400 k78_re)), (b_pt, (arI G 200 k78_pt))]) hP hD hS hA [0, 1, 2, 3, 4] (by decide +kernel) rfl
            refine va_calli (va_runV (As := [.int k78_6, .int k62_5]) (rest := []) ⟨hx, hb, hml, hown, hts⟩ (n_seenFrom l G b_o b_ro b_se b_re b_pt b_rf b_im b_ke b_tp b_nl b_op b_ar b_pi b_pa b_ws b_hw b_ip b_ah b_be b_me b_tr b_ld b_wn H.size u_th u_sa u_fd u_td u_fr u_to u_so u_fa u_bd u_nc u_co u_le u_pd u_od k78_la k78_bk k78_ce k78_ho k78_wy k78_bt k78_ps k78_tg k78_sn u_ic u_wd u_id k78_6 k62_5 u_wo k78_va k78_su u_st v_ro k78_se k78_re k78_pt h_u_td h_u_fr h_u_to h_u_bd h_u_nc h_u_co h_u_pd i_125 i_126 i_127 i_128 i_129 i_130 i_131 h_u_ic h_u_id ⟨by omega, by omega⟩ ⟨by omega, by omega⟩ (r_ro) (i_132)) (cwV 2 hts gV_X12_404 rfl rfl rfl hv_X12_seenFrom ⟨Nat.le_of_ble_eq_true rfl, Nat.le_of_ble_eq_true rfl⟩) (g5_preV hPc hK hDc hN hT hS hFc (ci := 12) (q0 := 0) rfl rfl) rfl rfl hl.1 rfl (lv_room (Nat.le_of_ble_eq_true rfl)) dX12_findSoonest_106 ⟨Nat.le_of_ble_eq_true rfl, Nat.le_of_ble_eq_true rfl⟩) hS (fun q _ h => hFc q h) hFc (fun r u t H locs ht hvm hw hB hz1 hk1 hS => ?_)
            obtain ⟨hP1, hD1⟩ := hB
            have hP1 := g5_ht ht hP1
            obtain ⟨z148, z149, z150, z151, z152, z153, z154, z155, z156, z157, z158, z159, z160, z161, z162, (i_140 : 0 ≤ z149.toInt ∧ z149.toInt ≤ 4840), (i_141 : 0 ≤ z150.toInt ∧ z150.toInt ≤ 1), (i_142 : 0 ≤ z153.toInt ∧ z153.toInt ≤ 63), (i_143 : 0 ≤ z154.toInt ∧ z154.toInt ≤ 23), (i_144 : 0 ≤ z155.toInt ∧ z155.toInt ≤ 3), (i_145 : 0 ≤ z156.toInt ∧ z156.toInt ≤ 1000000), (i_146 : 0 ≤ z157.toInt ∧ z157.toInt ≤ 200), (i_147 : PTI z162), y163, rfl⟩ := hw
            have hJ9 := va_join (wr := [(b_tr, (arZ G 1536 k78_tr)), (b_ld, (arZ G 1536 k78_ld))]) hP hD [0, 1, 2, 3, 4] [5, 6] rfl rfl (by decide +kernel) (by decide +kernel) hk1 hFc hP1 hD1
            clear hP hD hPc hDc hFc ht hvm hz1 hk1 hP1 hD1
            obtain ⟨hP, hD⟩ := hJ9
            refine g5_rs [(b_tr, (arZ G 1536 k78_tr)), (b_ld, (arZ G 1536 k78_ld)), (b_o, (oc12 u_th u_sa b_rf b_ro b_im b_ke u_fd b_tp u_td u_fr u_to u_so u_wo u_fa u_bd u_nc b_nl u_co b_op b_ar u_le b_pi b_pa u_pd u_od b_ws b_hw z149 b_se b_re z150 z151 z152 z153 z154 z155 z156 z157 b_pt z158 z159 b_ip u_ic b_ah b_be b_me u_wd b_tr b_ld u_st b_wn u_id)), (b_ro, (arI G 5740 v_ro)), (b_se, (arJ G 13 z160)), (b_re, (arJ G 400 z161)), (b_pt, (arI G 200 z162))] hP hD ?_
            clear hP hD
            intro hP hD
            refine g5_ti (v := z148) y163 ?_
            refine lv_iload_n hx hb dX12_findSoonest_109 rfl (lv_at hl 4 rfl) ?_
            obtain ⟨hPc, hDc, hFc⟩ := g5_sub3 (wc := []) hP hD hS hA [] (by decide +kernel) rfl
            refine va_calli (va_runS (As := [.int z148, .int p_1]) (rest := []) ⟨hx, hb, hml, hown, hts⟩ (n_is l G H.size z148 p_1) (va_cwS 2 hts gS_X12_387 rfl rfl rfl hs_X12_is ⟨Nat.le_of_ble_eq_true rfl, Nat.le_of_ble_eq_true rfl⟩) (g5_preS hPc hK hDc hN hT hS hFc) rfl rfl hl.1 rfl (lv_room (Nat.le_of_ble_eq_true rfl)) dX12_findSoonest_110 ⟨Nat.le_of_ble_eq_true rfl, Nat.le_of_ble_eq_true rfl⟩) hS (fun q _ h => hFc q h) hFc (fun r u t H locs ht hvm hw hB hz1 hk1 hS => ?_)
            obtain ⟨hP1, hD1⟩ := hB
            have hP1 := g5_ht ht hP1
            obtain ⟨z165, (i_164 : 0 ≤ z165.toInt ∧ z165.toInt ≤ 1), y166, rfl⟩ := hw
            have hJ9 := g5_same hP hk1
            clear hP hPc hDc hFc ht hvm hz1 hk1 hP1 hD1
            have hP := hJ9
            clear hJ9
            refine g5_ti (v := z165) y166 ?_
            refine lv_if_eq (tgt := 134) hx hb dX12_findSoonest_113 (by decide +kernel) (fun c_167 => ?_) (fun c_167 => ?_)
            ·
              have i_167 : z165.toInt = 0 := g5_eq (a := z165.toInt) (b := 0) rfl (by decide +kernel) c_167
              refine lv_iconst (v := 0) hx hb dX12_findSoonest_134 (by decide +kernel) ?_
              refine lv_istore (lv' := [(7, .int 0), (4, .int k78_4), (6, .int k78_6), (5, .int k62_5), (0, .ref b_o), (1, .int p_1), (2, .int p_2), (3, .int p_3)]) hx hb dX12_findSoonest_135 hl (by decide +kernel) rfl ?_
              clear hl
              intro ls hl
              refine g5_loop (α := (Int32) × (Nat → Int32)) (fun (q : (Int32) × (Nat → Int32)) (ls : Array Slot) (H : Heap) (locs : List Loc) => match q with | (k137_7, k137_tr) => lv_has ls 9 [(7, .int k137_7), (4, .int k78_4), (6, .int k78_6), (5, .int k62_5), (0, .ref b_o), (1, .int p_1), (2, .int p_2), (3, .int p_3)] ∧ va_P G.1 vwCl [(b_tr, (arZ G 1536 k137_tr)), (b_ld, (arZ G 1536 k78_ld)), (b_o, (oc12 u_th u_sa b_rf b_ro b_im b_ke u_fd b_tp u_td u_fr u_to u_so u_wo u_fa u_bd u_nc b_nl u_co b_op b_ar u_le b_pi b_pa u_pd u_od b_ws b_hw z149 b_se b_re z150 z151 z152 z153 z154 z155 z156 z157 b_pt z158 z159 b_ip u_ic b_ah b_be b_me u_wd b_tr b_ld u_st b_wn u_id)), (b_ro, (arI G 5740 v_ro)), (b_se, (arJ G 13 z160)), (b_re, (arJ G 400 z161)), (b_pt, (arI G 200 z162))] H ∧ va_D A [(b_tr, (arZ G 1536 k137_tr)), (b_ld, (arZ G 1536 k78_ld)), (b_o, (oc12 u_th u_sa b_rf b_ro b_im b_ke u_fd b_tp u_td u_fr u_to u_so u_wo u_fa u_bd u_nc b_nl u_co b_op b_ar u_le b_pi b_pa u_pd u_od b_ws b_hw z149 b_se b_re z150 z151 z152 z153 z154 z155 z156 z157 b_pt z158 z159 b_ip u_ic b_ah b_be b_me u_wd b_tr b_ld u_st b_wn u_id)), (b_ro, (arI G 5740 v_ro)), (b_se, (arJ G 13 z160)), (b_re, (arJ G 400 z161)), (b_pt, (arI G 200 z162))] ∧ va_S A s.heap H locs ∧ (0 ≤ k137_7.toInt ∧ k137_7.toInt ≤ 5)) (fun (q : (Int32) × (Nat → Int32)) => match q with | (k137_7, k137_tr) => Int.toNat (5 - k137_7.toInt)) (0, k78_tr) ⟨lv_sub hl [0, 1, 2, 3, 4, 5, 6, 7] rfl, hP, hD, hS, ⟨by decide, by decide⟩⟩ ?_
              rintro ⟨k137_7, k137_tr⟩ ls H locs ⟨hl, hP, hD, hS, (i_168 : 0 ≤ k137_7.toInt ∧ k137_7.toInt ≤ 5)⟩ ih_137_169
              replace hl : lv_has ls 9 [(7, .int k137_7), (4, .int k78_4), (6, .int k78_6), (5, .int k62_5), (0, .ref b_o), (1, .int p_1), (2, .int p_2), (3, .int p_3)] := hl
              refine g5_rs [(b_tr, (arZ G 1536 k137_tr)), (b_ld, (arZ G 1536 k78_ld)), (b_o, (oc12 u_th u_sa b_rf b_ro b_im b_ke u_fd b_tp u_td u_fr u_to u_so u_wo u_fa u_bd u_nc b_nl u_co b_op b_ar u_le b_pi b_pa u_pd u_od b_ws b_hw z149 b_se b_re z150 z151 z152 z153 z154 z155 z156 z157 b_pt z158 z159 b_ip u_ic b_ah b_be b_me u_wd b_tr b_ld u_st b_wn u_id)), (b_ro, (arI G 5740 v_ro)), (b_se, (arJ G 13 z160)), (b_re, (arJ G 400 z161)), (b_pt, (arI G 200 z162))] hP hD ?_
              clear hP hD
              intro hP hD
              refine lv_iload hx hb dX12_findSoonest_137 (lv_at hl 0 rfl) ?_
              refine lv_iconst (v := 5) hx hb dX12_findSoonest_139 (by decide +kernel) ?_
              refine lv_icmp_ge (tgt := 216) hx hb dX12_findSoonest_140 (by decide +kernel) (fun c_170 => ?_) (fun c_170 => ?_)
              ·
                have i_170 : k137_7.toInt ≥ 5 := g5_ge (a := k137_7.toInt) (b := 5) rfl (by decide +kernel) c_170
                refine lv_iinc (v := (k78_6 + 1)) (lv' := [(6, .int (k78_6 + 1)), (7, .int k137_7), (4, .int k78_4), (5, .int k62_5), (0, .ref b_o), (1, .int p_1), (2, .int p_2), (3, .int p_3)]) hx hb dX12_findSoonest_216 hl (k := 2) rfl rfl (by decide +kernel) rfl ?_
                clear hl
                intro ls hl
                have t_171 : (k78_6 + 1).toInt = k78_6.toInt + 1 := g5_iadd (a := k78_6.toInt) (b := 1) rfl (by decide +kernel) (by omega) (by omega)
                refine lv_goto (tgt := 78) hx hb dX12_findSoonest_219 (by decide +kernel) ?_
                exact ih_78_133 ((k78_6 + 1), k78_4, z149, z150, z151, z152, z153, z154, z155, z156, z157, z158, z159, z160, z161, z162, k137_tr, k78_ld) ls H locs (show Int.toNat (64 - (k78_6 + 1).toInt) < Int.toNat (64 - k78_6.toInt) from g_up (show k78_6.toInt < (k78_6 + 1).toInt by omega) (show k78_6.toInt < 64 by omega)) ⟨lv_sub hl [2, 0, 3, 4, 5, 6, 7] rfl, hP.sub [2, 3, 4, 5, 6, 0, 1] rfl, hD.sub [2, 3, 4, 5, 6, 0, 1] (by decide +kernel) rfl, hS, ⟨by omega, by omega⟩, i_124, i_140, i_141, i_142, i_143, i_144, i_145, i_146, i_147⟩
              ·
                have i_170 : k137_7.toInt < 5 := g5_geN (a := k137_7.toInt) (b := 5) rfl (by decide +kernel) c_170
                refine lv_iload hx hb dX12_findSoonest_143 (lv_at hl 3 rfl) ?_
                refine lv_bipush (v := 23) hx hb dX12_findSoonest_145 (by decide +kernel) ?_
                refine lv_icmp_ge (tgt := 216) hx hb dX12_findSoonest_147 (by decide +kernel) (fun c_172 => ?_) (fun c_172 => ?_)
                ·
                  have i_172 : k62_5.toInt ≥ 23 := g5_ge (a := k62_5.toInt) (b := 23) rfl (by decide +kernel) c_172
                  refine lv_iinc (v := (k78_6 + 1)) (lv' := [(6, .int (k78_6 + 1)), (7, .int k137_7), (4, .int k78_4), (5, .int k62_5), (0, .ref b_o), (1, .int p_1), (2, .int p_2), (3, .int p_3)]) hx hb dX12_findSoonest_216 hl (k := 2) rfl rfl (by decide +kernel) rfl ?_
                  clear hl
                  intro ls hl
                  have t_173 : (k78_6 + 1).toInt = k78_6.toInt + 1 := g5_iadd (a := k78_6.toInt) (b := 1) rfl (by decide +kernel) (by omega) (by omega)
                  refine lv_goto (tgt := 78) hx hb dX12_findSoonest_219 (by decide +kernel) ?_
                  exact ih_78_133 ((k78_6 + 1), k78_4, z149, z150, z151, z152, z153, z154, z155, z156, z157, z158, z159, z160, z161, z162, k137_tr, k78_ld) ls H locs (show Int.toNat (64 - (k78_6 + 1).toInt) < Int.toNat (64 - k78_6.toInt) from g_up (show k78_6.toInt < (k78_6 + 1).toInt by omega) (show k78_6.toInt < 64 by omega)) ⟨lv_sub hl [2, 0, 3, 4, 5, 6, 7] rfl, hP.sub [2, 3, 4, 5, 6, 0, 1] rfl, hD.sub [2, 3, 4, 5, 6, 0, 1] (by decide +kernel) rfl, hS, ⟨by omega, by omega⟩, i_124, i_140, i_141, i_142, i_143, i_144, i_145, i_146, i_147⟩
                ·
                  have i_172 : k62_5.toInt < 23 := g5_geN (a := k62_5.toInt) (b := 23) rfl (by decide +kernel) c_172
                  refine lv_iload hx hb dX12_findSoonest_150 (lv_at hl 0 rfl) ?_
                  refine lv_iconst (v := 4) hx hb dX12_findSoonest_152 (by decide +kernel) ?_
                  refine lv_icmp_ne (tgt := 161) hx hb dX12_findSoonest_153 (by decide +kernel) (fun c_174 => ?_) (fun c_174 => ?_)
                  ·
                    have n_174 : gNe (k137_7.toInt) (4) := g5_ne (a := k137_7.toInt) (b := 4) rfl (by decide +kernel) c_174
                    have i_174 : k137_7.toInt ≤ 3 := by have z := g5_ne (a := k137_7.toInt) (b := 4) (by rfl) (by decide +kernel) c_174; omega
                    refine lv_iload hx hb dX12_findSoonest_161 (lv_at hl 2 rfl) ?_
                    refine lv_iload hx hb dX12_findSoonest_163 (lv_at hl 0 rfl) ?_
                    obtain ⟨hPc, hDc, hFc⟩ := g5_sub3 (wc := []) hP hD hS hA [] (by decide +kernel) rfl
                    refine va_calli (va_runS (As := [.int k78_6, .int k137_7]) (rest := []) ⟨hx, hb, hml, hown, hts⟩ (n_beside l G H.size k78_6 k137_7 ⟨by omega, by omega⟩) (va_cwS 2 hts gS_X12_374 rfl rfl rfl hs_X12_beside ⟨Nat.le_of_ble_eq_true rfl, Nat.le_of_ble_eq_true rfl⟩) (g5_preS hPc hK hDc hN hT hS hFc) rfl rfl hl.1 rfl (lv_room (Nat.le_of_ble_eq_true rfl)) dX12_findSoonest_165 ⟨Nat.le_of_ble_eq_true rfl, Nat.le_of_ble_eq_true rfl⟩) hS (fun q _ h => hFc q h) hFc (fun r u t H locs ht hvm hw hB hz1 hk1 hS => ?_)
                    obtain ⟨hP1, hD1⟩ := hB
                    have hP1 := g5_ht ht hP1
                    obtain ⟨z176, (i_175 : -1 ≤ z176.toInt ∧ z176.toInt ≤ 63), y177, rfl⟩ := hw
                    have hJ9 := g5_same hP hk1
                    clear hP hPc hDc hFc ht hvm hz1 hk1 hP1 hD1
                    have hP := hJ9
                    clear hJ9
                    refine g5_ti (v := z176) y177 ?_
                    refine lv_istore (lv' := [(8, .int z176), (7, .int k137_7), (4, .int k78_4), (6, .int k78_6), (5, .int k62_5), (0, .ref b_o), (1, .int p_1), (2, .int p_2), (3, .int p_3)]) hx hb dX12_findSoonest_168 hl (by decide +kernel) rfl ?_
                    clear hl
                    intro ls hl
                    refine lv_iload hx hb dX12_findSoonest_170 (lv_at hl 0 rfl) ?_
                    refine lv_iconst (v := (-1)) hx hb dX12_findSoonest_172 (by decide +kernel) ?_
                    refine lv_icmp_eq (tgt := 210) hx hb dX12_findSoonest_173 (by decide +kernel) (fun c_178 => ?_) (fun c_178 => ?_)
                    ·
                      have i_178 : z176.toInt = (-1) := g5_eq (a := z176.toInt) (b := (-1)) rfl (by decide +kernel) c_178
                      refine lv_iinc (v := (k137_7 + 1)) (lv' := [(7, .int (k137_7 + 1)), (8, .int z176), (4, .int k78_4), (6, .int k78_6), (5, .int k62_5), (0, .ref b_o), (1, .int p_1), (2, .int p_2), (3, .int p_3)]) hx hb dX12_findSoonest_210 hl (k := 1) rfl rfl (by decide +kernel) rfl ?_
                      clear hl
                      intro ls hl
                      have t_179 : (k137_7 + 1).toInt = k137_7.toInt + 1 := g5_iadd (a := k137_7.toInt) (b := 1) rfl (by decide +kernel) (by omega) (by omega)
                      refine lv_goto (tgt := 137) hx hb dX12_findSoonest_213 (by decide +kernel) ?_
                      exact ih_137_169 ((k137_7 + 1), k137_tr) ls H locs (show Int.toNat (5 - (k137_7 + 1).toInt) < Int.toNat (5 - k137_7.toInt) from g_up (show k137_7.toInt < (k137_7 + 1).toInt by omega) (show k137_7.toInt < 5 by omega)) ⟨lv_sub hl [0, 2, 3, 4, 5, 6, 7, 8] rfl, hP, hD, hS, ⟨by omega, by omega⟩⟩
                    ·
                      have n_178 : gNe (z176.toInt) ((-1)) := g5_eqN (a := z176.toInt) (b := (-1)) rfl (by decide +kernel) c_178
                      have i_178 : z176.toInt ≥ 0 := by have z := g5_eqN (a := z176.toInt) (b := (-1)) (by rfl) (by decide +kernel) c_178; omega
                      refine lv_aload_n hx hb dX12_findSoonest_176 rfl (lv_at hl 5 rfl) ?_
                      refine lv_iload hx hb dX12_findSoonest_177 (lv_at hl 0 rfl) ?_
                      refine lv_if_ge (tgt := 186) hx hb dX12_findSoonest_179 (by decide +kernel) (fun c_180 => ?_) (fun c_180 => ?_)
                      ·
                        have i_180 : z176.toInt ≥ 0 := g5_ge (a := z176.toInt) (b := 0) rfl (by decide +kernel) c_180
                        refine lv_iload hx hb dX12_findSoonest_186 (lv_at hl 0 rfl) ?_
                        obtain ⟨hPc, hDc, hFc⟩ := g5_sub3 (wc := [(b_o, (oc12 u_th u_sa b_rf b_ro b_im b_ke u_fd b_tp u_td u_fr u_to u_so u_wo u_fa u_bd u_nc b_nl u_co b_op b_ar u_le b_pi b_pa u_pd u_od b_ws b_hw z149 b_se b_re z150 z151 z152 z153 z154 z155 z156 z157 b_pt z158 z159 b_ip u_ic b_ah b_be b_me u_wd b_tr b_ld u_st b_wn u_id)), (b_ro, (arI G 5740 v_ro))]) hP hD hS hA [2, 3] (by decide +kernel) rfl
                        refine va_calli (va_runV (As := [.int z176]) (rest := []) ⟨hx, hb, hml, hown, hts⟩ (n_isWall l G b_o b_ro b_rf b_im b_ke b_tp b_nl b_op b_ar b_pi b_pa b_ws b_hw b_se b_re b_pt b_ip b_ah b_be b_me b_tr b_ld b_wn H.size u_th u_sa u_fd u_td u_fr u_to u_so u_fa u_bd u_nc u_co u_le u_pd u_od z149 z150 z153 z154 z155 z156 z157 z158 z159 u_ic u_wd u_id z176 u_wo z151 z152 u_st v_ro h_u_td h_u_fr h_u_to h_u_bd h_u_nc h_u_co h_u_pd i_140 i_141 i_142 i_143 i_144 i_145 i_146 h_u_ic h_u_id ⟨by omega, by omega⟩ (r_ro)) (cwV 1 hts gV_X12_160 rfl rfl rfl hv_X12_isWall ⟨Nat.le_of_ble_eq_true rfl, Nat.le_of_ble_eq_true rfl⟩) (g5_preV hPc hK hDc hN hT hS hFc (ci := 12) (q0 := 0) rfl rfl) rfl rfl hl.1 rfl (lv_room (Nat.le_of_ble_eq_true rfl)) dX12_findSoonest_188 ⟨Nat.le_of_ble_eq_true rfl, Nat.le_of_ble_eq_true rfl⟩) hS (fun q _ h => hFc q h) hFc (fun r u t H locs ht hvm hw hB hz1 hk1 hS => ?_)
                        obtain ⟨hP1, hD1⟩ := hB
                        have hP1 := g5_ht ht hP1
                        obtain ⟨z182, (i_181 : 0 ≤ z182.toInt ∧ z182.toInt ≤ 1), y183, rfl⟩ := hw
                        have hJ9 := va_join (wr := [(b_tr, (arZ G 1536 k137_tr)), (b_ld, (arZ G 1536 k78_ld)), (b_se, (arJ G 13 z160)), (b_re, (arJ G 400 z161)), (b_pt, (arI G 200 z162))]) hP hD [2, 3] [0, 1, 4, 5, 6] rfl rfl (by decide +kernel) (by decide +kernel) hk1 hFc hP1 hD1
                        clear hP hD hPc hDc hFc ht hvm hz1 hk1 hP1 hD1
                        obtain ⟨hP, hD⟩ := hJ9
                        refine g5_rs [(b_tr, (arZ G 1536 k137_tr)), (b_ld, (arZ G 1536 k78_ld)), (b_se, (arJ G 13 z160)), (b_re, (arJ G 400 z161)), (b_pt, (arI G 200 z162)), (b_o, (oc12 u_th u_sa b_rf b_ro b_im b_ke u_fd b_tp u_td u_fr u_to u_so u_wo u_fa u_bd u_nc b_nl u_co b_op b_ar u_le b_pi b_pa u_pd u_od b_ws b_hw z149 b_se b_re z150 z151 z152 z153 z154 z155 z156 z157 b_pt z158 z159 b_ip u_ic b_ah b_be b_me u_wd b_tr b_ld u_st b_wn u_id)), (b_ro, (arI G 5740 v_ro))] hP hD ?_
                        clear hP hD
                        intro hP hD
                        refine g5_ti (v := z182) y183 ?_
                        refine lv_if_ne (tgt := 210) hx hb dX12_findSoonest_191 (by decide +kernel) (fun c_184 => ?_) (fun c_184 => ?_)
                        ·
                          have n_184 : gNe (z182.toInt) (0) := g5_ne (a := z182.toInt) (b := 0) rfl (by decide +kernel) c_184
                          have i_184 : z182.toInt ≥ 1 := by have z := g5_ne (a := z182.toInt) (b := 0) (by rfl) (by decide +kernel) c_184; omega
                          refine lv_iinc (v := (k137_7 + 1)) (lv' := [(7, .int (k137_7 + 1)), (8, .int z176), (4, .int k78_4), (6, .int k78_6), (5, .int k62_5), (0, .ref b_o), (1, .int p_1), (2, .int p_2), (3, .int p_3)]) hx hb dX12_findSoonest_210 hl (k := 1) rfl rfl (by decide +kernel) rfl ?_
                          clear hl
                          intro ls hl
                          have t_185 : (k137_7 + 1).toInt = k137_7.toInt + 1 := g5_iadd (a := k137_7.toInt) (b := 1) rfl (by decide +kernel) (by omega) (by omega)
                          refine lv_goto (tgt := 137) hx hb dX12_findSoonest_213 (by decide +kernel) ?_
                          exact ih_137_169 ((k137_7 + 1), k137_tr) ls H locs (show Int.toNat (5 - (k137_7 + 1).toInt) < Int.toNat (5 - k137_7.toInt) from g_up (show k137_7.toInt < (k137_7 + 1).toInt by omega) (show k137_7.toInt < 5 by omega)) ⟨lv_sub hl [0, 2, 3, 4, 5, 6, 7, 8] rfl, hP.sub [0, 1, 5, 6, 2, 3, 4] rfl, hD.sub [0, 1, 5, 6, 2, 3, 4] (by decide +kernel) rfl, hS, ⟨by omega, by omega⟩⟩
                        ·
                          have i_184 : z182.toInt = 0 := g5_neN (a := z182.toInt) (b := 0) rfl (by decide +kernel) c_184
                          refine lv_aload_n hx hb dX12_findSoonest_194 rfl (lv_at hl 5 rfl) ?_
                          refine va_get (D := G.1) (ci := 12) (v := .ref b_tr) (C := RX12) (T := TX12) (N := 52) hx hb hts inG_X12 hown hK hP 5 rfl rfl 47 (by decide +kernel) (hts _ fl_X12_98) (fun _ h9 => h9) rfl dX12_findSoonest_195 ?_
                          refine lv_bipush (v := 64) hx hb dX12_findSoonest_198 (by decide +kernel) ?_
                          refine lv_iload hx hb dX12_findSoonest_200 (lv_at hl 4 rfl) ?_
                          refine lv_iconst (v := 1) hx hb dX12_findSoonest_202 (by decide +kernel) ?_
                          refine lv_iadd hx hb dX12_findSoonest_203 ?_
                          have t_186 : (k62_5 + 1).toInt = k62_5.toInt + 1 := g5_iadd (a := k62_5.toInt) (b := 1) (by rfl) (by decide +kernel) (by omega) (by omega)
                          refine lv_imul hx hb dX12_findSoonest_204 ?_
                          have t_187 : (64 * (k62_5 + 1)).toInt = 64 * (k62_5 + 1).toInt := g5_imul (a := 64) (b := (k62_5 + 1).toInt) (by decide +kernel) (by rfl) (by omega) (by omega)
                          refine lv_iload hx hb dX12_findSoonest_205 (lv_at hl 0 rfl) ?_
                          refine lv_iadd hx hb dX12_findSoonest_207 ?_
                          have t_188 : ((64 * (k62_5 + 1)) + z176).toInt = (64 * (k62_5 + 1)).toInt + z176.toInt := g5_iadd (a := (64 * (k62_5 + 1)).toInt) (b := z176.toInt) (by rfl) (by rfl) (by omega) (by omega)
                          refine lv_iconst (v := 1) hx hb dX12_findSoonest_208 (by decide +kernel) ?_
                          refine va_zast hx hb hK hP hD hS 0 2 rfl rfl (i := ((64 * (k62_5 + 1)) + z176)) (x := 1) (vp_in_iff.mpr ⟨by omega, by omega⟩) dX12_findSoonest_209 ?_
                          clear hP hD hS
                          intro H locs hP hD hS
                          refine g5_rs [(b_tr, (arZ G 1536 (upd k137_tr ((64 * (k62_5 + 1)) + z176).toNatClampNeg 1))), (b_ld, (arZ G 1536 k78_ld)), (b_se, (arJ G 13 z160)), (b_re, (arJ G 400 z161)), (b_pt, (arI G 200 z162)), (b_o, (oc12 u_th u_sa b_rf b_ro b_im b_ke u_fd b_tp u_td u_fr u_to u_so u_wo u_fa u_bd u_nc b_nl u_co b_op b_ar u_le b_pi b_pa u_pd u_od b_ws b_hw z149 b_se b_re z150 z151 z152 z153 z154 z155 z156 z157 b_pt z158 z159 b_ip u_ic b_ah b_be b_me u_wd b_tr b_ld u_st b_wn u_id)), (b_ro, (arI G 5740 v_ro))] hP hD ?_
                          clear hP hD
                          intro hP hD
                          refine lv_iinc (v := (k137_7 + 1)) (lv' := [(7, .int (k137_7 + 1)), (8, .int z176), (4, .int k78_4), (6, .int k78_6), (5, .int k62_5), (0, .ref b_o), (1, .int p_1), (2, .int p_2), (3, .int p_3)]) hx hb dX12_findSoonest_210 hl (k := 1) rfl rfl (by decide +kernel) rfl ?_
                          clear hl
                          intro ls hl
                          have t_189 : (k137_7 + 1).toInt = k137_7.toInt + 1 := g5_iadd (a := k137_7.toInt) (b := 1) rfl (by decide +kernel) (by omega) (by omega)
                          refine lv_goto (tgt := 137) hx hb dX12_findSoonest_213 (by decide +kernel) ?_
                          exact ih_137_169 ((k137_7 + 1), (upd k137_tr ((64 * (k62_5 + 1)) + z176).toNatClampNeg 1)) ls H locs (show Int.toNat (5 - (k137_7 + 1).toInt) < Int.toNat (5 - k137_7.toInt) from g_up (show k137_7.toInt < (k137_7 + 1).toInt by omega) (show k137_7.toInt < 5 by omega)) ⟨lv_sub hl [0, 2, 3, 4, 5, 6, 7, 8] rfl, hP.sub [0, 1, 5, 6, 2, 3, 4] rfl, hD.sub [0, 1, 5, 6, 2, 3, 4] (by decide +kernel) rfl, hS, ⟨by omega, by omega⟩⟩
                      ·
                        have i_180 : z176.toInt < 0 := g5_geN (a := z176.toInt) (b := 0) rfl (by decide +kernel) c_180
                        omega
                  ·
                    have i_174 : k137_7.toInt = 4 := g5_neN (a := k137_7.toInt) (b := 4) rfl (by decide +kernel) c_174
                    refine lv_iload hx hb dX12_findSoonest_156 (lv_at hl 2 rfl) ?_
                    refine lv_goto (tgt := 168) hx hb dX12_findSoonest_158 (by decide +kernel) ?_
                    refine lv_istore (lv' := [(8, .int k78_6), (7, .int k137_7), (4, .int k78_4), (6, .int k78_6), (5, .int k62_5), (0, .ref b_o), (1, .int p_1), (2, .int p_2), (3, .int p_3)]) hx hb dX12_findSoonest_168 hl (by decide +kernel) rfl ?_
                    clear hl
                    intro ls hl
                    refine lv_iload hx hb dX12_findSoonest_170 (lv_at hl 0 rfl) ?_
                    refine lv_iconst (v := (-1)) hx hb dX12_findSoonest_172 (by decide +kernel) ?_
                    refine lv_icmp_eq (tgt := 210) hx hb dX12_findSoonest_173 (by decide +kernel) (fun c_190 => ?_) (fun c_190 => ?_)
                    ·
                      have i_190 : k78_6.toInt = (-1) := g5_eq (a := k78_6.toInt) (b := (-1)) rfl (by decide +kernel) c_190
                      omega
                    ·
                      have n_190 : gNe (k78_6.toInt) ((-1)) := g5_eqN (a := k78_6.toInt) (b := (-1)) rfl (by decide +kernel) c_190
                      refine lv_aload_n hx hb dX12_findSoonest_176 rfl (lv_at hl 5 rfl) ?_
                      refine lv_iload hx hb dX12_findSoonest_177 (lv_at hl 0 rfl) ?_
                      refine lv_if_ge (tgt := 186) hx hb dX12_findSoonest_179 (by decide +kernel) (fun c_191 => ?_) (fun c_191 => ?_)
                      ·
                        have i_191 : k78_6.toInt ≥ 0 := g5_ge (a := k78_6.toInt) (b := 0) rfl (by decide +kernel) c_191
                        refine lv_iload hx hb dX12_findSoonest_186 (lv_at hl 0 rfl) ?_
                        obtain ⟨hPc, hDc, hFc⟩ := g5_sub3 (wc := [(b_o, (oc12 u_th u_sa b_rf b_ro b_im b_ke u_fd b_tp u_td u_fr u_to u_so u_wo u_fa u_bd u_nc b_nl u_co b_op b_ar u_le b_pi b_pa u_pd u_od b_ws b_hw z149 b_se b_re z150 z151 z152 z153 z154 z155 z156 z157 b_pt z158 z159 b_ip u_ic b_ah b_be b_me u_wd b_tr b_ld u_st b_wn u_id)), (b_ro, (arI G 5740 v_ro))]) hP hD hS hA [2, 3] (by decide +kernel) rfl
                        refine va_calli (va_runV (As := [.int k78_6]) (rest := []) ⟨hx, hb, hml, hown, hts⟩ (n_isWall l G b_o b_ro b_rf b_im b_ke b_tp b_nl b_op b_ar b_pi b_pa b_ws b_hw b_se b_re b_pt b_ip b_ah b_be b_me b_tr b_ld b_wn H.size u_th u_sa u_fd u_td u_fr u_to u_so u_fa u_bd u_nc u_co u_le u_pd u_od z149 z150 z153 z154 z155 z156 z157 z158 z159 u_ic u_wd u_id k78_6 u_wo z151 z152 u_st v_ro h_u_td h_u_fr h_u_to h_u_bd h_u_nc h_u_co h_u_pd i_140 i_141 i_142 i_143 i_144 i_145 i_146 h_u_ic h_u_id ⟨by omega, by omega⟩ (r_ro)) (cwV 1 hts gV_X12_160 rfl rfl rfl hv_X12_isWall ⟨Nat.le_of_ble_eq_true rfl, Nat.le_of_ble_eq_true rfl⟩) (g5_preV hPc hK hDc hN hT hS hFc (ci := 12) (q0 := 0) rfl rfl) rfl rfl hl.1 rfl (lv_room (Nat.le_of_ble_eq_true rfl)) dX12_findSoonest_188 ⟨Nat.le_of_ble_eq_true rfl, Nat.le_of_ble_eq_true rfl⟩) hS (fun q _ h => hFc q h) hFc (fun r u t H locs ht hvm hw hB hz1 hk1 hS => ?_)
                        obtain ⟨hP1, hD1⟩ := hB
                        have hP1 := g5_ht ht hP1
                        obtain ⟨z193, (i_192 : 0 ≤ z193.toInt ∧ z193.toInt ≤ 1), y194, rfl⟩ := hw
                        have hJ9 := va_join (wr := [(b_tr, (arZ G 1536 k137_tr)), (b_ld, (arZ G 1536 k78_ld)), (b_se, (arJ G 13 z160)), (b_re, (arJ G 400 z161)), (b_pt, (arI G 200 z162))]) hP hD [2, 3] [0, 1, 4, 5, 6] rfl rfl (by decide +kernel) (by decide +kernel) hk1 hFc hP1 hD1
                        clear hP hD hPc hDc hFc ht hvm hz1 hk1 hP1 hD1
                        obtain ⟨hP, hD⟩ := hJ9
                        refine g5_rs [(b_tr, (arZ G 1536 k137_tr)), (b_ld, (arZ G 1536 k78_ld)), (b_se, (arJ G 13 z160)), (b_re, (arJ G 400 z161)), (b_pt, (arI G 200 z162)), (b_o, (oc12 u_th u_sa b_rf b_ro b_im b_ke u_fd b_tp u_td u_fr u_to u_so u_wo u_fa u_bd u_nc b_nl u_co b_op b_ar u_le b_pi b_pa u_pd u_od b_ws b_hw z149 b_se b_re z150 z151 z152 z153 z154 z155 z156 z157 b_pt z158 z159 b_ip u_ic b_ah b_be b_me u_wd b_tr b_ld u_st b_wn u_id)), (b_ro, (arI G 5740 v_ro))] hP hD ?_
                        clear hP hD
                        intro hP hD
                        refine g5_ti (v := z193) y194 ?_
                        refine lv_if_ne (tgt := 210) hx hb dX12_findSoonest_191 (by decide +kernel) (fun c_195 => ?_) (fun c_195 => ?_)
                        ·
                          have n_195 : gNe (z193.toInt) (0) := g5_ne (a := z193.toInt) (b := 0) rfl (by decide +kernel) c_195
                          have i_195 : z193.toInt ≥ 1 := by have z := g5_ne (a := z193.toInt) (b := 0) (by rfl) (by decide +kernel) c_195; omega
                          refine lv_iinc (v := (k137_7 + 1)) (lv' := [(7, .int (k137_7 + 1)), (8, .int k78_6), (4, .int k78_4), (6, .int k78_6), (5, .int k62_5), (0, .ref b_o), (1, .int p_1), (2, .int p_2), (3, .int p_3)]) hx hb dX12_findSoonest_210 hl (k := 1) rfl rfl (by decide +kernel) rfl ?_
                          clear hl
                          intro ls hl
                          have t_196 : (k137_7 + 1).toInt = k137_7.toInt + 1 := g5_iadd (a := k137_7.toInt) (b := 1) rfl (by decide +kernel) (by omega) (by omega)
                          refine lv_goto (tgt := 137) hx hb dX12_findSoonest_213 (by decide +kernel) ?_
                          exact ih_137_169 ((k137_7 + 1), k137_tr) ls H locs (show Int.toNat (5 - (k137_7 + 1).toInt) < Int.toNat (5 - k137_7.toInt) from g_up (show k137_7.toInt < (k137_7 + 1).toInt by omega) (show k137_7.toInt < 5 by omega)) ⟨lv_sub hl [0, 2, 3, 4, 5, 6, 7, 8] rfl, hP.sub [0, 1, 5, 6, 2, 3, 4] rfl, hD.sub [0, 1, 5, 6, 2, 3, 4] (by decide +kernel) rfl, hS, ⟨by omega, by omega⟩⟩
                        ·
                          have i_195 : z193.toInt = 0 := g5_neN (a := z193.toInt) (b := 0) rfl (by decide +kernel) c_195
                          refine lv_aload_n hx hb dX12_findSoonest_194 rfl (lv_at hl 5 rfl) ?_
                          refine va_get (D := G.1) (ci := 12) (v := .ref b_tr) (C := RX12) (T := TX12) (N := 52) hx hb hts inG_X12 hown hK hP 5 rfl rfl 47 (by decide +kernel) (hts _ fl_X12_98) (fun _ h9 => h9) rfl dX12_findSoonest_195 ?_
                          refine lv_bipush (v := 64) hx hb dX12_findSoonest_198 (by decide +kernel) ?_
                          refine lv_iload hx hb dX12_findSoonest_200 (lv_at hl 4 rfl) ?_
                          refine lv_iconst (v := 1) hx hb dX12_findSoonest_202 (by decide +kernel) ?_
                          refine lv_iadd hx hb dX12_findSoonest_203 ?_
                          have t_197 : (k62_5 + 1).toInt = k62_5.toInt + 1 := g5_iadd (a := k62_5.toInt) (b := 1) (by rfl) (by decide +kernel) (by omega) (by omega)
                          refine lv_imul hx hb dX12_findSoonest_204 ?_
                          have t_198 : (64 * (k62_5 + 1)).toInt = 64 * (k62_5 + 1).toInt := g5_imul (a := 64) (b := (k62_5 + 1).toInt) (by decide +kernel) (by rfl) (by omega) (by omega)
                          refine lv_iload hx hb dX12_findSoonest_205 (lv_at hl 0 rfl) ?_
                          refine lv_iadd hx hb dX12_findSoonest_207 ?_
                          have t_199 : ((64 * (k62_5 + 1)) + k78_6).toInt = (64 * (k62_5 + 1)).toInt + k78_6.toInt := g5_iadd (a := (64 * (k62_5 + 1)).toInt) (b := k78_6.toInt) (by rfl) (by rfl) (by omega) (by omega)
                          refine lv_iconst (v := 1) hx hb dX12_findSoonest_208 (by decide +kernel) ?_
                          refine va_zast hx hb hK hP hD hS 0 2 rfl rfl (i := ((64 * (k62_5 + 1)) + k78_6)) (x := 1) (vp_in_iff.mpr ⟨by omega, by omega⟩) dX12_findSoonest_209 ?_
                          clear hP hD hS
                          intro H locs hP hD hS
                          refine g5_rs [(b_tr, (arZ G 1536 (upd k137_tr ((64 * (k62_5 + 1)) + k78_6).toNatClampNeg 1))), (b_ld, (arZ G 1536 k78_ld)), (b_se, (arJ G 13 z160)), (b_re, (arJ G 400 z161)), (b_pt, (arI G 200 z162)), (b_o, (oc12 u_th u_sa b_rf b_ro b_im b_ke u_fd b_tp u_td u_fr u_to u_so u_wo u_fa u_bd u_nc b_nl u_co b_op b_ar u_le b_pi b_pa u_pd u_od b_ws b_hw z149 b_se b_re z150 z151 z152 z153 z154 z155 z156 z157 b_pt z158 z159 b_ip u_ic b_ah b_be b_me u_wd b_tr b_ld u_st b_wn u_id)), (b_ro, (arI G 5740 v_ro))] hP hD ?_
                          clear hP hD
                          intro hP hD
                          refine lv_iinc (v := (k137_7 + 1)) (lv' := [(7, .int (k137_7 + 1)), (8, .int k78_6), (4, .int k78_4), (6, .int k78_6), (5, .int k62_5), (0, .ref b_o), (1, .int p_1), (2, .int p_2), (3, .int p_3)]) hx hb dX12_findSoonest_210 hl (k := 1) rfl rfl (by decide +kernel) rfl ?_
                          clear hl
                          intro ls hl
                          have t_200 : (k137_7 + 1).toInt = k137_7.toInt + 1 := g5_iadd (a := k137_7.toInt) (b := 1) rfl (by decide +kernel) (by omega) (by omega)
                          refine lv_goto (tgt := 137) hx hb dX12_findSoonest_213 (by decide +kernel) ?_
                          exact ih_137_169 ((k137_7 + 1), (upd k137_tr ((64 * (k62_5 + 1)) + k78_6).toNatClampNeg 1)) ls H locs (show Int.toNat (5 - (k137_7 + 1).toInt) < Int.toNat (5 - k137_7.toInt) from g_up (show k137_7.toInt < (k137_7 + 1).toInt by omega) (show k137_7.toInt < 5 by omega)) ⟨lv_sub hl [0, 2, 3, 4, 5, 6, 7, 8] rfl, hP.sub [0, 1, 5, 6, 2, 3, 4] rfl, hD.sub [0, 1, 5, 6, 2, 3, 4] (by decide +kernel) rfl, hS, ⟨by omega, by omega⟩⟩
                      ·
                        have i_191 : k78_6.toInt < 0 := g5_geN (a := k78_6.toInt) (b := 0) rfl (by decide +kernel) c_191
                        omega
            ·
              have n_167 : gNe (z165.toInt) (0) := g5_eqN (a := z165.toInt) (b := 0) rfl (by decide +kernel) c_167
              have i_167 : z165.toInt ≥ 1 := by have z := g5_eqN (a := z165.toInt) (b := 0) (by rfl) (by decide +kernel) c_167; omega
              refine lv_aload_n hx hb dX12_findSoonest_116 rfl (lv_at hl 3 rfl) ?_
              refine va_get (D := G.1) (ci := 12) (v := .ref b_ld) (C := RX12) (T := TX12) (N := 52) hx hb hts inG_X12 hown hK hP 2 rfl rfl 48 (by decide +kernel) (hts _ fl_X12_101) (fun _ h9 => h9) rfl dX12_findSoonest_117 ?_
              refine lv_bipush (v := 64) hx hb dX12_findSoonest_120 (by decide +kernel) ?_
              refine lv_iload hx hb dX12_findSoonest_122 (lv_at hl 2 rfl) ?_
              refine lv_imul hx hb dX12_findSoonest_124 ?_
              have t_201 : (64 * k62_5).toInt = 64 * k62_5.toInt := g5_imul (a := 64) (b := k62_5.toInt) (by decide +kernel) (by rfl) (by omega) (by omega)
              refine lv_iload hx hb dX12_findSoonest_125 (lv_at hl 1 rfl) ?_
              refine lv_iadd hx hb dX12_findSoonest_127 ?_
              have t_202 : ((64 * k62_5) + k78_6).toInt = (64 * k62_5).toInt + k78_6.toInt := g5_iadd (a := (64 * k62_5).toInt) (b := k78_6.toInt) (by rfl) (by rfl) (by omega) (by omega)
              refine lv_iconst (v := 1) hx hb dX12_findSoonest_128 (by decide +kernel) ?_
              refine va_zast hx hb hK hP hD hS 1 2 rfl rfl (i := ((64 * k62_5) + k78_6)) (x := 1) (vp_in_iff.mpr ⟨by omega, by omega⟩) dX12_findSoonest_129 ?_
              clear hP hD hS
              intro H locs hP hD hS
              refine g5_rs [(b_tr, (arZ G 1536 k78_tr)), (b_ld, (arZ G 1536 (upd k78_ld ((64 * k62_5) + k78_6).toNatClampNeg 1))), (b_o, (oc12 u_th u_sa b_rf b_ro b_im b_ke u_fd b_tp u_td u_fr u_to u_so u_wo u_fa u_bd u_nc b_nl u_co b_op b_ar u_le b_pi b_pa u_pd u_od b_ws b_hw z149 b_se b_re z150 z151 z152 z153 z154 z155 z156 z157 b_pt z158 z159 b_ip u_ic b_ah b_be b_me u_wd b_tr b_ld u_st b_wn u_id)), (b_ro, (arI G 5740 v_ro)), (b_se, (arJ G 13 z160)), (b_re, (arJ G 400 z161)), (b_pt, (arI G 200 z162))] hP hD ?_
              clear hP hD
              intro hP hD
              refine lv_iload hx hb dX12_findSoonest_130 (lv_at hl 2 rfl) ?_
              refine lv_istore (lv' := [(4, .int k62_5), (6, .int k78_6), (5, .int k62_5), (0, .ref b_o), (1, .int p_1), (2, .int p_2), (3, .int p_3)]) hx hb dX12_findSoonest_132 hl (by decide +kernel) rfl ?_
              clear hl
              intro ls hl
              refine lv_iconst (v := 0) hx hb dX12_findSoonest_134 (by decide +kernel) ?_
              refine lv_istore (lv' := [(7, .int 0), (4, .int k62_5), (6, .int k78_6), (5, .int k62_5), (0, .ref b_o), (1, .int p_1), (2, .int p_2), (3, .int p_3)]) hx hb dX12_findSoonest_135 hl (by decide +kernel) rfl ?_
              clear hl
              intro ls hl
              refine g5_loop (α := (Int32) × (Nat → Int32)) (fun (q : (Int32) × (Nat → Int32)) (ls : Array Slot) (H : Heap) (locs : List Loc) => match q with | (k137_7, k137_tr) => lv_has ls 9 [(7, .int k137_7), (4, .int k62_5), (6, .int k78_6), (5, .int k62_5), (0, .ref b_o), (1, .int p_1), (2, .int p_2), (3, .int p_3)] ∧ va_P G.1 vwCl [(b_tr, (arZ G 1536 k137_tr)), (b_ld, (arZ G 1536 (upd k78_ld ((64 * k62_5) + k78_6).toNatClampNeg 1))), (b_o, (oc12 u_th u_sa b_rf b_ro b_im b_ke u_fd b_tp u_td u_fr u_to u_so u_wo u_fa u_bd u_nc b_nl u_co b_op b_ar u_le b_pi b_pa u_pd u_od b_ws b_hw z149 b_se b_re z150 z151 z152 z153 z154 z155 z156 z157 b_pt z158 z159 b_ip u_ic b_ah b_be b_me u_wd b_tr b_ld u_st b_wn u_id)), (b_ro, (arI G 5740 v_ro)), (b_se, (arJ G 13 z160)), (b_re, (arJ G 400 z161)), (b_pt, (arI G 200 z162))] H ∧ va_D A [(b_tr, (arZ G 1536 k137_tr)), (b_ld, (arZ G 1536 (upd k78_ld ((64 * k62_5) + k78_6).toNatClampNeg 1))), (b_o, (oc12 u_th u_sa b_rf b_ro b_im b_ke u_fd b_tp u_td u_fr u_to u_so u_wo u_fa u_bd u_nc b_nl u_co b_op b_ar u_le b_pi b_pa u_pd u_od b_ws b_hw z149 b_se b_re z150 z151 z152 z153 z154 z155 z156 z157 b_pt z158 z159 b_ip u_ic b_ah b_be b_me u_wd b_tr b_ld u_st b_wn u_id)), (b_ro, (arI G 5740 v_ro)), (b_se, (arJ G 13 z160)), (b_re, (arJ G 400 z161)), (b_pt, (arI G 200 z162))] ∧ va_S A s.heap H locs ∧ (0 ≤ k137_7.toInt ∧ k137_7.toInt ≤ 5)) (fun (q : (Int32) × (Nat → Int32)) => match q with | (k137_7, k137_tr) => Int.toNat (5 - k137_7.toInt)) (0, k78_tr) ⟨lv_sub hl [0, 1, 2, 3, 4, 5, 6, 7] rfl, hP, hD, hS, ⟨by decide, by decide⟩⟩ ?_
              rintro ⟨k137_7, k137_tr⟩ ls H locs ⟨hl, hP, hD, hS, (i_203 : 0 ≤ k137_7.toInt ∧ k137_7.toInt ≤ 5)⟩ ih_137_204
              replace hl : lv_has ls 9 [(7, .int k137_7), (4, .int k62_5), (6, .int k78_6), (5, .int k62_5), (0, .ref b_o), (1, .int p_1), (2, .int p_2), (3, .int p_3)] := hl
              refine g5_rs [(b_tr, (arZ G 1536 k137_tr)), (b_ld, (arZ G 1536 (upd k78_ld ((64 * k62_5) + k78_6).toNatClampNeg 1))), (b_o, (oc12 u_th u_sa b_rf b_ro b_im b_ke u_fd b_tp u_td u_fr u_to u_so u_wo u_fa u_bd u_nc b_nl u_co b_op b_ar u_le b_pi b_pa u_pd u_od b_ws b_hw z149 b_se b_re z150 z151 z152 z153 z154 z155 z156 z157 b_pt z158 z159 b_ip u_ic b_ah b_be b_me u_wd b_tr b_ld u_st b_wn u_id)), (b_ro, (arI G 5740 v_ro)), (b_se, (arJ G 13 z160)), (b_re, (arJ G 400 z161)), (b_pt, (arI G 200 z162))] hP hD ?_
              clear hP hD
              intro hP hD
              refine lv_iload hx hb dX12_findSoonest_137 (lv_at hl 0 rfl) ?_
              refine lv_iconst (v := 5) hx hb dX12_findSoonest_139 (by decide +kernel) ?_
              refine lv_icmp_ge (tgt := 216) hx hb dX12_findSoonest_140 (by decide +kernel) (fun c_205 => ?_) (fun c_205 => ?_)
              ·
                have i_205 : k137_7.toInt ≥ 5 := g5_ge (a := k137_7.toInt) (b := 5) rfl (by decide +kernel) c_205
                refine lv_iinc (v := (k78_6 + 1)) (lv' := [(6, .int (k78_6 + 1)), (7, .int k137_7), (4, .int k62_5), (5, .int k62_5), (0, .ref b_o), (1, .int p_1), (2, .int p_2), (3, .int p_3)]) hx hb dX12_findSoonest_216 hl (k := 2) rfl rfl (by decide +kernel) rfl ?_
                clear hl
                intro ls hl
                have t_206 : (k78_6 + 1).toInt = k78_6.toInt + 1 := g5_iadd (a := k78_6.toInt) (b := 1) rfl (by decide +kernel) (by omega) (by omega)
                refine lv_goto (tgt := 78) hx hb dX12_findSoonest_219 (by decide +kernel) ?_
                exact ih_78_133 ((k78_6 + 1), k62_5, z149, z150, z151, z152, z153, z154, z155, z156, z157, z158, z159, z160, z161, z162, k137_tr, (upd k78_ld ((64 * k62_5) + k78_6).toNatClampNeg 1)) ls H locs (show Int.toNat (64 - (k78_6 + 1).toInt) < Int.toNat (64 - k78_6.toInt) from g_up (show k78_6.toInt < (k78_6 + 1).toInt by omega) (show k78_6.toInt < 64 by omega)) ⟨lv_sub hl [2, 0, 3, 4, 5, 6, 7] rfl, hP.sub [2, 3, 4, 5, 6, 0, 1] rfl, hD.sub [2, 3, 4, 5, 6, 0, 1] (by decide +kernel) rfl, hS, ⟨by omega, by omega⟩, ⟨by omega, by omega⟩, i_140, i_141, i_142, i_143, i_144, i_145, i_146, i_147⟩
              ·
                have i_205 : k137_7.toInt < 5 := g5_geN (a := k137_7.toInt) (b := 5) rfl (by decide +kernel) c_205
                refine lv_iload hx hb dX12_findSoonest_143 (lv_at hl 3 rfl) ?_
                refine lv_bipush (v := 23) hx hb dX12_findSoonest_145 (by decide +kernel) ?_
                refine lv_icmp_ge (tgt := 216) hx hb dX12_findSoonest_147 (by decide +kernel) (fun c_207 => ?_) (fun c_207 => ?_)
                ·
                  have i_207 : k62_5.toInt ≥ 23 := g5_ge (a := k62_5.toInt) (b := 23) rfl (by decide +kernel) c_207
                  refine lv_iinc (v := (k78_6 + 1)) (lv' := [(6, .int (k78_6 + 1)), (7, .int k137_7), (4, .int k62_5), (5, .int k62_5), (0, .ref b_o), (1, .int p_1), (2, .int p_2), (3, .int p_3)]) hx hb dX12_findSoonest_216 hl (k := 2) rfl rfl (by decide +kernel) rfl ?_
                  clear hl
                  intro ls hl
                  have t_208 : (k78_6 + 1).toInt = k78_6.toInt + 1 := g5_iadd (a := k78_6.toInt) (b := 1) rfl (by decide +kernel) (by omega) (by omega)
                  refine lv_goto (tgt := 78) hx hb dX12_findSoonest_219 (by decide +kernel) ?_
                  exact ih_78_133 ((k78_6 + 1), k62_5, z149, z150, z151, z152, z153, z154, z155, z156, z157, z158, z159, z160, z161, z162, k137_tr, (upd k78_ld ((64 * k62_5) + k78_6).toNatClampNeg 1)) ls H locs (show Int.toNat (64 - (k78_6 + 1).toInt) < Int.toNat (64 - k78_6.toInt) from g_up (show k78_6.toInt < (k78_6 + 1).toInt by omega) (show k78_6.toInt < 64 by omega)) ⟨lv_sub hl [2, 0, 3, 4, 5, 6, 7] rfl, hP.sub [2, 3, 4, 5, 6, 0, 1] rfl, hD.sub [2, 3, 4, 5, 6, 0, 1] (by decide +kernel) rfl, hS, ⟨by omega, by omega⟩, ⟨by omega, by omega⟩, i_140, i_141, i_142, i_143, i_144, i_145, i_146, i_147⟩
                ·
                  have i_207 : k62_5.toInt < 23 := g5_geN (a := k62_5.toInt) (b := 23) rfl (by decide +kernel) c_207
                  refine lv_iload hx hb dX12_findSoonest_150 (lv_at hl 0 rfl) ?_
                  refine lv_iconst (v := 4) hx hb dX12_findSoonest_152 (by decide +kernel) ?_
                  refine lv_icmp_ne (tgt := 161) hx hb dX12_findSoonest_153 (by decide +kernel) (fun c_209 => ?_) (fun c_209 => ?_)
                  ·
                    have n_209 : gNe (k137_7.toInt) (4) := g5_ne (a := k137_7.toInt) (b := 4) rfl (by decide +kernel) c_209
                    have i_209 : k137_7.toInt ≤ 3 := by have z := g5_ne (a := k137_7.toInt) (b := 4) (by rfl) (by decide +kernel) c_209; omega
                    refine lv_iload hx hb dX12_findSoonest_161 (lv_at hl 2 rfl) ?_
                    refine lv_iload hx hb dX12_findSoonest_163 (lv_at hl 0 rfl) ?_
                    obtain ⟨hPc, hDc, hFc⟩ := g5_sub3 (wc := []) hP hD hS hA [] (by decide +kernel) rfl
                    refine va_calli (va_runS (As := [.int k78_6, .int k137_7]) (rest := []) ⟨hx, hb, hml, hown, hts⟩ (n_beside l G H.size k78_6 k137_7 ⟨by omega, by omega⟩) (va_cwS 2 hts gS_X12_374 rfl rfl rfl hs_X12_beside ⟨Nat.le_of_ble_eq_true rfl, Nat.le_of_ble_eq_true rfl⟩) (g5_preS hPc hK hDc hN hT hS hFc) rfl rfl hl.1 rfl (lv_room (Nat.le_of_ble_eq_true rfl)) dX12_findSoonest_165 ⟨Nat.le_of_ble_eq_true rfl, Nat.le_of_ble_eq_true rfl⟩) hS (fun q _ h => hFc q h) hFc (fun r u t H locs ht hvm hw hB hz1 hk1 hS => ?_)
                    obtain ⟨hP1, hD1⟩ := hB
                    have hP1 := g5_ht ht hP1
                    obtain ⟨z211, (i_210 : -1 ≤ z211.toInt ∧ z211.toInt ≤ 63), y212, rfl⟩ := hw
                    have hJ9 := g5_same hP hk1
                    clear hP hPc hDc hFc ht hvm hz1 hk1 hP1 hD1
                    have hP := hJ9
                    clear hJ9
                    refine g5_ti (v := z211) y212 ?_
                    refine lv_istore (lv' := [(8, .int z211), (7, .int k137_7), (4, .int k62_5), (6, .int k78_6), (5, .int k62_5), (0, .ref b_o), (1, .int p_1), (2, .int p_2), (3, .int p_3)]) hx hb dX12_findSoonest_168 hl (by decide +kernel) rfl ?_
                    clear hl
                    intro ls hl
                    refine lv_iload hx hb dX12_findSoonest_170 (lv_at hl 0 rfl) ?_
                    refine lv_iconst (v := (-1)) hx hb dX12_findSoonest_172 (by decide +kernel) ?_
                    refine lv_icmp_eq (tgt := 210) hx hb dX12_findSoonest_173 (by decide +kernel) (fun c_213 => ?_) (fun c_213 => ?_)
                    ·
                      have i_213 : z211.toInt = (-1) := g5_eq (a := z211.toInt) (b := (-1)) rfl (by decide +kernel) c_213
                      refine lv_iinc (v := (k137_7 + 1)) (lv' := [(7, .int (k137_7 + 1)), (8, .int z211), (4, .int k62_5), (6, .int k78_6), (5, .int k62_5), (0, .ref b_o), (1, .int p_1), (2, .int p_2), (3, .int p_3)]) hx hb dX12_findSoonest_210 hl (k := 1) rfl rfl (by decide +kernel) rfl ?_
                      clear hl
                      intro ls hl
                      have t_214 : (k137_7 + 1).toInt = k137_7.toInt + 1 := g5_iadd (a := k137_7.toInt) (b := 1) rfl (by decide +kernel) (by omega) (by omega)
                      refine lv_goto (tgt := 137) hx hb dX12_findSoonest_213 (by decide +kernel) ?_
                      exact ih_137_204 ((k137_7 + 1), k137_tr) ls H locs (show Int.toNat (5 - (k137_7 + 1).toInt) < Int.toNat (5 - k137_7.toInt) from g_up (show k137_7.toInt < (k137_7 + 1).toInt by omega) (show k137_7.toInt < 5 by omega)) ⟨lv_sub hl [0, 2, 3, 4, 5, 6, 7, 8] rfl, hP, hD, hS, ⟨by omega, by omega⟩⟩
                    ·
                      have n_213 : gNe (z211.toInt) ((-1)) := g5_eqN (a := z211.toInt) (b := (-1)) rfl (by decide +kernel) c_213
                      have i_213 : z211.toInt ≥ 0 := by have z := g5_eqN (a := z211.toInt) (b := (-1)) (by rfl) (by decide +kernel) c_213; omega
                      refine lv_aload_n hx hb dX12_findSoonest_176 rfl (lv_at hl 5 rfl) ?_
                      refine lv_iload hx hb dX12_findSoonest_177 (lv_at hl 0 rfl) ?_
                      refine lv_if_ge (tgt := 186) hx hb dX12_findSoonest_179 (by decide +kernel) (fun c_215 => ?_) (fun c_215 => ?_)
                      ·
                        have i_215 : z211.toInt ≥ 0 := g5_ge (a := z211.toInt) (b := 0) rfl (by decide +kernel) c_215
                        refine lv_iload hx hb dX12_findSoonest_186 (lv_at hl 0 rfl) ?_
                        obtain ⟨hPc, hDc, hFc⟩ := g5_sub3 (wc := [(b_o, (oc12 u_th u_sa b_rf b_ro b_im b_ke u_fd b_tp u_td u_fr u_to u_so u_wo u_fa u_bd u_nc b_nl u_co b_op b_ar u_le b_pi b_pa u_pd u_od b_ws b_hw z149 b_se b_re z150 z151 z152 z153 z154 z155 z156 z157 b_pt z158 z159 b_ip u_ic b_ah b_be b_me u_wd b_tr b_ld u_st b_wn u_id)), (b_ro, (arI G 5740 v_ro))]) hP hD hS hA [2, 3] (by decide +kernel) rfl
                        refine va_calli (va_runV (As := [.int z211]) (rest := []) ⟨hx, hb, hml, hown, hts⟩ (n_isWall l G b_o b_ro b_rf b_im b_ke b_tp b_nl b_op b_ar b_pi b_pa b_ws b_hw b_se b_re b_pt b_ip b_ah b_be b_me b_tr b_ld b_wn H.size u_th u_sa u_fd u_td u_fr u_to u_so u_fa u_bd u_nc u_co u_le u_pd u_od z149 z150 z153 z154 z155 z156 z157 z158 z159 u_ic u_wd u_id z211 u_wo z151 z152 u_st v_ro h_u_td h_u_fr h_u_to h_u_bd h_u_nc h_u_co h_u_pd i_140 i_141 i_142 i_143 i_144 i_145 i_146 h_u_ic h_u_id ⟨by omega, by omega⟩ (r_ro)) (cwV 1 hts gV_X12_160 rfl rfl rfl hv_X12_isWall ⟨Nat.le_of_ble_eq_true rfl, Nat.le_of_ble_eq_true rfl⟩) (g5_preV hPc hK hDc hN hT hS hFc (ci := 12) (q0 := 0) rfl rfl) rfl rfl hl.1 rfl (lv_room (Nat.le_of_ble_eq_true rfl)) dX12_findSoonest_188 ⟨Nat.le_of_ble_eq_true rfl, Nat.le_of_ble_eq_true rfl⟩) hS (fun q _ h => hFc q h) hFc (fun r u t H locs ht hvm hw hB hz1 hk1 hS => ?_)
                        obtain ⟨hP1, hD1⟩ := hB
                        have hP1 := g5_ht ht hP1
                        obtain ⟨z217, (i_216 : 0 ≤ z217.toInt ∧ z217.toInt ≤ 1), y218, rfl⟩ := hw
                        have hJ9 := va_join (wr := [(b_tr, (arZ G 1536 k137_tr)), (b_ld, (arZ G 1536 (upd k78_ld ((64 * k62_5) + k78_6).toNatClampNeg 1))), (b_se, (arJ G 13 z160)), (b_re, (arJ G 400 z161)), (b_pt, (arI G 200 z162))]) hP hD [2, 3] [0, 1, 4, 5, 6] rfl rfl (by decide +kernel) (by decide +kernel) hk1 hFc hP1 hD1
                        clear hP hD hPc hDc hFc ht hvm hz1 hk1 hP1 hD1
                        obtain ⟨hP, hD⟩ := hJ9
                        refine g5_rs [(b_tr, (arZ G 1536 k137_tr)), (b_ld, (arZ G 1536 (upd k78_ld ((64 * k62_5) + k78_6).toNatClampNeg 1))), (b_se, (arJ G 13 z160)), (b_re, (arJ G 400 z161)), (b_pt, (arI G 200 z162)), (b_o, (oc12 u_th u_sa b_rf b_ro b_im b_ke u_fd b_tp u_td u_fr u_to u_so u_wo u_fa u_bd u_nc b_nl u_co b_op b_ar u_le b_pi b_pa u_pd u_od b_ws b_hw z149 b_se b_re z150 z151 z152 z153 z154 z155 z156 z157 b_pt z158 z159 b_ip u_ic b_ah b_be b_me u_wd b_tr b_ld u_st b_wn u_id)), (b_ro, (arI G 5740 v_ro))] hP hD ?_
                        clear hP hD
                        intro hP hD
                        refine g5_ti (v := z217) y218 ?_
                        refine lv_if_ne (tgt := 210) hx hb dX12_findSoonest_191 (by decide +kernel) (fun c_219 => ?_) (fun c_219 => ?_)
                        ·
                          have n_219 : gNe (z217.toInt) (0) := g5_ne (a := z217.toInt) (b := 0) rfl (by decide +kernel) c_219
                          have i_219 : z217.toInt ≥ 1 := by have z := g5_ne (a := z217.toInt) (b := 0) (by rfl) (by decide +kernel) c_219; omega
                          refine lv_iinc (v := (k137_7 + 1)) (lv' := [(7, .int (k137_7 + 1)), (8, .int z211), (4, .int k62_5), (6, .int k78_6), (5, .int k62_5), (0, .ref b_o), (1, .int p_1), (2, .int p_2), (3, .int p_3)]) hx hb dX12_findSoonest_210 hl (k := 1) rfl rfl (by decide +kernel) rfl ?_
                          clear hl
                          intro ls hl
                          have t_220 : (k137_7 + 1).toInt = k137_7.toInt + 1 := g5_iadd (a := k137_7.toInt) (b := 1) rfl (by decide +kernel) (by omega) (by omega)
                          refine lv_goto (tgt := 137) hx hb dX12_findSoonest_213 (by decide +kernel) ?_
                          exact ih_137_204 ((k137_7 + 1), k137_tr) ls H locs (show Int.toNat (5 - (k137_7 + 1).toInt) < Int.toNat (5 - k137_7.toInt) from g_up (show k137_7.toInt < (k137_7 + 1).toInt by omega) (show k137_7.toInt < 5 by omega)) ⟨lv_sub hl [0, 2, 3, 4, 5, 6, 7, 8] rfl, hP.sub [0, 1, 5, 6, 2, 3, 4] rfl, hD.sub [0, 1, 5, 6, 2, 3, 4] (by decide +kernel) rfl, hS, ⟨by omega, by omega⟩⟩
                        ·
                          have i_219 : z217.toInt = 0 := g5_neN (a := z217.toInt) (b := 0) rfl (by decide +kernel) c_219
                          refine lv_aload_n hx hb dX12_findSoonest_194 rfl (lv_at hl 5 rfl) ?_
                          refine va_get (D := G.1) (ci := 12) (v := .ref b_tr) (C := RX12) (T := TX12) (N := 52) hx hb hts inG_X12 hown hK hP 5 rfl rfl 47 (by decide +kernel) (hts _ fl_X12_98) (fun _ h9 => h9) rfl dX12_findSoonest_195 ?_
                          refine lv_bipush (v := 64) hx hb dX12_findSoonest_198 (by decide +kernel) ?_
                          refine lv_iload hx hb dX12_findSoonest_200 (lv_at hl 4 rfl) ?_
                          refine lv_iconst (v := 1) hx hb dX12_findSoonest_202 (by decide +kernel) ?_
                          refine lv_iadd hx hb dX12_findSoonest_203 ?_
                          have t_221 : (k62_5 + 1).toInt = k62_5.toInt + 1 := g5_iadd (a := k62_5.toInt) (b := 1) (by rfl) (by decide +kernel) (by omega) (by omega)
                          refine lv_imul hx hb dX12_findSoonest_204 ?_
                          have t_222 : (64 * (k62_5 + 1)).toInt = 64 * (k62_5 + 1).toInt := g5_imul (a := 64) (b := (k62_5 + 1).toInt) (by decide +kernel) (by rfl) (by omega) (by omega)
                          refine lv_iload hx hb dX12_findSoonest_205 (lv_at hl 0 rfl) ?_
                          refine lv_iadd hx hb dX12_findSoonest_207 ?_
                          have t_223 : ((64 * (k62_5 + 1)) + z211).toInt = (64 * (k62_5 + 1)).toInt + z211.toInt := g5_iadd (a := (64 * (k62_5 + 1)).toInt) (b := z211.toInt) (by rfl) (by rfl) (by omega) (by omega)
                          refine lv_iconst (v := 1) hx hb dX12_findSoonest_208 (by decide +kernel) ?_
                          refine va_zast hx hb hK hP hD hS 0 2 rfl rfl (i := ((64 * (k62_5 + 1)) + z211)) (x := 1) (vp_in_iff.mpr ⟨by omega, by omega⟩) dX12_findSoonest_209 ?_
                          clear hP hD hS
                          intro H locs hP hD hS
                          refine g5_rs [(b_tr, (arZ G 1536 (upd k137_tr ((64 * (k62_5 + 1)) + z211).toNatClampNeg 1))), (b_ld, (arZ G 1536 (upd k78_ld ((64 * k62_5) + k78_6).toNatClampNeg 1))), (b_se, (arJ G 13 z160)), (b_re, (arJ G 400 z161)), (b_pt, (arI G 200 z162)), (b_o, (oc12 u_th u_sa b_rf b_ro b_im b_ke u_fd b_tp u_td u_fr u_to u_so u_wo u_fa u_bd u_nc b_nl u_co b_op b_ar u_le b_pi b_pa u_pd u_od b_ws b_hw z149 b_se b_re z150 z151 z152 z153 z154 z155 z156 z157 b_pt z158 z159 b_ip u_ic b_ah b_be b_me u_wd b_tr b_ld u_st b_wn u_id)), (b_ro, (arI G 5740 v_ro))] hP hD ?_
                          clear hP hD
                          intro hP hD
                          refine lv_iinc (v := (k137_7 + 1)) (lv' := [(7, .int (k137_7 + 1)), (8, .int z211), (4, .int k62_5), (6, .int k78_6), (5, .int k62_5), (0, .ref b_o), (1, .int p_1), (2, .int p_2), (3, .int p_3)]) hx hb dX12_findSoonest_210 hl (k := 1) rfl rfl (by decide +kernel) rfl ?_
                          clear hl
                          intro ls hl
                          have t_224 : (k137_7 + 1).toInt = k137_7.toInt + 1 := g5_iadd (a := k137_7.toInt) (b := 1) rfl (by decide +kernel) (by omega) (by omega)
                          refine lv_goto (tgt := 137) hx hb dX12_findSoonest_213 (by decide +kernel) ?_
                          exact ih_137_204 ((k137_7 + 1), (upd k137_tr ((64 * (k62_5 + 1)) + z211).toNatClampNeg 1)) ls H locs (show Int.toNat (5 - (k137_7 + 1).toInt) < Int.toNat (5 - k137_7.toInt) from g_up (show k137_7.toInt < (k137_7 + 1).toInt by omega) (show k137_7.toInt < 5 by omega)) ⟨lv_sub hl [0, 2, 3, 4, 5, 6, 7, 8] rfl, hP.sub [0, 1, 5, 6, 2, 3, 4] rfl, hD.sub [0, 1, 5, 6, 2, 3, 4] (by decide +kernel) rfl, hS, ⟨by omega, by omega⟩⟩
                      ·
                        have i_215 : z211.toInt < 0 := g5_geN (a := z211.toInt) (b := 0) rfl (by decide +kernel) c_215
                        omega
                  ·
                    have i_209 : k137_7.toInt = 4 := g5_neN (a := k137_7.toInt) (b := 4) rfl (by decide +kernel) c_209
                    refine lv_iload hx hb dX12_findSoonest_156 (lv_at hl 2 rfl) ?_
                    refine lv_goto (tgt := 168) hx hb dX12_findSoonest_158 (by decide +kernel) ?_
                    refine lv_istore (lv' := [(8, .int k78_6), (7, .int k137_7), (4, .int k62_5), (6, .int k78_6), (5, .int k62_5), (0, .ref b_o), (1, .int p_1), (2, .int p_2), (3, .int p_3)]) hx hb dX12_findSoonest_168 hl (by decide +kernel) rfl ?_
                    clear hl
                    intro ls hl
                    refine lv_iload hx hb dX12_findSoonest_170 (lv_at hl 0 rfl) ?_
                    refine lv_iconst (v := (-1)) hx hb dX12_findSoonest_172 (by decide +kernel) ?_
                    refine lv_icmp_eq (tgt := 210) hx hb dX12_findSoonest_173 (by decide +kernel) (fun c_225 => ?_) (fun c_225 => ?_)
                    ·
                      have i_225 : k78_6.toInt = (-1) := g5_eq (a := k78_6.toInt) (b := (-1)) rfl (by decide +kernel) c_225
                      omega
                    ·
                      have n_225 : gNe (k78_6.toInt) ((-1)) := g5_eqN (a := k78_6.toInt) (b := (-1)) rfl (by decide +kernel) c_225
                      refine lv_aload_n hx hb dX12_findSoonest_176 rfl (lv_at hl 5 rfl) ?_
                      refine lv_iload hx hb dX12_findSoonest_177 (lv_at hl 0 rfl) ?_
                      refine lv_if_ge (tgt := 186) hx hb dX12_findSoonest_179 (by decide +kernel) (fun c_226 => ?_) (fun c_226 => ?_)
                      ·
                        have i_226 : k78_6.toInt ≥ 0 := g5_ge (a := k78_6.toInt) (b := 0) rfl (by decide +kernel) c_226
                        refine lv_iload hx hb dX12_findSoonest_186 (lv_at hl 0 rfl) ?_
                        obtain ⟨hPc, hDc, hFc⟩ := g5_sub3 (wc := [(b_o, (oc12 u_th u_sa b_rf b_ro b_im b_ke u_fd b_tp u_td u_fr u_to u_so u_wo u_fa u_bd u_nc b_nl u_co b_op b_ar u_le b_pi b_pa u_pd u_od b_ws b_hw z149 b_se b_re z150 z151 z152 z153 z154 z155 z156 z157 b_pt z158 z159 b_ip u_ic b_ah b_be b_me u_wd b_tr b_ld u_st b_wn u_id)), (b_ro, (arI G 5740 v_ro))]) hP hD hS hA [2, 3] (by decide +kernel) rfl
                        refine va_calli (va_runV (As := [.int k78_6]) (rest := []) ⟨hx, hb, hml, hown, hts⟩ (n_isWall l G b_o b_ro b_rf b_im b_ke b_tp b_nl b_op b_ar b_pi b_pa b_ws b_hw b_se b_re b_pt b_ip b_ah b_be b_me b_tr b_ld b_wn H.size u_th u_sa u_fd u_td u_fr u_to u_so u_fa u_bd u_nc u_co u_le u_pd u_od z149 z150 z153 z154 z155 z156 z157 z158 z159 u_ic u_wd u_id k78_6 u_wo z151 z152 u_st v_ro h_u_td h_u_fr h_u_to h_u_bd h_u_nc h_u_co h_u_pd i_140 i_141 i_142 i_143 i_144 i_145 i_146 h_u_ic h_u_id ⟨by omega, by omega⟩ (r_ro)) (cwV 1 hts gV_X12_160 rfl rfl rfl hv_X12_isWall ⟨Nat.le_of_ble_eq_true rfl, Nat.le_of_ble_eq_true rfl⟩) (g5_preV hPc hK hDc hN hT hS hFc (ci := 12) (q0 := 0) rfl rfl) rfl rfl hl.1 rfl (lv_room (Nat.le_of_ble_eq_true rfl)) dX12_findSoonest_188 ⟨Nat.le_of_ble_eq_true rfl, Nat.le_of_ble_eq_true rfl⟩) hS (fun q _ h => hFc q h) hFc (fun r u t H locs ht hvm hw hB hz1 hk1 hS => ?_)
                        obtain ⟨hP1, hD1⟩ := hB
                        have hP1 := g5_ht ht hP1
                        obtain ⟨z228, (i_227 : 0 ≤ z228.toInt ∧ z228.toInt ≤ 1), y229, rfl⟩ := hw
                        have hJ9 := va_join (wr := [(b_tr, (arZ G 1536 k137_tr)), (b_ld, (arZ G 1536 (upd k78_ld ((64 * k62_5) + k78_6).toNatClampNeg 1))), (b_se, (arJ G 13 z160)), (b_re, (arJ G 400 z161)), (b_pt, (arI G 200 z162))]) hP hD [2, 3] [0, 1, 4, 5, 6] rfl rfl (by decide +kernel) (by decide +kernel) hk1 hFc hP1 hD1
                        clear hP hD hPc hDc hFc ht hvm hz1 hk1 hP1 hD1
                        obtain ⟨hP, hD⟩ := hJ9
                        refine g5_rs [(b_tr, (arZ G 1536 k137_tr)), (b_ld, (arZ G 1536 (upd k78_ld ((64 * k62_5) + k78_6).toNatClampNeg 1))), (b_se, (arJ G 13 z160)), (b_re, (arJ G 400 z161)), (b_pt, (arI G 200 z162)), (b_o, (oc12 u_th u_sa b_rf b_ro b_im b_ke u_fd b_tp u_td u_fr u_to u_so u_wo u_fa u_bd u_nc b_nl u_co b_op b_ar u_le b_pi b_pa u_pd u_od b_ws b_hw z149 b_se b_re z150 z151 z152 z153 z154 z155 z156 z157 b_pt z158 z159 b_ip u_ic b_ah b_be b_me u_wd b_tr b_ld u_st b_wn u_id)), (b_ro, (arI G 5740 v_ro))] hP hD ?_
                        clear hP hD
                        intro hP hD
                        refine g5_ti (v := z228) y229 ?_
                        refine lv_if_ne (tgt := 210) hx hb dX12_findSoonest_191 (by decide +kernel) (fun c_230 => ?_) (fun c_230 => ?_)
                        ·
                          have n_230 : gNe (z228.toInt) (0) := g5_ne (a := z228.toInt) (b := 0) rfl (by decide +kernel) c_230
                          have i_230 : z228.toInt ≥ 1 := by have z := g5_ne (a := z228.toInt) (b := 0) (by rfl) (by decide +kernel) c_230; omega
                          refine lv_iinc (v := (k137_7 + 1)) (lv' := [(7, .int (k137_7 + 1)), (8, .int k78_6), (4, .int k62_5), (6, .int k78_6), (5, .int k62_5), (0, .ref b_o), (1, .int p_1), (2, .int p_2), (3, .int p_3)]) hx hb dX12_findSoonest_210 hl (k := 1) rfl rfl (by decide +kernel) rfl ?_
                          clear hl
                          intro ls hl
                          have t_231 : (k137_7 + 1).toInt = k137_7.toInt + 1 := g5_iadd (a := k137_7.toInt) (b := 1) rfl (by decide +kernel) (by omega) (by omega)
                          refine lv_goto (tgt := 137) hx hb dX12_findSoonest_213 (by decide +kernel) ?_
                          exact ih_137_204 ((k137_7 + 1), k137_tr) ls H locs (show Int.toNat (5 - (k137_7 + 1).toInt) < Int.toNat (5 - k137_7.toInt) from g_up (show k137_7.toInt < (k137_7 + 1).toInt by omega) (show k137_7.toInt < 5 by omega)) ⟨lv_sub hl [0, 2, 3, 4, 5, 6, 7, 8] rfl, hP.sub [0, 1, 5, 6, 2, 3, 4] rfl, hD.sub [0, 1, 5, 6, 2, 3, 4] (by decide +kernel) rfl, hS, ⟨by omega, by omega⟩⟩
                        ·
                          have i_230 : z228.toInt = 0 := g5_neN (a := z228.toInt) (b := 0) rfl (by decide +kernel) c_230
                          refine lv_aload_n hx hb dX12_findSoonest_194 rfl (lv_at hl 5 rfl) ?_
                          refine va_get (D := G.1) (ci := 12) (v := .ref b_tr) (C := RX12) (T := TX12) (N := 52) hx hb hts inG_X12 hown hK hP 5 rfl rfl 47 (by decide +kernel) (hts _ fl_X12_98) (fun _ h9 => h9) rfl dX12_findSoonest_195 ?_
                          refine lv_bipush (v := 64) hx hb dX12_findSoonest_198 (by decide +kernel) ?_
                          refine lv_iload hx hb dX12_findSoonest_200 (lv_at hl 4 rfl) ?_
                          refine lv_iconst (v := 1) hx hb dX12_findSoonest_202 (by decide +kernel) ?_
                          refine lv_iadd hx hb dX12_findSoonest_203 ?_
                          have t_232 : (k62_5 + 1).toInt = k62_5.toInt + 1 := g5_iadd (a := k62_5.toInt) (b := 1) (by rfl) (by decide +kernel) (by omega) (by omega)
                          refine lv_imul hx hb dX12_findSoonest_204 ?_
                          have t_233 : (64 * (k62_5 + 1)).toInt = 64 * (k62_5 + 1).toInt := g5_imul (a := 64) (b := (k62_5 + 1).toInt) (by decide +kernel) (by rfl) (by omega) (by omega)
                          refine lv_iload hx hb dX12_findSoonest_205 (lv_at hl 0 rfl) ?_
                          refine lv_iadd hx hb dX12_findSoonest_207 ?_
                          have t_234 : ((64 * (k62_5 + 1)) + k78_6).toInt = (64 * (k62_5 + 1)).toInt + k78_6.toInt := g5_iadd (a := (64 * (k62_5 + 1)).toInt) (b := k78_6.toInt) (by rfl) (by rfl) (by omega) (by omega)
                          refine lv_iconst (v := 1) hx hb dX12_findSoonest_208 (by decide +kernel) ?_
                          refine va_zast hx hb hK hP hD hS 0 2 rfl rfl (i := ((64 * (k62_5 + 1)) + k78_6)) (x := 1) (vp_in_iff.mpr ⟨by omega, by omega⟩) dX12_findSoonest_209 ?_
                          clear hP hD hS
                          intro H locs hP hD hS
                          refine g5_rs [(b_tr, (arZ G 1536 (upd k137_tr ((64 * (k62_5 + 1)) + k78_6).toNatClampNeg 1))), (b_ld, (arZ G 1536 (upd k78_ld ((64 * k62_5) + k78_6).toNatClampNeg 1))), (b_se, (arJ G 13 z160)), (b_re, (arJ G 400 z161)), (b_pt, (arI G 200 z162)), (b_o, (oc12 u_th u_sa b_rf b_ro b_im b_ke u_fd b_tp u_td u_fr u_to u_so u_wo u_fa u_bd u_nc b_nl u_co b_op b_ar u_le b_pi b_pa u_pd u_od b_ws b_hw z149 b_se b_re z150 z151 z152 z153 z154 z155 z156 z157 b_pt z158 z159 b_ip u_ic b_ah b_be b_me u_wd b_tr b_ld u_st b_wn u_id)), (b_ro, (arI G 5740 v_ro))] hP hD ?_
                          clear hP hD
                          intro hP hD
                          refine lv_iinc (v := (k137_7 + 1)) (lv' := [(7, .int (k137_7 + 1)), (8, .int k78_6), (4, .int k62_5), (6, .int k78_6), (5, .int k62_5), (0, .ref b_o), (1, .int p_1), (2, .int p_2), (3, .int p_3)]) hx hb dX12_findSoonest_210 hl (k := 1) rfl rfl (by decide +kernel) rfl ?_
                          clear hl
                          intro ls hl
                          have t_235 : (k137_7 + 1).toInt = k137_7.toInt + 1 := g5_iadd (a := k137_7.toInt) (b := 1) rfl (by decide +kernel) (by omega) (by omega)
                          refine lv_goto (tgt := 137) hx hb dX12_findSoonest_213 (by decide +kernel) ?_
                          exact ih_137_204 ((k137_7 + 1), (upd k137_tr ((64 * (k62_5 + 1)) + k78_6).toNatClampNeg 1)) ls H locs (show Int.toNat (5 - (k137_7 + 1).toInt) < Int.toNat (5 - k137_7.toInt) from g_up (show k137_7.toInt < (k137_7 + 1).toInt by omega) (show k137_7.toInt < 5 by omega)) ⟨lv_sub hl [0, 2, 3, 4, 5, 6, 7, 8] rfl, hP.sub [0, 1, 5, 6, 2, 3, 4] rfl, hD.sub [0, 1, 5, 6, 2, 3, 4] (by decide +kernel) rfl, hS, ⟨by omega, by omega⟩⟩
                      ·
                        have i_226 : k78_6.toInt < 0 := g5_geN (a := k78_6.toInt) (b := 0) rfl (by decide +kernel) c_226
                        omega
  ·
    have i_3 : k3_4.toInt < 1536 := g5_geN (a := k3_4.toInt) (b := 1536) rfl (by decide +kernel) c_3
    refine lv_aload_n hx hb dX12_findSoonest_11 rfl (lv_at hl 1 rfl) ?_
    refine va_get (D := G.1) (ci := 12) (v := .ref b_tr) (C := RX12) (T := TX12) (N := 52) hx hb hts inG_X12 hown hK hP 0 rfl rfl 47 (by decide +kernel) (hts _ fl_X12_98) (fun _ h9 => h9) rfl dX12_findSoonest_12 ?_
    refine lv_iload hx hb dX12_findSoonest_15 (lv_at hl 0 rfl) ?_
    refine lv_iload hx hb dX12_findSoonest_17 (lv_at hl 0 rfl) ?_
    refine lv_bipush (v := 64) hx hb dX12_findSoonest_19 (by decide +kernel) ?_
    refine lv_iload_n hx hb dX12_findSoonest_21 rfl (lv_at hl 4 rfl) ?_
    refine lv_imul hx hb dX12_findSoonest_22 ?_
    have t_236 : (64 * p_3).toInt = 64 * p_3.toInt := g5_imul (a := 64) (b := p_3.toInt) (by decide +kernel) (by rfl) (by omega) (by omega)
    refine lv_iload_n hx hb dX12_findSoonest_23 rfl (lv_at hl 3 rfl) ?_
    refine lv_iadd hx hb dX12_findSoonest_24 ?_
    have t_237 : ((64 * p_3) + p_2).toInt = (64 * p_3).toInt + p_2.toInt := g5_iadd (a := (64 * p_3).toInt) (b := p_2.toInt) (by rfl) (by rfl) (by omega) (by omega)
    refine lv_icmp_ne (tgt := 40) hx hb dX12_findSoonest_25 (by decide +kernel) (fun c_238 => ?_) (fun c_238 => ?_)
    ·
      have n_238 : gNe (k3_4.toInt) (((64 * p_3.toInt) + p_2.toInt)) := by have z := g5_ne (a := k3_4.toInt) (b := ((64 * p_3) + p_2).toInt) (by rfl) (by rfl) c_238; unfold gNe; omega
      refine lv_iconst (v := 0) hx hb dX12_findSoonest_40 (by decide +kernel) ?_
      refine va_zast hx hb hK hP hD hS 5 2 rfl rfl (i := k3_4) (x := 0) (vp_in_iff.mpr ⟨by omega, by omega⟩) dX12_findSoonest_41 ?_
      clear hP hD hS
      intro H locs hP hD hS
      refine g5_rs [(b_o, (oc12 u_th u_sa b_rf b_ro b_im b_ke u_fd b_tp u_td u_fr u_to u_so u_wo u_fa u_bd u_nc b_nl u_co b_op b_ar u_le b_pi b_pa u_pd u_od b_ws b_hw u_la b_se b_re u_bk u_va u_su u_ce u_ho u_wy u_bt u_ps b_pt u_tg u_sn b_ip u_ic b_ah b_be b_me u_wd b_tr b_ld u_st b_wn u_id)), (b_ro, (arI G 5740 v_ro)), (b_se, (arJ G 13 v_se)), (b_re, (arJ G 400 v_re)), (b_pt, (arI G 200 v_pt)), (b_tr, (arZ G 1536 (upd k3_tr k3_4.toNatClampNeg 0))), (b_ld, (arZ G 1536 k3_ld))] hP hD ?_
      clear hP hD
      intro hP hD
      refine lv_aload_n hx hb dX12_findSoonest_42 rfl (lv_at hl 1 rfl) ?_
      refine va_get (D := G.1) (ci := 12) (v := .ref b_ld) (C := RX12) (T := TX12) (N := 52) hx hb hts inG_X12 hown hK hP 0 rfl rfl 48 (by decide +kernel) (hts _ fl_X12_101) (fun _ h9 => h9) rfl dX12_findSoonest_43 ?_
      refine lv_iload hx hb dX12_findSoonest_46 (lv_at hl 0 rfl) ?_
      refine lv_iconst (v := 0) hx hb dX12_findSoonest_48 (by decide +kernel) ?_
      refine va_zast hx hb hK hP hD hS 6 2 rfl rfl (i := k3_4) (x := 0) (vp_in_iff.mpr ⟨by omega, by omega⟩) dX12_findSoonest_49 ?_
      clear hP hD hS
      intro H locs hP hD hS
      refine g5_rs [(b_o, (oc12 u_th u_sa b_rf b_ro b_im b_ke u_fd b_tp u_td u_fr u_to u_so u_wo u_fa u_bd u_nc b_nl u_co b_op b_ar u_le b_pi b_pa u_pd u_od b_ws b_hw u_la b_se b_re u_bk u_va u_su u_ce u_ho u_wy u_bt u_ps b_pt u_tg u_sn b_ip u_ic b_ah b_be b_me u_wd b_tr b_ld u_st b_wn u_id)), (b_ro, (arI G 5740 v_ro)), (b_se, (arJ G 13 v_se)), (b_re, (arJ G 400 v_re)), (b_pt, (arI G 200 v_pt)), (b_tr, (arZ G 1536 (upd k3_tr k3_4.toNatClampNeg 0))), (b_ld, (arZ G 1536 (upd k3_ld k3_4.toNatClampNeg 0)))] hP hD ?_
      clear hP hD
      intro hP hD
      refine lv_iinc (v := (k3_4 + 1)) (lv' := [(4, .int (k3_4 + 1)), (0, .ref b_o), (1, .int p_1), (2, .int p_2), (3, .int p_3)]) hx hb dX12_findSoonest_50 hl (k := 0) rfl rfl (by decide +kernel) rfl ?_
      clear hl
      intro ls hl
      have t_239 : (k3_4 + 1).toInt = k3_4.toInt + 1 := g5_iadd (a := k3_4.toInt) (b := 1) rfl (by decide +kernel) (by omega) (by omega)
      refine lv_goto (tgt := 3) hx hb dX12_findSoonest_53 (by decide +kernel) ?_
      exact ih_3_2 ((k3_4 + 1), (upd k3_tr k3_4.toNatClampNeg 0), (upd k3_ld k3_4.toNatClampNeg 0)) ls H locs (show Int.toNat (1536 - (k3_4 + 1).toInt) < Int.toNat (1536 - k3_4.toInt) from g_up (show k3_4.toInt < (k3_4 + 1).toInt by omega) (show k3_4.toInt < 1536 by omega)) ⟨lv_sub hl [0, 1, 2, 3, 4] rfl, hP, hD, hS, ⟨by omega, by omega⟩⟩
    ·
      have i_238 : k3_4.toInt = ((64 * p_3.toInt) + p_2.toInt) := by have z := g5_neN (a := k3_4.toInt) (b := ((64 * p_3) + p_2).toInt) (by rfl) (by rfl) c_238; omega
      refine lv_aload_n hx hb dX12_findSoonest_28 rfl (lv_at hl 1 rfl) ?_
      refine lv_iload_n hx hb dX12_findSoonest_29 rfl (lv_at hl 3 rfl) ?_
      obtain ⟨hPc, hDc, hFc⟩ := g5_sub3 (wc := [(b_o, (oc12 u_th u_sa b_rf b_ro b_im b_ke u_fd b_tp u_td u_fr u_to u_so u_wo u_fa u_bd u_nc b_nl u_co b_op b_ar u_le b_pi b_pa u_pd u_od b_ws b_hw u_la b_se b_re u_bk u_va u_su u_ce u_ho u_wy u_bt u_ps b_pt u_tg u_sn b_ip u_ic b_ah b_be b_me u_wd b_tr b_ld u_st b_wn u_id)), (b_ro, (arI G 5740 v_ro))]) hP hD hS hA [0, 1] (by decide +kernel) rfl
      refine va_calli (va_runV (As := [.int p_2]) (rest := [.int k3_4, .ref b_tr]) ⟨hx, hb, hml, hown, hts⟩ (n_isWall l G b_o b_ro b_rf b_im b_ke b_tp b_nl b_op b_ar b_pi b_pa b_ws b_hw b_se b_re b_pt b_ip b_ah b_be b_me b_tr b_ld b_wn H.size u_th u_sa u_fd u_td u_fr u_to u_so u_fa u_bd u_nc u_co u_le u_pd u_od u_la u_bk u_ce u_ho u_wy u_bt u_ps u_tg u_sn u_ic u_wd u_id p_2 u_wo u_va u_su u_st v_ro h_u_td h_u_fr h_u_to h_u_bd h_u_nc h_u_co h_u_pd h_u_la h_u_bk h_u_ce h_u_ho h_u_wy h_u_bt h_u_ps h_u_ic h_u_id h_p_2 (r_ro)) (cwV 1 hts gV_X12_160 rfl rfl rfl hv_X12_isWall ⟨Nat.le_of_ble_eq_true rfl, Nat.le_of_ble_eq_true rfl⟩) (g5_preV hPc hK hDc hN hT hS hFc (ci := 12) (q0 := 0) rfl rfl) rfl rfl hl.1 rfl (lv_room (Nat.le_of_ble_eq_true rfl)) dX12_findSoonest_30 ⟨Nat.le_of_ble_eq_true rfl, Nat.le_of_ble_eq_true rfl⟩) hS (fun q _ h => hFc q h) hFc (fun r u t H locs ht hvm hw hB hz1 hk1 hS => ?_)
      obtain ⟨hP1, hD1⟩ := hB
      have hP1 := g5_ht ht hP1
      obtain ⟨z241, (i_240 : 0 ≤ z241.toInt ∧ z241.toInt ≤ 1), y242, rfl⟩ := hw
      have hJ9 := va_join (wr := [(b_se, (arJ G 13 v_se)), (b_re, (arJ G 400 v_re)), (b_pt, (arI G 200 v_pt)), (b_tr, (arZ G 1536 k3_tr)), (b_ld, (arZ G 1536 k3_ld))]) hP hD [0, 1] [2, 3, 4, 5, 6] rfl rfl (by decide +kernel) (by decide +kernel) hk1 hFc hP1 hD1
      clear hP hD hPc hDc hFc ht hvm hz1 hk1 hP1 hD1
      obtain ⟨hP, hD⟩ := hJ9
      refine g5_rs [(b_se, (arJ G 13 v_se)), (b_re, (arJ G 400 v_re)), (b_pt, (arI G 200 v_pt)), (b_tr, (arZ G 1536 k3_tr)), (b_ld, (arZ G 1536 k3_ld)), (b_o, (oc12 u_th u_sa b_rf b_ro b_im b_ke u_fd b_tp u_td u_fr u_to u_so u_wo u_fa u_bd u_nc b_nl u_co b_op b_ar u_le b_pi b_pa u_pd u_od b_ws b_hw u_la b_se b_re u_bk u_va u_su u_ce u_ho u_wy u_bt u_ps b_pt u_tg u_sn b_ip u_ic b_ah b_be b_me u_wd b_tr b_ld u_st b_wn u_id)), (b_ro, (arI G 5740 v_ro))] hP hD ?_
      clear hP hD
      intro hP hD
      refine g5_ti (v := z241) y242 ?_
      refine lv_if_ne (tgt := 40) hx hb dX12_findSoonest_33 (by decide +kernel) (fun c_243 => ?_) (fun c_243 => ?_)
      ·
        have n_243 : gNe (z241.toInt) (0) := g5_ne (a := z241.toInt) (b := 0) rfl (by decide +kernel) c_243
        have i_243 : z241.toInt ≥ 1 := by have z := g5_ne (a := z241.toInt) (b := 0) (by rfl) (by decide +kernel) c_243; omega
        refine lv_iconst (v := 0) hx hb dX12_findSoonest_40 (by decide +kernel) ?_
        refine va_zast hx hb hK hP hD hS 3 2 rfl rfl (i := k3_4) (x := 0) (vp_in_iff.mpr ⟨by omega, by omega⟩) dX12_findSoonest_41 ?_
        clear hP hD hS
        intro H locs hP hD hS
        refine g5_rs [(b_se, (arJ G 13 v_se)), (b_re, (arJ G 400 v_re)), (b_pt, (arI G 200 v_pt)), (b_tr, (arZ G 1536 (upd k3_tr k3_4.toNatClampNeg 0))), (b_ld, (arZ G 1536 k3_ld)), (b_o, (oc12 u_th u_sa b_rf b_ro b_im b_ke u_fd b_tp u_td u_fr u_to u_so u_wo u_fa u_bd u_nc b_nl u_co b_op b_ar u_le b_pi b_pa u_pd u_od b_ws b_hw u_la b_se b_re u_bk u_va u_su u_ce u_ho u_wy u_bt u_ps b_pt u_tg u_sn b_ip u_ic b_ah b_be b_me u_wd b_tr b_ld u_st b_wn u_id)), (b_ro, (arI G 5740 v_ro))] hP hD ?_
        clear hP hD
        intro hP hD
        refine lv_aload_n hx hb dX12_findSoonest_42 rfl (lv_at hl 1 rfl) ?_
        refine va_get (D := G.1) (ci := 12) (v := .ref b_ld) (C := RX12) (T := TX12) (N := 52) hx hb hts inG_X12 hown hK hP 5 rfl rfl 48 (by decide +kernel) (hts _ fl_X12_101) (fun _ h9 => h9) rfl dX12_findSoonest_43 ?_
        refine lv_iload hx hb dX12_findSoonest_46 (lv_at hl 0 rfl) ?_
        refine lv_iconst (v := 0) hx hb dX12_findSoonest_48 (by decide +kernel) ?_
        refine va_zast hx hb hK hP hD hS 4 2 rfl rfl (i := k3_4) (x := 0) (vp_in_iff.mpr ⟨by omega, by omega⟩) dX12_findSoonest_49 ?_
        clear hP hD hS
        intro H locs hP hD hS
        refine g5_rs [(b_se, (arJ G 13 v_se)), (b_re, (arJ G 400 v_re)), (b_pt, (arI G 200 v_pt)), (b_tr, (arZ G 1536 (upd k3_tr k3_4.toNatClampNeg 0))), (b_ld, (arZ G 1536 (upd k3_ld k3_4.toNatClampNeg 0))), (b_o, (oc12 u_th u_sa b_rf b_ro b_im b_ke u_fd b_tp u_td u_fr u_to u_so u_wo u_fa u_bd u_nc b_nl u_co b_op b_ar u_le b_pi b_pa u_pd u_od b_ws b_hw u_la b_se b_re u_bk u_va u_su u_ce u_ho u_wy u_bt u_ps b_pt u_tg u_sn b_ip u_ic b_ah b_be b_me u_wd b_tr b_ld u_st b_wn u_id)), (b_ro, (arI G 5740 v_ro))] hP hD ?_
        clear hP hD
        intro hP hD
        refine lv_iinc (v := (k3_4 + 1)) (lv' := [(4, .int (k3_4 + 1)), (0, .ref b_o), (1, .int p_1), (2, .int p_2), (3, .int p_3)]) hx hb dX12_findSoonest_50 hl (k := 0) rfl rfl (by decide +kernel) rfl ?_
        clear hl
        intro ls hl
        have t_244 : (k3_4 + 1).toInt = k3_4.toInt + 1 := g5_iadd (a := k3_4.toInt) (b := 1) rfl (by decide +kernel) (by omega) (by omega)
        refine lv_goto (tgt := 3) hx hb dX12_findSoonest_53 (by decide +kernel) ?_
        exact ih_3_2 ((k3_4 + 1), (upd k3_tr k3_4.toNatClampNeg 0), (upd k3_ld k3_4.toNatClampNeg 0)) ls H locs (show Int.toNat (1536 - (k3_4 + 1).toInt) < Int.toNat (1536 - k3_4.toInt) from g_up (show k3_4.toInt < (k3_4 + 1).toInt by omega) (show k3_4.toInt < 1536 by omega)) ⟨lv_sub hl [0, 1, 2, 3, 4] rfl, hP.sub [5, 6, 0, 1, 2, 3, 4] rfl, hD.sub [5, 6, 0, 1, 2, 3, 4] (by decide +kernel) rfl, hS, ⟨by omega, by omega⟩⟩
      ·
        have i_243 : z241.toInt = 0 := g5_neN (a := z241.toInt) (b := 0) rfl (by decide +kernel) c_243
        refine lv_iconst (v := 1) hx hb dX12_findSoonest_36 (by decide +kernel) ?_
        refine lv_goto (tgt := 41) hx hb dX12_findSoonest_37 (by decide +kernel) ?_
        refine va_zast hx hb hK hP hD hS 3 2 rfl rfl (i := k3_4) (x := 1) (vp_in_iff.mpr ⟨by omega, by omega⟩) dX12_findSoonest_41 ?_
        clear hP hD hS
        intro H locs hP hD hS
        refine g5_rs [(b_se, (arJ G 13 v_se)), (b_re, (arJ G 400 v_re)), (b_pt, (arI G 200 v_pt)), (b_tr, (arZ G 1536 (upd k3_tr k3_4.toNatClampNeg 1))), (b_ld, (arZ G 1536 k3_ld)), (b_o, (oc12 u_th u_sa b_rf b_ro b_im b_ke u_fd b_tp u_td u_fr u_to u_so u_wo u_fa u_bd u_nc b_nl u_co b_op b_ar u_le b_pi b_pa u_pd u_od b_ws b_hw u_la b_se b_re u_bk u_va u_su u_ce u_ho u_wy u_bt u_ps b_pt u_tg u_sn b_ip u_ic b_ah b_be b_me u_wd b_tr b_ld u_st b_wn u_id)), (b_ro, (arI G 5740 v_ro))] hP hD ?_
        clear hP hD
        intro hP hD
        refine lv_aload_n hx hb dX12_findSoonest_42 rfl (lv_at hl 1 rfl) ?_
        refine va_get (D := G.1) (ci := 12) (v := .ref b_ld) (C := RX12) (T := TX12) (N := 52) hx hb hts inG_X12 hown hK hP 5 rfl rfl 48 (by decide +kernel) (hts _ fl_X12_101) (fun _ h9 => h9) rfl dX12_findSoonest_43 ?_
        refine lv_iload hx hb dX12_findSoonest_46 (lv_at hl 0 rfl) ?_
        refine lv_iconst (v := 0) hx hb dX12_findSoonest_48 (by decide +kernel) ?_
        refine va_zast hx hb hK hP hD hS 4 2 rfl rfl (i := k3_4) (x := 0) (vp_in_iff.mpr ⟨by omega, by omega⟩) dX12_findSoonest_49 ?_
        clear hP hD hS
        intro H locs hP hD hS
        refine g5_rs [(b_se, (arJ G 13 v_se)), (b_re, (arJ G 400 v_re)), (b_pt, (arI G 200 v_pt)), (b_tr, (arZ G 1536 (upd k3_tr k3_4.toNatClampNeg 1))), (b_ld, (arZ G 1536 (upd k3_ld k3_4.toNatClampNeg 0))), (b_o, (oc12 u_th u_sa b_rf b_ro b_im b_ke u_fd b_tp u_td u_fr u_to u_so u_wo u_fa u_bd u_nc b_nl u_co b_op b_ar u_le b_pi b_pa u_pd u_od b_ws b_hw u_la b_se b_re u_bk u_va u_su u_ce u_ho u_wy u_bt u_ps b_pt u_tg u_sn b_ip u_ic b_ah b_be b_me u_wd b_tr b_ld u_st b_wn u_id)), (b_ro, (arI G 5740 v_ro))] hP hD ?_
        clear hP hD
        intro hP hD
        refine lv_iinc (v := (k3_4 + 1)) (lv' := [(4, .int (k3_4 + 1)), (0, .ref b_o), (1, .int p_1), (2, .int p_2), (3, .int p_3)]) hx hb dX12_findSoonest_50 hl (k := 0) rfl rfl (by decide +kernel) rfl ?_
        clear hl
        intro ls hl
        have t_245 : (k3_4 + 1).toInt = k3_4.toInt + 1 := g5_iadd (a := k3_4.toInt) (b := 1) rfl (by decide +kernel) (by omega) (by omega)
        refine lv_goto (tgt := 3) hx hb dX12_findSoonest_53 (by decide +kernel) ?_
        exact ih_3_2 ((k3_4 + 1), (upd k3_tr k3_4.toNatClampNeg 1), (upd k3_ld k3_4.toNatClampNeg 0)) ls H locs (show Int.toNat (1536 - (k3_4 + 1).toInt) < Int.toNat (1536 - k3_4.toInt) from g_up (show k3_4.toInt < (k3_4 + 1).toInt by omega) (show k3_4.toInt < 1536 by omega)) ⟨lv_sub hl [0, 1, 2, 3, 4] rfl, hP.sub [5, 6, 0, 1, 2, 3, 4] rfl, hD.sub [5, 6, 0, 1, 2, 3, 4] (by decide +kernel) rfl, hS, ⟨by omega, by omega⟩⟩
theorem dgX12_soonest_0 : ∀ r ∈ ([(0, (.aload_n 0, 1)), (1, (.iconst 0, 1)), (2, (.putfield 107, 3)), (5, (.aload_n 0, 1)), (6, (.iload_n 1, 1)), (7, (.invokevirtual 180, 3)), (10, (.ifCond .eq 27, 3)), (13, (.iload_n 2, 1)), (14, (.invokestatic 138, 3)), (17, (.ifCond .eq 20, 3)), (20, (.iload_n 3, 1)), (21, (.invokestatic 175, 3)), (24, (.ifCond .eq 13, 3)), (27, (.aload_n 0, 1)), (28, (.iload_n 1, 1)), (29, (.iload_n 2, 1)), (30, (.iload_n 3, 1)), (31, (.invokevirtual 466, 3)), (34, (.goto 4, 3)), (37, (.iconst (-1), 1)), (38, (.ireturn, 1))] : List (Nat × (Instr × Nat))), decode cX12_soonest r.1 = .ok r.2 := by decide +kernel
theorem dX12_soonest_0 : decode cX12_soonest 0 = .ok (.aload_n 0, 1) := dgX12_soonest_0 (0, (.aload_n 0, 1)) (List.mem_of_getElem? (i := 0) rfl)
theorem dX12_soonest_1 : decode cX12_soonest 1 = .ok (.iconst 0, 1) := dgX12_soonest_0 (1, (.iconst 0, 1)) (List.mem_of_getElem? (i := 1) rfl)
theorem dX12_soonest_2 : decode cX12_soonest 2 = .ok (.putfield 107, 3) := dgX12_soonest_0 (2, (.putfield 107, 3)) (List.mem_of_getElem? (i := 2) rfl)
theorem dX12_soonest_5 : decode cX12_soonest 5 = .ok (.aload_n 0, 1) := dgX12_soonest_0 (5, (.aload_n 0, 1)) (List.mem_of_getElem? (i := 3) rfl)
theorem dX12_soonest_6 : decode cX12_soonest 6 = .ok (.iload_n 1, 1) := dgX12_soonest_0 (6, (.iload_n 1, 1)) (List.mem_of_getElem? (i := 4) rfl)
theorem dX12_soonest_7 : decode cX12_soonest 7 = .ok (.invokevirtual 180, 3) := dgX12_soonest_0 (7, (.invokevirtual 180, 3)) (List.mem_of_getElem? (i := 5) rfl)
theorem dX12_soonest_10 : decode cX12_soonest 10 = .ok (.ifCond .eq 27, 3) := dgX12_soonest_0 (10, (.ifCond .eq 27, 3)) (List.mem_of_getElem? (i := 6) rfl)
theorem dX12_soonest_13 : decode cX12_soonest 13 = .ok (.iload_n 2, 1) := dgX12_soonest_0 (13, (.iload_n 2, 1)) (List.mem_of_getElem? (i := 7) rfl)
theorem dX12_soonest_14 : decode cX12_soonest 14 = .ok (.invokestatic 138, 3) := dgX12_soonest_0 (14, (.invokestatic 138, 3)) (List.mem_of_getElem? (i := 8) rfl)
theorem dX12_soonest_17 : decode cX12_soonest 17 = .ok (.ifCond .eq 20, 3) := dgX12_soonest_0 (17, (.ifCond .eq 20, 3)) (List.mem_of_getElem? (i := 9) rfl)
theorem dX12_soonest_20 : decode cX12_soonest 20 = .ok (.iload_n 3, 1) := dgX12_soonest_0 (20, (.iload_n 3, 1)) (List.mem_of_getElem? (i := 10) rfl)
theorem dX12_soonest_21 : decode cX12_soonest 21 = .ok (.invokestatic 175, 3) := dgX12_soonest_0 (21, (.invokestatic 175, 3)) (List.mem_of_getElem? (i := 11) rfl)
theorem dX12_soonest_24 : decode cX12_soonest 24 = .ok (.ifCond .eq 13, 3) := dgX12_soonest_0 (24, (.ifCond .eq 13, 3)) (List.mem_of_getElem? (i := 12) rfl)
theorem dX12_soonest_27 : decode cX12_soonest 27 = .ok (.aload_n 0, 1) := dgX12_soonest_0 (27, (.aload_n 0, 1)) (List.mem_of_getElem? (i := 13) rfl)
theorem dX12_soonest_28 : decode cX12_soonest 28 = .ok (.iload_n 1, 1) := dgX12_soonest_0 (28, (.iload_n 1, 1)) (List.mem_of_getElem? (i := 14) rfl)
theorem dX12_soonest_29 : decode cX12_soonest 29 = .ok (.iload_n 2, 1) := dgX12_soonest_0 (29, (.iload_n 2, 1)) (List.mem_of_getElem? (i := 15) rfl)
theorem dX12_soonest_30 : decode cX12_soonest 30 = .ok (.iload_n 3, 1) := dgX12_soonest_0 (30, (.iload_n 3, 1)) (List.mem_of_getElem? (i := 16) rfl)
theorem dX12_soonest_31 : decode cX12_soonest 31 = .ok (.invokevirtual 466, 3) := dgX12_soonest_0 (31, (.invokevirtual 466, 3)) (List.mem_of_getElem? (i := 17) rfl)
theorem dX12_soonest_34 : decode cX12_soonest 34 = .ok (.goto 4, 3) := dgX12_soonest_0 (34, (.goto 4, 3)) (List.mem_of_getElem? (i := 18) rfl)
theorem dX12_soonest_37 : decode cX12_soonest 37 = .ok (.iconst (-1), 1) := dgX12_soonest_0 (37, (.iconst (-1), 1)) (List.mem_of_getElem? (i := 19) rfl)
theorem dX12_soonest_38 : decode cX12_soonest 38 = .ok (.ireturn, 1) := dgX12_soonest_0 (38, (.ireturn, 1)) (List.mem_of_getElem? (i := 20) rfl)
theorem ml_X12_466 : Cond.methodLink RX12 466 yX12_findSoonest ∈ tblG := tg 1802 (by decide +kernel) (by decide +kernel)
theorem im_X12_findSoonest : Cond.instanceMethod yX12_findSoonest ∈ tblG := tg 1804 (by decide +kernel) (by decide +kernel)
theorem se_X12_findSoonest : Cond.selects RX12 yX12_findSoonest yX12_findSoonest ∈ tblG := tg 86 (by decide +kernel) (by decide +kernel)
theorem cd_X12_findSoonest : Cond.code yX12_findSoonest cX12_findSoonest 9 (some .int) ∈ tblG := tg 1805 (by decide +kernel) (by decide +kernel)
theorem gW_X12_findSoonest : GoodIn tblG (wsG yX12_findSoonest cX12_findSoonest 9 (some .int)) := tgi cd_X12_findSoonest
theorem gV_X12_466 : GoodIn tblG (wsV RX12 466 RX12 yX12_findSoonest (wsG yX12_findSoonest cX12_findSoonest 9 (some .int))) := tgV ml_X12_466 im_X12_findSoonest se_X12_findSoonest ini_X12 gW_X12_findSoonest
theorem hv_X12_findSoonest : yX12_findSoonest.cls = RX12 ∧ yX12_findSoonest.cls ≠ "java/lang/invoke/MethodHandle" ∧ yX12_findSoonest.cls ≠ "java/lang/invoke/VarHandle" ∧ (parseMethodDescriptor yX12_findSoonest.desc).map (fun d => d.parameters.length) = some 3 := by decide +kernel
set_option maxHeartbeats 4000000 in
set_option maxRecDepth 100000 in
theorem n_soonest (l : Launch) (G : g5_G) (b_o b_ro b_se b_re b_pt b_tr b_ld b_rf b_im b_ke b_tp b_nl b_op b_ar b_pi b_pa b_ws b_hw b_ip b_ah b_be b_me b_wn : Nat) (sz : Nat) (u_th : Int32) (u_sa : Int32) (u_fd : Int32) (u_td : Int32) (u_fr : Int32) (u_to : Int32) (u_so : Int32) (u_fa : Int32) (u_bd : Int32) (u_nc : Int32) (u_co : Int32) (u_le : Int32) (u_pd : Int32) (u_od : Int32) (u_la : Int32) (u_bk : Int32) (u_ce : Int32) (u_ho : Int32) (u_wy : Int32) (u_bt : Int32) (u_ps : Int32) (u_tg : Int32) (u_sn : Int32) (u_ic : Int32) (u_wd : Int32) (u_id : Int32) (p_1 : Int32) (p_2 : Int32) (p_3 : Int32) (u_wo : Int64) (u_va : Int64) (u_su : Int64) (u_st : Int64) (v_ro : Nat → Int32) (v_se : Nat → Int64) (v_re : Nat → Int64) (v_pt : Nat → Int32) (v_tr : Nat → Int32) (v_ld : Nat → Int32) (h_u_td : 0 ≤ u_td.toInt ∧ u_td.toInt ≤ 400) (h_u_fr : 0 ≤ u_fr.toInt ∧ u_fr.toInt ≤ 400) (h_u_to : 0 ≤ u_to.toInt ∧ u_to.toInt ≤ 400) (h_u_bd : 0 ≤ u_bd.toInt ∧ u_bd.toInt ≤ 1) (h_u_nc : 0 ≤ u_nc.toInt ∧ u_nc.toInt ≤ 12) (h_u_co : 0 ≤ u_co.toInt ∧ u_co.toInt ≤ 400) (h_u_pd : 0 ≤ u_pd.toInt ∧ u_pd.toInt ≤ 400) (h_u_la : 0 ≤ u_la.toInt ∧ u_la.toInt ≤ 4840) (h_u_bk : 0 ≤ u_bk.toInt ∧ u_bk.toInt ≤ 1) (h_u_ce : 0 ≤ u_ce.toInt ∧ u_ce.toInt ≤ 63) (h_u_ho : 0 ≤ u_ho.toInt ∧ u_ho.toInt ≤ 23) (h_u_wy : 0 ≤ u_wy.toInt ∧ u_wy.toInt ≤ 3) (h_u_bt : 0 ≤ u_bt.toInt ∧ u_bt.toInt ≤ 1000000) (h_u_ps : 0 ≤ u_ps.toInt ∧ u_ps.toInt ≤ 200) (h_u_ic : 0 ≤ u_ic.toInt ∧ u_ic.toInt ≤ 1) (h_u_id : 0 ≤ u_id.toInt ∧ u_id.toInt ≤ 1) (r_ro : MI v_ro) (r_pt : PTI v_pt) : Met l yX12_soonest (wsG yX12_soonest cX12_soonest 4 (some .int)) ({ frames := 9, cells := 0, slots := 0, locals := 228 }) (va_Pc [.ref b_o, .int p_1, .int p_2, .int p_3] (g5_P G [(b_o, (oc12 u_th u_sa b_rf b_ro b_im b_ke u_fd b_tp u_td u_fr u_to u_so u_wo u_fa u_bd u_nc b_nl u_co b_op b_ar u_le b_pi b_pa u_pd u_od b_ws b_hw u_la b_se b_re u_bk u_va u_su u_ce u_ho u_wy u_bt u_ps b_pt u_tg u_sn b_ip u_ic b_ah b_be b_me u_wd b_tr b_ld u_st b_wn u_id)), (b_ro, (arI G 5740 v_ro)), (b_se, (arJ G 13 v_se)), (b_re, (arJ G 400 v_re)), (b_pt, (arI G 200 v_pt)), (b_tr, (arZ G 1536 v_tr)), (b_ld, (arZ G 1536 v_ld))] sz)) (va_Qi (fun (r : Int32) (u : va_W) => (∃ (o_r : Int32) (o_th : Int32) (o_la : Int32) (o_bk : Int32) (o_va : Int64) (o_su : Int64) (o_ce : Int32) (o_ho : Int32) (o_wy : Int32) (o_bt : Int32) (o_ps : Int32) (o_tg : Int32) (o_sn : Int32) (o_se : Nat → Int64) (o_re : Nat → Int64) (o_pt : Nat → Int32) (o_tr : Nat → Int32) (o_ld : Nat → Int32), (0 ≤ o_la.toInt ∧ o_la.toInt ≤ 4840) ∧ (0 ≤ o_bk.toInt ∧ o_bk.toInt ≤ 1) ∧ (0 ≤ o_ce.toInt ∧ o_ce.toInt ≤ 63) ∧ (0 ≤ o_ho.toInt ∧ o_ho.toInt ≤ 23) ∧ (0 ≤ o_wy.toInt ∧ o_wy.toInt ≤ 3) ∧ (0 ≤ o_bt.toInt ∧ o_bt.toInt ≤ 1000000) ∧ (0 ≤ o_ps.toInt ∧ o_ps.toInt ≤ 200) ∧ (PTI o_pt) ∧ (r = o_r) ∧ (u = [(b_o, (oc12 o_th u_sa b_rf b_ro b_im b_ke u_fd b_tp u_td u_fr u_to u_so u_wo u_fa u_bd u_nc b_nl u_co b_op b_ar u_le b_pi b_pa u_pd u_od b_ws b_hw o_la b_se b_re o_bk o_va o_su o_ce o_ho o_wy o_bt o_ps b_pt o_tg o_sn b_ip u_ic b_ah b_be b_me u_wd b_tr b_ld u_st b_wn u_id)), (b_ro, (arI G 5740 v_ro)), (b_se, (arJ G 13 o_se)), (b_re, (arJ G 400 o_re)), (b_pt, (arI G 200 o_pt)), (b_tr, (arZ G 1536 o_tr)), (b_ld, (arZ G 1536 o_ld))]))) (g5_B G (va_A [(b_o, (oc12 u_th u_sa b_rf b_ro b_im b_ke u_fd b_tp u_td u_fr u_to u_so u_wo u_fa u_bd u_nc b_nl u_co b_op b_ar u_le b_pi b_pa u_pd u_od b_ws b_hw u_la b_se b_re u_bk u_va u_su u_ce u_ho u_wy u_bt u_ps b_pt u_tg u_sn b_ip u_ic b_ah b_be b_me u_wd b_tr b_ld u_st b_wn u_id)), (b_ro, (arI G 5740 v_ro)), (b_se, (arJ G 13 v_se)), (b_re, (arJ G 400 v_re)), (b_pt, (arI G 200 v_pt)), (b_tr, (arZ G 1536 v_tr)), (b_ld, (arZ G 1536 v_ld))] sz)) (va_A [(b_o, (oc12 u_th u_sa b_rf b_ro b_im b_ke u_fd b_tp u_td u_fr u_to u_so u_wo u_fa u_bd u_nc b_nl u_co b_op b_ar u_le b_pi b_pa u_pd u_od b_ws b_hw u_la b_se b_re u_bk u_va u_su u_ce u_ho u_wy u_bt u_ps b_pt u_tg u_sn b_ip u_ic b_ah b_be b_me u_wd b_tr b_ld u_st b_wn u_id)), (b_ro, (arI G 5740 v_ro)), (b_se, (arJ G 13 v_se)), (b_re, (arJ G 400 v_re)), (b_pt, (arI G 200 v_pt)), (b_tr, (arZ G 1536 v_tr)), (b_ld, (arZ G 1536 v_ld))] sz)) 0 0 (va_A [(b_o, (oc12 u_th u_sa b_rf b_ro b_im b_ke u_fd b_tp u_td u_fr u_to u_so u_wo u_fa u_bd u_nc b_nl u_co b_op b_ar u_le b_pi b_pa u_pd u_od b_ws b_hw u_la b_se b_re u_bk u_va u_su u_ce u_ho u_wy u_bt u_ps b_pt u_tg u_sn b_ip u_ic b_ah b_be b_me u_wd b_tr b_ld u_st b_wn u_id)), (b_ro, (arI G 5740 v_ro)), (b_se, (arJ G 13 v_se)), (b_re, (arJ G 400 v_re)), (b_pt, (arI G 200 v_pt)), (b_tr, (arZ G 1536 v_tr)), (b_ld, (arZ G 1536 v_ld))] sz) := by
  refine Met.ofW (cc := cX12_soonest) (maxL := 4) (ret := (some .int)) (by decide +kernel) rfl ?_
  intro p e s m args below meth c s₁ B hml hv
  obtain ⟨rfl, hsz, hP, hK, hD0, hN, hT⟩ := hv
  have hx := B.exec
  have hb := B.bytes
  have hr := B.returns
  have hts : ∀ w ∈ tblG, w.before _ s = true := fun w h => atoms_spec (ws := (wsG yX12_soonest cX12_soonest 4 (some .int))) B.pre w (List.mem_cons_of_mem _ h)
  have hown : s.vm.findClass RX12 = some m.cls := findClass_of_methodNamed B.named
  have hlocks := B.notSynchronized
  subst hsz
  have hD := hD0.self (sz := s.heap.size)
  generalize hAe : va_A [(b_o, (oc12 u_th u_sa b_rf b_ro b_im b_ke u_fd b_tp u_td u_fr u_to u_so u_wo u_fa u_bd u_nc b_nl u_co b_op b_ar u_le b_pi b_pa u_pd u_od b_ws b_hw u_la b_se b_re u_bk u_va u_su u_ce u_ho u_wy u_bt u_ps b_pt u_tg u_sn b_ip u_ic b_ah b_be b_me u_wd b_tr b_ld u_st b_wn u_id)), (b_ro, (arI G 5740 v_ro)), (b_se, (arJ G 13 v_se)), (b_re, (arJ G 400 v_re)), (b_pt, (arI G 200 v_pt)), (b_tr, (arZ G 1536 v_tr)), (b_ld, (arZ G 1536 v_ld))] s.heap.size = A at hD hT ⊢
  have hA : ∀ q : Nat, s.heap.size ≤ q → A q := fun q h => by rw [← hAe]; exact Or.inr h
  have hS : va_S A s.heap s.heap [] := va_S.rf
  replace hP : va_P G.1 vwCl [(b_o, (oc12 u_th u_sa b_rf b_ro b_im b_ke u_fd b_tp u_td u_fr u_to u_so u_wo u_fa u_bd u_nc b_nl u_co b_op b_ar u_le b_pi b_pa u_pd u_od b_ws b_hw u_la b_se b_re u_bk u_va u_su u_ce u_ho u_wy u_bt u_ps b_pt u_tg u_sn b_ip u_ic b_ah b_be b_me u_wd b_tr b_ld u_st b_wn u_id)), (b_ro, (arI G 5740 v_ro)), (b_se, (arJ G 13 v_se)), (b_re, (arJ G 400 v_re)), (b_pt, (arI G 200 v_pt)), (b_tr, (arZ G 1536 v_tr)), (b_ld, (arZ G 1536 v_ld))] s.heap := hP
  have hl := lv_entry ([.ref b_o, .int p_1, .int p_2, .int p_3]) (n := 4) (Nat.le_of_ble_eq_true rfl)
  rw [lg_entry_eq]
  generalize (lg_sl ([.ref b_o, .int p_1, .int p_2, .int p_3]) ++ List.replicate (4 - (lg_sl ([.ref b_o, .int p_1, .int p_2, .int p_3])).length) Slot.unset).toArray = ls at hl ⊢
  replace hl : lv_has ls 4 [(0, .ref b_o), (1, .int p_1), (2, .int p_2), (3, .int p_3)] := hl
  refine lv_aload_n hx hb dX12_soonest_0 rfl (lv_at hl 0 rfl) ?_
  refine lv_iconst (v := 0) hx hb dX12_soonest_1 (by decide +kernel) ?_
  refine va_put (D := G.1) (ci := 12) (v := .int 0) (ty := .int) (C := RX12) (T := TX12) (N := 52) hx hb hts inG_X12 tyX12 tyX12_ok nmX12 hown hK hP hD hS 0 rfl rfl 0 (by decide +kernel) (hts _ fl_X12_107) (fun _ h9 => h9) rfl (by decide +kernel) rfl rfl (Nat.le_of_ble_eq_true rfl) dX12_soonest_2 ?_
  clear hP hD hS
  intro H locs hP hD hS
  refine g5_rs [(b_o, (oc12 0 u_sa b_rf b_ro b_im b_ke u_fd b_tp u_td u_fr u_to u_so u_wo u_fa u_bd u_nc b_nl u_co b_op b_ar u_le b_pi b_pa u_pd u_od b_ws b_hw u_la b_se b_re u_bk u_va u_su u_ce u_ho u_wy u_bt u_ps b_pt u_tg u_sn b_ip u_ic b_ah b_be b_me u_wd b_tr b_ld u_st b_wn u_id)), (b_ro, (arI G 5740 v_ro)), (b_se, (arJ G 13 v_se)), (b_re, (arJ G 400 v_re)), (b_pt, (arI G 200 v_pt)), (b_tr, (arZ G 1536 v_tr)), (b_ld, (arZ G 1536 v_ld))] hP hD ?_
  clear hP hD
  intro hP hD
  refine lv_aload_n hx hb dX12_soonest_5 rfl (lv_at hl 0 rfl) ?_
  refine lv_iload_n hx hb dX12_soonest_6 rfl (lv_at hl 1 rfl) ?_
  obtain ⟨hPc, hDc, hFc⟩ := g5_sub3 (wc := [(b_o, (oc12 0 u_sa b_rf b_ro b_im b_ke u_fd b_tp u_td u_fr u_to u_so u_wo u_fa u_bd u_nc b_nl u_co b_op b_ar u_le b_pi b_pa u_pd u_od b_ws b_hw u_la b_se b_re u_bk u_va u_su u_ce u_ho u_wy u_bt u_ps b_pt u_tg u_sn b_ip u_ic b_ah b_be b_me u_wd b_tr b_ld u_st b_wn u_id)), (b_ro, (arI G 5740 v_ro))]) hP hD hS hA [0, 1] (by decide +kernel) rfl
  refine va_calli (va_runV (As := [.int p_1]) (rest := []) ⟨hx, hb, hml, hown, hts⟩ (n_isBody l G b_o b_ro b_rf b_im b_ke b_tp b_nl b_op b_ar b_pi b_pa b_ws b_hw b_se b_re b_pt b_ip b_ah b_be b_me b_tr b_ld b_wn H.size 0 u_sa u_fd u_td u_fr u_to u_so u_fa u_bd u_nc u_co u_le u_pd u_od u_la u_bk u_ce u_ho u_wy u_bt u_ps u_tg u_sn u_ic u_wd u_id p_1 u_wo u_va u_su u_st v_ro h_u_td h_u_fr h_u_to h_u_bd h_u_nc h_u_co h_u_pd h_u_la h_u_bk h_u_ce h_u_ho h_u_wy h_u_bt h_u_ps h_u_ic h_u_id (r_ro)) (cwV 1 hts gV_X12_180 rfl rfl rfl hv_X12_isBody ⟨Nat.le_of_ble_eq_true rfl, Nat.le_of_ble_eq_true rfl⟩) (g5_preV hPc hK hDc hN hT hS hFc (ci := 12) (q0 := 0) rfl rfl) rfl rfl hl.1 rfl (lv_room (Nat.le_of_ble_eq_true rfl)) dX12_soonest_7 ⟨Nat.le_of_ble_eq_true rfl, Nat.le_of_ble_eq_true rfl⟩) hS (fun q _ h => hFc q h) hFc (fun r u t H locs ht hvm hw hB hz1 hk1 hS => ?_)
  obtain ⟨hP1, hD1⟩ := hB
  have hP1 := g5_ht ht hP1
  rcases hw with ⟨(i_1 : 0 ≤ p_1.toInt ∧ p_1.toInt ≤ 4), rfl, rfl⟩ | ⟨rfl, rfl⟩
  ·
    have hJ9 := va_join (wr := [(b_se, (arJ G 13 v_se)), (b_re, (arJ G 400 v_re)), (b_pt, (arI G 200 v_pt)), (b_tr, (arZ G 1536 v_tr)), (b_ld, (arZ G 1536 v_ld))]) hP hD [0, 1] [2, 3, 4, 5, 6] rfl rfl (by decide +kernel) (by decide +kernel) hk1 hFc hP1 hD1
    clear hP hD hPc hDc hFc ht hvm hz1 hk1 hP1 hD1
    obtain ⟨hP, hD⟩ := hJ9
    refine g5_rs [(b_se, (arJ G 13 v_se)), (b_re, (arJ G 400 v_re)), (b_pt, (arI G 200 v_pt)), (b_tr, (arZ G 1536 v_tr)), (b_ld, (arZ G 1536 v_ld)), (b_o, (oc12 0 u_sa b_rf b_ro b_im b_ke u_fd b_tp u_td u_fr u_to u_so u_wo u_fa u_bd u_nc b_nl u_co b_op b_ar u_le b_pi b_pa u_pd u_od b_ws b_hw u_la b_se b_re u_bk u_va u_su u_ce u_ho u_wy u_bt u_ps b_pt u_tg u_sn b_ip u_ic b_ah b_be b_me u_wd b_tr b_ld u_st b_wn u_id)), (b_ro, (arI G 5740 v_ro))] hP hD ?_
    clear hP hD
    intro hP hD
    refine lv_if_eq (tgt := 37) hx hb dX12_soonest_10 (by decide +kernel) (fun c_2 => ?_) (fun c_2 => ?_)
    ·
      exact absurd c_2 (by decide +kernel)
    ·
      refine lv_iload_n hx hb dX12_soonest_13 rfl (lv_at hl 2 rfl) ?_
      obtain ⟨hPc, hDc, hFc⟩ := g5_sub3 (wc := []) hP hD hS hA [] (by decide +kernel) rfl
      refine va_calli (va_runS (As := [.int p_2]) (rest := []) ⟨hx, hb, hml, hown, hts⟩ (n_isCell l G H.size p_2) (va_cwS 1 hts gS_X12_138 rfl rfl rfl hs_X12_isCell ⟨Nat.le_of_ble_eq_true rfl, Nat.le_of_ble_eq_true rfl⟩) (g5_preS hPc hK hDc hN hT hS hFc) rfl rfl hl.1 rfl (lv_room (Nat.le_of_ble_eq_true rfl)) dX12_soonest_14 ⟨Nat.le_of_ble_eq_true rfl, Nat.le_of_ble_eq_true rfl⟩) hS (fun q _ h => hFc q h) hFc (fun r u t H locs ht hvm hw hB hz1 hk1 hS => ?_)
      obtain ⟨hP1, hD1⟩ := hB
      have hP1 := g5_ht ht hP1
      rcases hw with ⟨(i_3 : 0 ≤ p_2.toInt ∧ p_2.toInt ≤ 63), rfl, rfl⟩ | ⟨rfl, rfl⟩
      ·
        have hJ9 := g5_same hP hk1
        clear hP hPc hDc hFc ht hvm hz1 hk1 hP1 hD1
        have hP := hJ9
        clear hJ9
        refine lv_if_eq (tgt := 37) hx hb dX12_soonest_17 (by decide +kernel) (fun c_4 => ?_) (fun c_4 => ?_)
        ·
          exact absurd c_4 (by decide +kernel)
        ·
          refine lv_iload_n hx hb dX12_soonest_20 rfl (lv_at hl 3 rfl) ?_
          obtain ⟨hPc, hDc, hFc⟩ := g5_sub3 (wc := []) hP hD hS hA [] (by decide +kernel) rfl
          refine va_calli (va_runS (As := [.int p_3]) (rest := []) ⟨hx, hb, hml, hown, hts⟩ (n_isHour l G H.size p_3) (va_cwS 1 hts gS_X12_175 rfl rfl rfl hs_X12_isHour ⟨Nat.le_of_ble_eq_true rfl, Nat.le_of_ble_eq_true rfl⟩) (g5_preS hPc hK hDc hN hT hS hFc) rfl rfl hl.1 rfl (lv_room (Nat.le_of_ble_eq_true rfl)) dX12_soonest_21 ⟨Nat.le_of_ble_eq_true rfl, Nat.le_of_ble_eq_true rfl⟩) hS (fun q _ h => hFc q h) hFc (fun r u t H locs ht hvm hw hB hz1 hk1 hS => ?_)
          obtain ⟨hP1, hD1⟩ := hB
          have hP1 := g5_ht ht hP1
          rcases hw with ⟨(i_5 : 0 ≤ p_3.toInt ∧ p_3.toInt ≤ 23), rfl, rfl⟩ | ⟨rfl, rfl⟩
          ·
            have hJ9 := g5_same hP hk1
            clear hP hPc hDc hFc ht hvm hz1 hk1 hP1 hD1
            have hP := hJ9
            clear hJ9
            refine lv_if_eq (tgt := 37) hx hb dX12_soonest_24 (by decide +kernel) (fun c_6 => ?_) (fun c_6 => ?_)
            ·
              exact absurd c_6 (by decide +kernel)
            ·
              refine lv_aload_n hx hb dX12_soonest_27 rfl (lv_at hl 0 rfl) ?_
              refine lv_iload_n hx hb dX12_soonest_28 rfl (lv_at hl 1 rfl) ?_
              refine lv_iload_n hx hb dX12_soonest_29 rfl (lv_at hl 2 rfl) ?_
              refine lv_iload_n hx hb dX12_soonest_30 rfl (lv_at hl 3 rfl) ?_
              obtain ⟨hPc, hDc, hFc⟩ := g5_sub3 (wc := [(b_o, (oc12 0 u_sa b_rf b_ro b_im b_ke u_fd b_tp u_td u_fr u_to u_so u_wo u_fa u_bd u_nc b_nl u_co b_op b_ar u_le b_pi b_pa u_pd u_od b_ws b_hw u_la b_se b_re u_bk u_va u_su u_ce u_ho u_wy u_bt u_ps b_pt u_tg u_sn b_ip u_ic b_ah b_be b_me u_wd b_tr b_ld u_st b_wn u_id)), (b_ro, (arI G 5740 v_ro)), (b_se, (arJ G 13 v_se)), (b_re, (arJ G 400 v_re)), (b_pt, (arI G 200 v_pt)), (b_tr, (arZ G 1536 v_tr)), (b_ld, (arZ G 1536 v_ld))]) hP hD hS hA [5, 6, 0, 1, 2, 3, 4] (by decide +kernel) rfl
              refine va_calli (va_runV (As := [.int p_1, .int p_2, .int p_3]) (rest := []) ⟨hx, hb, hml, hown, hts⟩ (n_findSoonest l G b_o b_ro b_se b_re b_pt b_tr b_ld b_rf b_im b_ke b_tp b_nl b_op b_ar b_pi b_pa b_ws b_hw b_ip b_ah b_be b_me b_wn H.size 0 u_sa u_fd u_td u_fr u_to u_so u_fa u_bd u_nc u_co u_le u_pd u_od u_la u_bk u_ce u_ho u_wy u_bt u_ps u_tg u_sn u_ic u_wd u_id p_1 p_2 p_3 u_wo u_va u_su u_st v_ro v_se v_re v_pt v_tr v_ld h_u_td h_u_fr h_u_to h_u_bd h_u_nc h_u_co h_u_pd h_u_la h_u_bk h_u_ce h_u_ho h_u_wy h_u_bt h_u_ps h_u_ic h_u_id i_3 i_5 (r_ro) (r_pt)) (cwV 3 hts gV_X12_466 rfl rfl rfl hv_X12_findSoonest ⟨Nat.le_of_ble_eq_true rfl, Nat.le_of_ble_eq_true rfl⟩) (g5_preV hPc hK hDc hN hT hS hFc (ci := 12) (q0 := 0) rfl rfl) rfl rfl hl.1 rfl (lv_room (Nat.le_of_ble_eq_true rfl)) dX12_soonest_31 ⟨Nat.le_of_ble_eq_true rfl, Nat.le_of_ble_eq_true rfl⟩) hS (fun q _ h => hFc q h) hFc (fun r u t H locs ht hvm hw hB hz1 hk1 hS => ?_)
              obtain ⟨hP1, hD1⟩ := hB
              have hP1 := g5_ht ht hP1
              obtain ⟨z16, z17, z18, z19, z20, z21, z22, z23, z24, z25, z26, z27, z28, z29, z30, z31, z32, (i_7 : (-1) ≤ z16.toInt ∧ z16.toInt ≤ 23), (i_8 : 0 ≤ z17.toInt ∧ z17.toInt ≤ 4840), (i_9 : 0 ≤ z18.toInt ∧ z18.toInt ≤ 1), (i_10 : 0 ≤ z21.toInt ∧ z21.toInt ≤ 63), (i_11 : 0 ≤ z22.toInt ∧ z22.toInt ≤ 23), (i_12 : 0 ≤ z23.toInt ∧ z23.toInt ≤ 3), (i_13 : 0 ≤ z24.toInt ∧ z24.toInt ≤ 1000000), (i_14 : 0 ≤ z25.toInt ∧ z25.toInt ≤ 200), (i_15 : PTI z30), y33, rfl⟩ := hw
              have hJ9 := va_join (wr := []) hP hD [5, 6, 0, 1, 2, 3, 4] [] rfl rfl (by decide +kernel) (by decide +kernel) hk1 hFc hP1 hD1
              clear hP hD hPc hDc hFc ht hvm hz1 hk1 hP1 hD1
              obtain ⟨hP, hD⟩ := hJ9
              refine g5_rs [(b_o, (oc12 0 u_sa b_rf b_ro b_im b_ke u_fd b_tp u_td u_fr u_to u_so u_wo u_fa u_bd u_nc b_nl u_co b_op b_ar u_le b_pi b_pa u_pd u_od b_ws b_hw z17 b_se b_re z18 z19 z20 z21 z22 z23 z24 z25 b_pt z26 z27 b_ip u_ic b_ah b_be b_me u_wd b_tr b_ld u_st b_wn u_id)), (b_ro, (arI G 5740 v_ro)), (b_se, (arJ G 13 z28)), (b_re, (arJ G 400 z29)), (b_pt, (arI G 200 z30)), (b_tr, (arZ G 1536 z31)), (b_ld, (arZ G 1536 z32))] hP hD ?_
              clear hP hD
              intro hP hD
              refine g5_ti (v := z16) y33 ?_
              refine lv_goto (tgt := 38) hx hb dX12_soonest_34 (by decide +kernel) ?_
              exact W.iret (v := z16) hx hb hr (fun t ht hW => ⟨⟨z16, [(b_o, (oc12 0 u_sa b_rf b_ro b_im b_ke u_fd b_tp u_td u_fr u_to u_so u_wo u_fa u_bd u_nc b_nl u_co b_op b_ar u_le b_pi b_pa u_pd u_od b_ws b_hw z17 b_se b_re z18 z19 z20 z21 z22 z23 z24 z25 b_pt z26 z27 b_ip u_ic b_ah b_be b_me u_wd b_tr b_ld u_st b_wn u_id)), (b_ro, (arI G 5740 v_ro)), (b_se, (arJ G 13 z28)), (b_re, (arJ G 400 z29)), (b_pt, (arI G 200 z30)), (b_tr, (arZ G 1536 z31)), (b_ld, (arZ G 1536 z32))], rfl, ⟨z16, 0, z17, z18, z19, z20, z21, z22, z23, z24, z25, z26, z27, z28, z29, z30, z31, z32, i_8, i_9, i_10, i_11, i_12, i_13, i_14, i_15, rfl, rfl⟩, by rw [ht]; exact hP.sub [0, 1, 2, 3, 4, 5, 6] rfl, hD.sub [0, 1, 2, 3, 4, 5, 6] (by decide +kernel) rfl⟩, hS.F ht⟩) hS.2.2 dX12_soonest_38
          ·
            have hJ9 := g5_same hP hk1
            clear hP hPc hDc hFc ht hvm hz1 hk1 hP1 hD1
            have hP := hJ9
            clear hJ9
            refine lv_if_eq (tgt := 37) hx hb dX12_soonest_24 (by decide +kernel) (fun c_34 => ?_) (fun c_34 => ?_)
            ·
              refine lv_iconst (v := (-1)) hx hb dX12_soonest_37 (by decide +kernel) ?_
              exact W.iret (v := (-1)) hx hb hr (fun t ht hW => ⟨⟨(-1), [(b_o, (oc12 0 u_sa b_rf b_ro b_im b_ke u_fd b_tp u_td u_fr u_to u_so u_wo u_fa u_bd u_nc b_nl u_co b_op b_ar u_le b_pi b_pa u_pd u_od b_ws b_hw u_la b_se b_re u_bk u_va u_su u_ce u_ho u_wy u_bt u_ps b_pt u_tg u_sn b_ip u_ic b_ah b_be b_me u_wd b_tr b_ld u_st b_wn u_id)), (b_ro, (arI G 5740 v_ro)), (b_se, (arJ G 13 v_se)), (b_re, (arJ G 400 v_re)), (b_pt, (arI G 200 v_pt)), (b_tr, (arZ G 1536 v_tr)), (b_ld, (arZ G 1536 v_ld))], rfl, ⟨(-1), 0, u_la, u_bk, u_va, u_su, u_ce, u_ho, u_wy, u_bt, u_ps, u_tg, u_sn, v_se, v_re, v_pt, v_tr, v_ld, h_u_la, h_u_bk, h_u_ce, h_u_ho, h_u_wy, h_u_bt, h_u_ps, r_pt, rfl, rfl⟩, by rw [ht]; exact hP.sub [5, 6, 0, 1, 2, 3, 4] rfl, hD.sub [5, 6, 0, 1, 2, 3, 4] (by decide +kernel) rfl⟩, hS.F ht⟩) hS.2.2 dX12_soonest_38
            ·
              exact absurd c_34 (by decide +kernel)
      ·
        have hJ9 := g5_same hP hk1
        clear hP hPc hDc hFc ht hvm hz1 hk1 hP1 hD1
        have hP := hJ9
        clear hJ9
        refine lv_if_eq (tgt := 37) hx hb dX12_soonest_17 (by decide +kernel) (fun c_35 => ?_) (fun c_35 => ?_)
        ·
          refine lv_iconst (v := (-1)) hx hb dX12_soonest_37 (by decide +kernel) ?_
          exact W.iret (v := (-1)) hx hb hr (fun t ht hW => ⟨⟨(-1), [(b_o, (oc12 0 u_sa b_rf b_ro b_im b_ke u_fd b_tp u_td u_fr u_to u_so u_wo u_fa u_bd u_nc b_nl u_co b_op b_ar u_le b_pi b_pa u_pd u_od b_ws b_hw u_la b_se b_re u_bk u_va u_su u_ce u_ho u_wy u_bt u_ps b_pt u_tg u_sn b_ip u_ic b_ah b_be b_me u_wd b_tr b_ld u_st b_wn u_id)), (b_ro, (arI G 5740 v_ro)), (b_se, (arJ G 13 v_se)), (b_re, (arJ G 400 v_re)), (b_pt, (arI G 200 v_pt)), (b_tr, (arZ G 1536 v_tr)), (b_ld, (arZ G 1536 v_ld))], rfl, ⟨(-1), 0, u_la, u_bk, u_va, u_su, u_ce, u_ho, u_wy, u_bt, u_ps, u_tg, u_sn, v_se, v_re, v_pt, v_tr, v_ld, h_u_la, h_u_bk, h_u_ce, h_u_ho, h_u_wy, h_u_bt, h_u_ps, r_pt, rfl, rfl⟩, by rw [ht]; exact hP.sub [5, 6, 0, 1, 2, 3, 4] rfl, hD.sub [5, 6, 0, 1, 2, 3, 4] (by decide +kernel) rfl⟩, hS.F ht⟩) hS.2.2 dX12_soonest_38
        ·
          exact absurd c_35 (by decide +kernel)
  ·
    have hJ9 := va_join (wr := [(b_se, (arJ G 13 v_se)), (b_re, (arJ G 400 v_re)), (b_pt, (arI G 200 v_pt)), (b_tr, (arZ G 1536 v_tr)), (b_ld, (arZ G 1536 v_ld))]) hP hD [0, 1] [2, 3, 4, 5, 6] rfl rfl (by decide +kernel) (by decide +kernel) hk1 hFc hP1 hD1
    clear hP hD hPc hDc hFc ht hvm hz1 hk1 hP1 hD1
    obtain ⟨hP, hD⟩ := hJ9
    refine g5_rs [(b_se, (arJ G 13 v_se)), (b_re, (arJ G 400 v_re)), (b_pt, (arI G 200 v_pt)), (b_tr, (arZ G 1536 v_tr)), (b_ld, (arZ G 1536 v_ld)), (b_o, (oc12 0 u_sa b_rf b_ro b_im b_ke u_fd b_tp u_td u_fr u_to u_so u_wo u_fa u_bd u_nc b_nl u_co b_op b_ar u_le b_pi b_pa u_pd u_od b_ws b_hw u_la b_se b_re u_bk u_va u_su u_ce u_ho u_wy u_bt u_ps b_pt u_tg u_sn b_ip u_ic b_ah b_be b_me u_wd b_tr b_ld u_st b_wn u_id)), (b_ro, (arI G 5740 v_ro))] hP hD ?_
    clear hP hD
    intro hP hD
    refine lv_if_eq (tgt := 37) hx hb dX12_soonest_10 (by decide +kernel) (fun c_36 => ?_) (fun c_36 => ?_)
    ·
      refine lv_iconst (v := (-1)) hx hb dX12_soonest_37 (by decide +kernel) ?_
      exact W.iret (v := (-1)) hx hb hr (fun t ht hW => ⟨⟨(-1), [(b_o, (oc12 0 u_sa b_rf b_ro b_im b_ke u_fd b_tp u_td u_fr u_to u_so u_wo u_fa u_bd u_nc b_nl u_co b_op b_ar u_le b_pi b_pa u_pd u_od b_ws b_hw u_la b_se b_re u_bk u_va u_su u_ce u_ho u_wy u_bt u_ps b_pt u_tg u_sn b_ip u_ic b_ah b_be b_me u_wd b_tr b_ld u_st b_wn u_id)), (b_ro, (arI G 5740 v_ro)), (b_se, (arJ G 13 v_se)), (b_re, (arJ G 400 v_re)), (b_pt, (arI G 200 v_pt)), (b_tr, (arZ G 1536 v_tr)), (b_ld, (arZ G 1536 v_ld))], rfl, ⟨(-1), 0, u_la, u_bk, u_va, u_su, u_ce, u_ho, u_wy, u_bt, u_ps, u_tg, u_sn, v_se, v_re, v_pt, v_tr, v_ld, h_u_la, h_u_bk, h_u_ce, h_u_ho, h_u_wy, h_u_bt, h_u_ps, r_pt, rfl, rfl⟩, by rw [ht]; exact hP.sub [5, 6, 0, 1, 2, 3, 4] rfl, hD.sub [5, 6, 0, 1, 2, 3, 4] (by decide +kernel) rfl⟩, hS.F ht⟩) hS.2.2 dX12_soonest_38
    ·
      exact absurd c_36 (by decide +kernel)
theorem dgX12_way_0 : ∀ r ∈ ([(0, (.aload_n 0, 1)), (1, (.iconst 0, 1)), (2, (.putfield 107, 3)), (5, (.aload_n 0, 1)), (6, (.iload_n 1, 1)), (7, (.invokevirtual 180, 3)), (10, (.ifCond .eq 17, 3)), (13, (.iload_n 2, 1)), (14, (.invokestatic 138, 3)), (17, (.ifCond .eq 10, 3)), (20, (.iload_n 3, 1)), (21, (.invokestatic 175, 3)), (24, (.ifCond .ne 5, 3)), (27, (.iconst (-1), 1)), (28, (.ireturn, 1)), (29, (.aload_n 0, 1)), (30, (.iload_n 1, 1)), (31, (.iload_n 2, 1)), (32, (.iload_n 3, 1)), (33, (.invokevirtual 466, 3)), (36, (.istore 5, 2)), (38, (.iload 4, 2)), (40, (.i2l, 1)), (41, (.iload_n 3, 1)), (42, (.i2l, 1)), (43, (.iload 5, 2)), (45, (.i2l, 1)), (46, (.invokestatic 121, 3)), (49, (.ifCond .ne 5, 3)), (52, (.iconst (-1), 1)), (53, (.ireturn, 1)), (54, (.iload_n 2, 1)), (55, (.istore 6, 2)), (57, (.iload_n 3, 1)), (58, (.iconst 1, 1)), (59, (.iadd, 1)), (60, (.istore 7, 2)), (62, (.iload 7, 2)), (64, (.iload 4, 2)), (66, (.if_icmp .gt 66, 3))] : List (Nat × (Instr × Nat))), decode cX12_way r.1 = .ok r.2 := by decide +kernel
theorem dX12_way_0 : decode cX12_way 0 = .ok (.aload_n 0, 1) := dgX12_way_0 (0, (.aload_n 0, 1)) (List.mem_of_getElem? (i := 0) rfl)
theorem dX12_way_1 : decode cX12_way 1 = .ok (.iconst 0, 1) := dgX12_way_0 (1, (.iconst 0, 1)) (List.mem_of_getElem? (i := 1) rfl)
theorem dX12_way_2 : decode cX12_way 2 = .ok (.putfield 107, 3) := dgX12_way_0 (2, (.putfield 107, 3)) (List.mem_of_getElem? (i := 2) rfl)
theorem dX12_way_5 : decode cX12_way 5 = .ok (.aload_n 0, 1) := dgX12_way_0 (5, (.aload_n 0, 1)) (List.mem_of_getElem? (i := 3) rfl)
theorem dX12_way_6 : decode cX12_way 6 = .ok (.iload_n 1, 1) := dgX12_way_0 (6, (.iload_n 1, 1)) (List.mem_of_getElem? (i := 4) rfl)
theorem dX12_way_7 : decode cX12_way 7 = .ok (.invokevirtual 180, 3) := dgX12_way_0 (7, (.invokevirtual 180, 3)) (List.mem_of_getElem? (i := 5) rfl)
theorem dX12_way_10 : decode cX12_way 10 = .ok (.ifCond .eq 17, 3) := dgX12_way_0 (10, (.ifCond .eq 17, 3)) (List.mem_of_getElem? (i := 6) rfl)
theorem dX12_way_13 : decode cX12_way 13 = .ok (.iload_n 2, 1) := dgX12_way_0 (13, (.iload_n 2, 1)) (List.mem_of_getElem? (i := 7) rfl)
theorem dX12_way_14 : decode cX12_way 14 = .ok (.invokestatic 138, 3) := dgX12_way_0 (14, (.invokestatic 138, 3)) (List.mem_of_getElem? (i := 8) rfl)
theorem dX12_way_17 : decode cX12_way 17 = .ok (.ifCond .eq 10, 3) := dgX12_way_0 (17, (.ifCond .eq 10, 3)) (List.mem_of_getElem? (i := 9) rfl)
theorem dX12_way_20 : decode cX12_way 20 = .ok (.iload_n 3, 1) := dgX12_way_0 (20, (.iload_n 3, 1)) (List.mem_of_getElem? (i := 10) rfl)
theorem dX12_way_21 : decode cX12_way 21 = .ok (.invokestatic 175, 3) := dgX12_way_0 (21, (.invokestatic 175, 3)) (List.mem_of_getElem? (i := 11) rfl)
theorem dX12_way_24 : decode cX12_way 24 = .ok (.ifCond .ne 5, 3) := dgX12_way_0 (24, (.ifCond .ne 5, 3)) (List.mem_of_getElem? (i := 12) rfl)
theorem dX12_way_27 : decode cX12_way 27 = .ok (.iconst (-1), 1) := dgX12_way_0 (27, (.iconst (-1), 1)) (List.mem_of_getElem? (i := 13) rfl)
theorem dX12_way_28 : decode cX12_way 28 = .ok (.ireturn, 1) := dgX12_way_0 (28, (.ireturn, 1)) (List.mem_of_getElem? (i := 14) rfl)
theorem dX12_way_29 : decode cX12_way 29 = .ok (.aload_n 0, 1) := dgX12_way_0 (29, (.aload_n 0, 1)) (List.mem_of_getElem? (i := 15) rfl)
theorem dX12_way_30 : decode cX12_way 30 = .ok (.iload_n 1, 1) := dgX12_way_0 (30, (.iload_n 1, 1)) (List.mem_of_getElem? (i := 16) rfl)
theorem dX12_way_31 : decode cX12_way 31 = .ok (.iload_n 2, 1) := dgX12_way_0 (31, (.iload_n 2, 1)) (List.mem_of_getElem? (i := 17) rfl)
theorem dX12_way_32 : decode cX12_way 32 = .ok (.iload_n 3, 1) := dgX12_way_0 (32, (.iload_n 3, 1)) (List.mem_of_getElem? (i := 18) rfl)
theorem dX12_way_33 : decode cX12_way 33 = .ok (.invokevirtual 466, 3) := dgX12_way_0 (33, (.invokevirtual 466, 3)) (List.mem_of_getElem? (i := 19) rfl)
theorem dX12_way_36 : decode cX12_way 36 = .ok (.istore 5, 2) := dgX12_way_0 (36, (.istore 5, 2)) (List.mem_of_getElem? (i := 20) rfl)
theorem dX12_way_38 : decode cX12_way 38 = .ok (.iload 4, 2) := dgX12_way_0 (38, (.iload 4, 2)) (List.mem_of_getElem? (i := 21) rfl)
theorem dX12_way_40 : decode cX12_way 40 = .ok (.i2l, 1) := dgX12_way_0 (40, (.i2l, 1)) (List.mem_of_getElem? (i := 22) rfl)
theorem dX12_way_41 : decode cX12_way 41 = .ok (.iload_n 3, 1) := dgX12_way_0 (41, (.iload_n 3, 1)) (List.mem_of_getElem? (i := 23) rfl)
theorem dX12_way_42 : decode cX12_way 42 = .ok (.i2l, 1) := dgX12_way_0 (42, (.i2l, 1)) (List.mem_of_getElem? (i := 24) rfl)
theorem dX12_way_43 : decode cX12_way 43 = .ok (.iload 5, 2) := dgX12_way_0 (43, (.iload 5, 2)) (List.mem_of_getElem? (i := 25) rfl)
theorem dX12_way_45 : decode cX12_way 45 = .ok (.i2l, 1) := dgX12_way_0 (45, (.i2l, 1)) (List.mem_of_getElem? (i := 26) rfl)
theorem dX12_way_46 : decode cX12_way 46 = .ok (.invokestatic 121, 3) := dgX12_way_0 (46, (.invokestatic 121, 3)) (List.mem_of_getElem? (i := 27) rfl)
theorem dX12_way_49 : decode cX12_way 49 = .ok (.ifCond .ne 5, 3) := dgX12_way_0 (49, (.ifCond .ne 5, 3)) (List.mem_of_getElem? (i := 28) rfl)
theorem dX12_way_52 : decode cX12_way 52 = .ok (.iconst (-1), 1) := dgX12_way_0 (52, (.iconst (-1), 1)) (List.mem_of_getElem? (i := 29) rfl)
theorem dX12_way_53 : decode cX12_way 53 = .ok (.ireturn, 1) := dgX12_way_0 (53, (.ireturn, 1)) (List.mem_of_getElem? (i := 30) rfl)
theorem dX12_way_54 : decode cX12_way 54 = .ok (.iload_n 2, 1) := dgX12_way_0 (54, (.iload_n 2, 1)) (List.mem_of_getElem? (i := 31) rfl)
theorem dX12_way_55 : decode cX12_way 55 = .ok (.istore 6, 2) := dgX12_way_0 (55, (.istore 6, 2)) (List.mem_of_getElem? (i := 32) rfl)
theorem dX12_way_57 : decode cX12_way 57 = .ok (.iload_n 3, 1) := dgX12_way_0 (57, (.iload_n 3, 1)) (List.mem_of_getElem? (i := 33) rfl)
theorem dX12_way_58 : decode cX12_way 58 = .ok (.iconst 1, 1) := dgX12_way_0 (58, (.iconst 1, 1)) (List.mem_of_getElem? (i := 34) rfl)
theorem dX12_way_59 : decode cX12_way 59 = .ok (.iadd, 1) := dgX12_way_0 (59, (.iadd, 1)) (List.mem_of_getElem? (i := 35) rfl)
theorem dX12_way_60 : decode cX12_way 60 = .ok (.istore 7, 2) := dgX12_way_0 (60, (.istore 7, 2)) (List.mem_of_getElem? (i := 36) rfl)
theorem dX12_way_62 : decode cX12_way 62 = .ok (.iload 7, 2) := dgX12_way_0 (62, (.iload 7, 2)) (List.mem_of_getElem? (i := 37) rfl)
theorem dX12_way_64 : decode cX12_way 64 = .ok (.iload 4, 2) := dgX12_way_0 (64, (.iload 4, 2)) (List.mem_of_getElem? (i := 38) rfl)
theorem dX12_way_66 : decode cX12_way 66 = .ok (.if_icmp .gt 66, 3) := dgX12_way_0 (66, (.if_icmp .gt 66, 3)) (List.mem_of_getElem? (i := 39) rfl)
theorem dgX12_way_1 : ∀ r ∈ ([(69, (.iconst (-1), 1)), (70, (.istore 8, 2)), (72, (.bipush 63, 2)), (74, (.istore 9, 2)), (76, (.iload 9, 2)), (78, (.ifCond .lt 44, 3)), (81, (.iload 6, 2)), (83, (.iload 9, 2)), (85, (.invokestatic 454, 3)), (88, (.ifCond .eq 24, 3)), (91, (.aload_n 0, 1)), (92, (.getfield 101, 3)), (95, (.bipush 64, 2)), (97, (.iload 7, 2)), (99, (.imul, 1)), (100, (.iload 9, 2)), (102, (.iadd, 1)), (103, (.baload, 1)), (104, (.ifCond .eq 8, 3)), (107, (.iload 9, 2)), (109, (.goto 5, 3)), (112, (.iload 8, 2)), (114, (.istore 8, 2)), (116, (.iinc 9 (-1), 3)), (119, (.goto (-43), 3)), (122, (.iload 8, 2)), (124, (.istore 6, 2)), (126, (.iinc 7 1, 3)), (129, (.goto (-67), 3)), (132, (.iload 6, 2)), (134, (.ireturn, 1))] : List (Nat × (Instr × Nat))), decode cX12_way r.1 = .ok r.2 := by decide +kernel
theorem dX12_way_69 : decode cX12_way 69 = .ok (.iconst (-1), 1) := dgX12_way_1 (69, (.iconst (-1), 1)) (List.mem_of_getElem? (i := 0) rfl)
theorem dX12_way_70 : decode cX12_way 70 = .ok (.istore 8, 2) := dgX12_way_1 (70, (.istore 8, 2)) (List.mem_of_getElem? (i := 1) rfl)
theorem dX12_way_72 : decode cX12_way 72 = .ok (.bipush 63, 2) := dgX12_way_1 (72, (.bipush 63, 2)) (List.mem_of_getElem? (i := 2) rfl)
theorem dX12_way_74 : decode cX12_way 74 = .ok (.istore 9, 2) := dgX12_way_1 (74, (.istore 9, 2)) (List.mem_of_getElem? (i := 3) rfl)
theorem dX12_way_76 : decode cX12_way 76 = .ok (.iload 9, 2) := dgX12_way_1 (76, (.iload 9, 2)) (List.mem_of_getElem? (i := 4) rfl)
theorem dX12_way_78 : decode cX12_way 78 = .ok (.ifCond .lt 44, 3) := dgX12_way_1 (78, (.ifCond .lt 44, 3)) (List.mem_of_getElem? (i := 5) rfl)
theorem dX12_way_81 : decode cX12_way 81 = .ok (.iload 6, 2) := dgX12_way_1 (81, (.iload 6, 2)) (List.mem_of_getElem? (i := 6) rfl)
theorem dX12_way_83 : decode cX12_way 83 = .ok (.iload 9, 2) := dgX12_way_1 (83, (.iload 9, 2)) (List.mem_of_getElem? (i := 7) rfl)
theorem dX12_way_85 : decode cX12_way 85 = .ok (.invokestatic 454, 3) := dgX12_way_1 (85, (.invokestatic 454, 3)) (List.mem_of_getElem? (i := 8) rfl)
theorem dX12_way_88 : decode cX12_way 88 = .ok (.ifCond .eq 24, 3) := dgX12_way_1 (88, (.ifCond .eq 24, 3)) (List.mem_of_getElem? (i := 9) rfl)
theorem dX12_way_91 : decode cX12_way 91 = .ok (.aload_n 0, 1) := dgX12_way_1 (91, (.aload_n 0, 1)) (List.mem_of_getElem? (i := 10) rfl)
theorem dX12_way_92 : decode cX12_way 92 = .ok (.getfield 101, 3) := dgX12_way_1 (92, (.getfield 101, 3)) (List.mem_of_getElem? (i := 11) rfl)
theorem dX12_way_95 : decode cX12_way 95 = .ok (.bipush 64, 2) := dgX12_way_1 (95, (.bipush 64, 2)) (List.mem_of_getElem? (i := 12) rfl)
theorem dX12_way_97 : decode cX12_way 97 = .ok (.iload 7, 2) := dgX12_way_1 (97, (.iload 7, 2)) (List.mem_of_getElem? (i := 13) rfl)
theorem dX12_way_99 : decode cX12_way 99 = .ok (.imul, 1) := dgX12_way_1 (99, (.imul, 1)) (List.mem_of_getElem? (i := 14) rfl)
theorem dX12_way_100 : decode cX12_way 100 = .ok (.iload 9, 2) := dgX12_way_1 (100, (.iload 9, 2)) (List.mem_of_getElem? (i := 15) rfl)
theorem dX12_way_102 : decode cX12_way 102 = .ok (.iadd, 1) := dgX12_way_1 (102, (.iadd, 1)) (List.mem_of_getElem? (i := 16) rfl)
theorem dX12_way_103 : decode cX12_way 103 = .ok (.baload, 1) := dgX12_way_1 (103, (.baload, 1)) (List.mem_of_getElem? (i := 17) rfl)
theorem dX12_way_104 : decode cX12_way 104 = .ok (.ifCond .eq 8, 3) := dgX12_way_1 (104, (.ifCond .eq 8, 3)) (List.mem_of_getElem? (i := 18) rfl)
theorem dX12_way_107 : decode cX12_way 107 = .ok (.iload 9, 2) := dgX12_way_1 (107, (.iload 9, 2)) (List.mem_of_getElem? (i := 19) rfl)
theorem dX12_way_109 : decode cX12_way 109 = .ok (.goto 5, 3) := dgX12_way_1 (109, (.goto 5, 3)) (List.mem_of_getElem? (i := 20) rfl)
theorem dX12_way_112 : decode cX12_way 112 = .ok (.iload 8, 2) := dgX12_way_1 (112, (.iload 8, 2)) (List.mem_of_getElem? (i := 21) rfl)
theorem dX12_way_114 : decode cX12_way 114 = .ok (.istore 8, 2) := dgX12_way_1 (114, (.istore 8, 2)) (List.mem_of_getElem? (i := 22) rfl)
theorem dX12_way_116 : decode cX12_way 116 = .ok (.iinc 9 (-1), 3) := dgX12_way_1 (116, (.iinc 9 (-1), 3)) (List.mem_of_getElem? (i := 23) rfl)
theorem dX12_way_119 : decode cX12_way 119 = .ok (.goto (-43), 3) := dgX12_way_1 (119, (.goto (-43), 3)) (List.mem_of_getElem? (i := 24) rfl)
theorem dX12_way_122 : decode cX12_way 122 = .ok (.iload 8, 2) := dgX12_way_1 (122, (.iload 8, 2)) (List.mem_of_getElem? (i := 25) rfl)
theorem dX12_way_124 : decode cX12_way 124 = .ok (.istore 6, 2) := dgX12_way_1 (124, (.istore 6, 2)) (List.mem_of_getElem? (i := 26) rfl)
theorem dX12_way_126 : decode cX12_way 126 = .ok (.iinc 7 1, 3) := dgX12_way_1 (126, (.iinc 7 1, 3)) (List.mem_of_getElem? (i := 27) rfl)
theorem dX12_way_129 : decode cX12_way 129 = .ok (.goto (-67), 3) := dgX12_way_1 (129, (.goto (-67), 3)) (List.mem_of_getElem? (i := 28) rfl)
theorem dX12_way_132 : decode cX12_way 132 = .ok (.iload 6, 2) := dgX12_way_1 (132, (.iload 6, 2)) (List.mem_of_getElem? (i := 29) rfl)
theorem dX12_way_134 : decode cX12_way 134 = .ok (.ireturn, 1) := dgX12_way_1 (134, (.ireturn, 1)) (List.mem_of_getElem? (i := 30) rfl)
theorem ml_X12_454 : Cond.methodLink RX12 454 yX12_isStep ∈ tblG := tg 1768 (by decide +kernel) (by decide +kernel)
theorem st_X12_isStep : Cond.static yX12_isStep ∈ tblG := tg 1769 (by decide +kernel) (by decide +kernel)
theorem cd_X12_isStep : Cond.code yX12_isStep cX12_isStep 4 (some .boolean) ∈ tblG := tg 1770 (by decide +kernel) (by decide +kernel)
theorem gW_X12_isStep : GoodIn tblG (wsG yX12_isStep cX12_isStep 4 (some .boolean)) := tgi cd_X12_isStep
theorem gS_X12_454 : GoodIn tblG (va_wsS RX12 454 yX12_isStep (wsG yX12_isStep cX12_isStep 4 (some .boolean))) := tgS ml_X12_454 st_X12_isStep ini_X12 gW_X12_isStep
theorem hs_X12_isStep : yX12_isStep.cls ≠ "java/lang/invoke/MethodHandle" ∧ yX12_isStep.cls ≠ "java/lang/invoke/VarHandle" ∧ (parseMethodDescriptor yX12_isStep.desc).map (fun d => d.parameters.length) = some 2 := by decide +kernel
set_option maxHeartbeats 4000000 in
set_option maxRecDepth 100000 in
theorem n_way (l : Launch) (G : g5_G) (b_o b_ro b_se b_re b_pt b_tr b_ld b_rf b_im b_ke b_tp b_nl b_op b_ar b_pi b_pa b_ws b_hw b_ip b_ah b_be b_me b_wn : Nat) (sz : Nat) (u_th : Int32) (u_sa : Int32) (u_fd : Int32) (u_td : Int32) (u_fr : Int32) (u_to : Int32) (u_so : Int32) (u_fa : Int32) (u_bd : Int32) (u_nc : Int32) (u_co : Int32) (u_le : Int32) (u_pd : Int32) (u_od : Int32) (u_la : Int32) (u_bk : Int32) (u_ce : Int32) (u_ho : Int32) (u_wy : Int32) (u_bt : Int32) (u_ps : Int32) (u_tg : Int32) (u_sn : Int32) (u_ic : Int32) (u_wd : Int32) (u_id : Int32) (p_1 : Int32) (p_2 : Int32) (p_3 : Int32) (p_4 : Int32) (u_wo : Int64) (u_va : Int64) (u_su : Int64) (u_st : Int64) (v_ro : Nat → Int32) (v_se : Nat → Int64) (v_re : Nat → Int64) (v_pt : Nat → Int32) (v_tr : Nat → Int32) (v_ld : Nat → Int32) (h_u_td : 0 ≤ u_td.toInt ∧ u_td.toInt ≤ 400) (h_u_fr : 0 ≤ u_fr.toInt ∧ u_fr.toInt ≤ 400) (h_u_to : 0 ≤ u_to.toInt ∧ u_to.toInt ≤ 400) (h_u_bd : 0 ≤ u_bd.toInt ∧ u_bd.toInt ≤ 1) (h_u_nc : 0 ≤ u_nc.toInt ∧ u_nc.toInt ≤ 12) (h_u_co : 0 ≤ u_co.toInt ∧ u_co.toInt ≤ 400) (h_u_pd : 0 ≤ u_pd.toInt ∧ u_pd.toInt ≤ 400) (h_u_la : 0 ≤ u_la.toInt ∧ u_la.toInt ≤ 4840) (h_u_bk : 0 ≤ u_bk.toInt ∧ u_bk.toInt ≤ 1) (h_u_ce : 0 ≤ u_ce.toInt ∧ u_ce.toInt ≤ 63) (h_u_ho : 0 ≤ u_ho.toInt ∧ u_ho.toInt ≤ 23) (h_u_wy : 0 ≤ u_wy.toInt ∧ u_wy.toInt ≤ 3) (h_u_bt : 0 ≤ u_bt.toInt ∧ u_bt.toInt ≤ 1000000) (h_u_ps : 0 ≤ u_ps.toInt ∧ u_ps.toInt ≤ 200) (h_u_ic : 0 ≤ u_ic.toInt ∧ u_ic.toInt ≤ 1) (h_u_id : 0 ≤ u_id.toInt ∧ u_id.toInt ≤ 1) (r_ro : MI v_ro) (r_pt : PTI v_pt) : Met l yX12_way (wsG yX12_way cX12_way 10 (some .int)) ({ frames := 9, cells := 0, slots := 0, locals := 228 }) (va_Pc [.ref b_o, .int p_1, .int p_2, .int p_3, .int p_4] (g5_P G [(b_o, (oc12 u_th u_sa b_rf b_ro b_im b_ke u_fd b_tp u_td u_fr u_to u_so u_wo u_fa u_bd u_nc b_nl u_co b_op b_ar u_le b_pi b_pa u_pd u_od b_ws b_hw u_la b_se b_re u_bk u_va u_su u_ce u_ho u_wy u_bt u_ps b_pt u_tg u_sn b_ip u_ic b_ah b_be b_me u_wd b_tr b_ld u_st b_wn u_id)), (b_ro, (arI G 5740 v_ro)), (b_se, (arJ G 13 v_se)), (b_re, (arJ G 400 v_re)), (b_pt, (arI G 200 v_pt)), (b_tr, (arZ G 1536 v_tr)), (b_ld, (arZ G 1536 v_ld))] sz)) (va_Qi (fun (r : Int32) (u : va_W) => (∃ (o_r : Int32) (o_th : Int32) (o_la : Int32) (o_bk : Int32) (o_va : Int64) (o_su : Int64) (o_ce : Int32) (o_ho : Int32) (o_wy : Int32) (o_bt : Int32) (o_ps : Int32) (o_tg : Int32) (o_sn : Int32) (o_se : Nat → Int64) (o_re : Nat → Int64) (o_pt : Nat → Int32) (o_tr : Nat → Int32) (o_ld : Nat → Int32), (0 ≤ o_la.toInt ∧ o_la.toInt ≤ 4840) ∧ (0 ≤ o_bk.toInt ∧ o_bk.toInt ≤ 1) ∧ (0 ≤ o_ce.toInt ∧ o_ce.toInt ≤ 63) ∧ (0 ≤ o_ho.toInt ∧ o_ho.toInt ≤ 23) ∧ (0 ≤ o_wy.toInt ∧ o_wy.toInt ≤ 3) ∧ (0 ≤ o_bt.toInt ∧ o_bt.toInt ≤ 1000000) ∧ (0 ≤ o_ps.toInt ∧ o_ps.toInt ≤ 200) ∧ (PTI o_pt) ∧ (r = o_r) ∧ (u = [(b_o, (oc12 o_th u_sa b_rf b_ro b_im b_ke u_fd b_tp u_td u_fr u_to u_so u_wo u_fa u_bd u_nc b_nl u_co b_op b_ar u_le b_pi b_pa u_pd u_od b_ws b_hw o_la b_se b_re o_bk o_va o_su o_ce o_ho o_wy o_bt o_ps b_pt o_tg o_sn b_ip u_ic b_ah b_be b_me u_wd b_tr b_ld u_st b_wn u_id)), (b_ro, (arI G 5740 v_ro)), (b_se, (arJ G 13 o_se)), (b_re, (arJ G 400 o_re)), (b_pt, (arI G 200 o_pt)), (b_tr, (arZ G 1536 o_tr)), (b_ld, (arZ G 1536 o_ld))]))) (g5_B G (va_A [(b_o, (oc12 u_th u_sa b_rf b_ro b_im b_ke u_fd b_tp u_td u_fr u_to u_so u_wo u_fa u_bd u_nc b_nl u_co b_op b_ar u_le b_pi b_pa u_pd u_od b_ws b_hw u_la b_se b_re u_bk u_va u_su u_ce u_ho u_wy u_bt u_ps b_pt u_tg u_sn b_ip u_ic b_ah b_be b_me u_wd b_tr b_ld u_st b_wn u_id)), (b_ro, (arI G 5740 v_ro)), (b_se, (arJ G 13 v_se)), (b_re, (arJ G 400 v_re)), (b_pt, (arI G 200 v_pt)), (b_tr, (arZ G 1536 v_tr)), (b_ld, (arZ G 1536 v_ld))] sz)) (va_A [(b_o, (oc12 u_th u_sa b_rf b_ro b_im b_ke u_fd b_tp u_td u_fr u_to u_so u_wo u_fa u_bd u_nc b_nl u_co b_op b_ar u_le b_pi b_pa u_pd u_od b_ws b_hw u_la b_se b_re u_bk u_va u_su u_ce u_ho u_wy u_bt u_ps b_pt u_tg u_sn b_ip u_ic b_ah b_be b_me u_wd b_tr b_ld u_st b_wn u_id)), (b_ro, (arI G 5740 v_ro)), (b_se, (arJ G 13 v_se)), (b_re, (arJ G 400 v_re)), (b_pt, (arI G 200 v_pt)), (b_tr, (arZ G 1536 v_tr)), (b_ld, (arZ G 1536 v_ld))] sz)) 0 0 (va_A [(b_o, (oc12 u_th u_sa b_rf b_ro b_im b_ke u_fd b_tp u_td u_fr u_to u_so u_wo u_fa u_bd u_nc b_nl u_co b_op b_ar u_le b_pi b_pa u_pd u_od b_ws b_hw u_la b_se b_re u_bk u_va u_su u_ce u_ho u_wy u_bt u_ps b_pt u_tg u_sn b_ip u_ic b_ah b_be b_me u_wd b_tr b_ld u_st b_wn u_id)), (b_ro, (arI G 5740 v_ro)), (b_se, (arJ G 13 v_se)), (b_re, (arJ G 400 v_re)), (b_pt, (arI G 200 v_pt)), (b_tr, (arZ G 1536 v_tr)), (b_ld, (arZ G 1536 v_ld))] sz) := by
  refine Met.ofW (cc := cX12_way) (maxL := 10) (ret := (some .int)) (by decide +kernel) rfl ?_
  intro p e s m args below meth c s₁ B hml hv
  obtain ⟨rfl, hsz, hP, hK, hD0, hN, hT⟩ := hv
  have hx := B.exec
  have hb := B.bytes
  have hr := B.returns
  have hts : ∀ w ∈ tblG, w.before _ s = true := fun w h => atoms_spec (ws := (wsG yX12_way cX12_way 10 (some .int))) B.pre w (List.mem_cons_of_mem _ h)
  have hown : s.vm.findClass RX12 = some m.cls := findClass_of_methodNamed B.named
  have hlocks := B.notSynchronized
  subst hsz
  have hD := hD0.self (sz := s.heap.size)
  generalize hAe : va_A [(b_o, (oc12 u_th u_sa b_rf b_ro b_im b_ke u_fd b_tp u_td u_fr u_to u_so u_wo u_fa u_bd u_nc b_nl u_co b_op b_ar u_le b_pi b_pa u_pd u_od b_ws b_hw u_la b_se b_re u_bk u_va u_su u_ce u_ho u_wy u_bt u_ps b_pt u_tg u_sn b_ip u_ic b_ah b_be b_me u_wd b_tr b_ld u_st b_wn u_id)), (b_ro, (arI G 5740 v_ro)), (b_se, (arJ G 13 v_se)), (b_re, (arJ G 400 v_re)), (b_pt, (arI G 200 v_pt)), (b_tr, (arZ G 1536 v_tr)), (b_ld, (arZ G 1536 v_ld))] s.heap.size = A at hD hT ⊢
  have hA : ∀ q : Nat, s.heap.size ≤ q → A q := fun q h => by rw [← hAe]; exact Or.inr h
  have hS : va_S A s.heap s.heap [] := va_S.rf
  replace hP : va_P G.1 vwCl [(b_o, (oc12 u_th u_sa b_rf b_ro b_im b_ke u_fd b_tp u_td u_fr u_to u_so u_wo u_fa u_bd u_nc b_nl u_co b_op b_ar u_le b_pi b_pa u_pd u_od b_ws b_hw u_la b_se b_re u_bk u_va u_su u_ce u_ho u_wy u_bt u_ps b_pt u_tg u_sn b_ip u_ic b_ah b_be b_me u_wd b_tr b_ld u_st b_wn u_id)), (b_ro, (arI G 5740 v_ro)), (b_se, (arJ G 13 v_se)), (b_re, (arJ G 400 v_re)), (b_pt, (arI G 200 v_pt)), (b_tr, (arZ G 1536 v_tr)), (b_ld, (arZ G 1536 v_ld))] s.heap := hP
  have hl := lv_entry ([.ref b_o, .int p_1, .int p_2, .int p_3, .int p_4]) (n := 10) (Nat.le_of_ble_eq_true rfl)
  rw [lg_entry_eq]
  generalize (lg_sl ([.ref b_o, .int p_1, .int p_2, .int p_3, .int p_4]) ++ List.replicate (10 - (lg_sl ([.ref b_o, .int p_1, .int p_2, .int p_3, .int p_4])).length) Slot.unset).toArray = ls at hl ⊢
  replace hl : lv_has ls 10 [(0, .ref b_o), (1, .int p_1), (2, .int p_2), (3, .int p_3), (4, .int p_4)] := hl
  refine lv_aload_n hx hb dX12_way_0 rfl (lv_at hl 0 rfl) ?_
  refine lv_iconst (v := 0) hx hb dX12_way_1 (by decide +kernel) ?_
  refine va_put (D := G.1) (ci := 12) (v := .int 0) (ty := .int) (C := RX12) (T := TX12) (N := 52) hx hb hts inG_X12 tyX12 tyX12_ok nmX12 hown hK hP hD hS 0 rfl rfl 0 (by decide +kernel) (hts _ fl_X12_107) (fun _ h9 => h9) rfl (by decide +kernel) rfl rfl (Nat.le_of_ble_eq_true rfl) dX12_way_2 ?_
  clear hP hD hS
  intro H locs hP hD hS
  refine g5_rs [(b_o, (oc12 0 u_sa b_rf b_ro b_im b_ke u_fd b_tp u_td u_fr u_to u_so u_wo u_fa u_bd u_nc b_nl u_co b_op b_ar u_le b_pi b_pa u_pd u_od b_ws b_hw u_la b_se b_re u_bk u_va u_su u_ce u_ho u_wy u_bt u_ps b_pt u_tg u_sn b_ip u_ic b_ah b_be b_me u_wd b_tr b_ld u_st b_wn u_id)), (b_ro, (arI G 5740 v_ro)), (b_se, (arJ G 13 v_se)), (b_re, (arJ G 400 v_re)), (b_pt, (arI G 200 v_pt)), (b_tr, (arZ G 1536 v_tr)), (b_ld, (arZ G 1536 v_ld))] hP hD ?_
  clear hP hD
  intro hP hD
  refine lv_aload_n hx hb dX12_way_5 rfl (lv_at hl 0 rfl) ?_
  refine lv_iload_n hx hb dX12_way_6 rfl (lv_at hl 1 rfl) ?_
  obtain ⟨hPc, hDc, hFc⟩ := g5_sub3 (wc := [(b_o, (oc12 0 u_sa b_rf b_ro b_im b_ke u_fd b_tp u_td u_fr u_to u_so u_wo u_fa u_bd u_nc b_nl u_co b_op b_ar u_le b_pi b_pa u_pd u_od b_ws b_hw u_la b_se b_re u_bk u_va u_su u_ce u_ho u_wy u_bt u_ps b_pt u_tg u_sn b_ip u_ic b_ah b_be b_me u_wd b_tr b_ld u_st b_wn u_id)), (b_ro, (arI G 5740 v_ro))]) hP hD hS hA [0, 1] (by decide +kernel) rfl
  refine va_calli (va_runV (As := [.int p_1]) (rest := []) ⟨hx, hb, hml, hown, hts⟩ (n_isBody l G b_o b_ro b_rf b_im b_ke b_tp b_nl b_op b_ar b_pi b_pa b_ws b_hw b_se b_re b_pt b_ip b_ah b_be b_me b_tr b_ld b_wn H.size 0 u_sa u_fd u_td u_fr u_to u_so u_fa u_bd u_nc u_co u_le u_pd u_od u_la u_bk u_ce u_ho u_wy u_bt u_ps u_tg u_sn u_ic u_wd u_id p_1 u_wo u_va u_su u_st v_ro h_u_td h_u_fr h_u_to h_u_bd h_u_nc h_u_co h_u_pd h_u_la h_u_bk h_u_ce h_u_ho h_u_wy h_u_bt h_u_ps h_u_ic h_u_id (r_ro)) (cwV 1 hts gV_X12_180 rfl rfl rfl hv_X12_isBody ⟨Nat.le_of_ble_eq_true rfl, Nat.le_of_ble_eq_true rfl⟩) (g5_preV hPc hK hDc hN hT hS hFc (ci := 12) (q0 := 0) rfl rfl) rfl rfl hl.1 rfl (lv_room (Nat.le_of_ble_eq_true rfl)) dX12_way_7 ⟨Nat.le_of_ble_eq_true rfl, Nat.le_of_ble_eq_true rfl⟩) hS (fun q _ h => hFc q h) hFc (fun r u t H locs ht hvm hw hB hz1 hk1 hS => ?_)
  obtain ⟨hP1, hD1⟩ := hB
  have hP1 := g5_ht ht hP1
  rcases hw with ⟨(i_1 : 0 ≤ p_1.toInt ∧ p_1.toInt ≤ 4), rfl, rfl⟩ | ⟨rfl, rfl⟩
  ·
    have hJ9 := va_join (wr := [(b_se, (arJ G 13 v_se)), (b_re, (arJ G 400 v_re)), (b_pt, (arI G 200 v_pt)), (b_tr, (arZ G 1536 v_tr)), (b_ld, (arZ G 1536 v_ld))]) hP hD [0, 1] [2, 3, 4, 5, 6] rfl rfl (by decide +kernel) (by decide +kernel) hk1 hFc hP1 hD1
    clear hP hD hPc hDc hFc ht hvm hz1 hk1 hP1 hD1
    obtain ⟨hP, hD⟩ := hJ9
    refine g5_rs [(b_se, (arJ G 13 v_se)), (b_re, (arJ G 400 v_re)), (b_pt, (arI G 200 v_pt)), (b_tr, (arZ G 1536 v_tr)), (b_ld, (arZ G 1536 v_ld)), (b_o, (oc12 0 u_sa b_rf b_ro b_im b_ke u_fd b_tp u_td u_fr u_to u_so u_wo u_fa u_bd u_nc b_nl u_co b_op b_ar u_le b_pi b_pa u_pd u_od b_ws b_hw u_la b_se b_re u_bk u_va u_su u_ce u_ho u_wy u_bt u_ps b_pt u_tg u_sn b_ip u_ic b_ah b_be b_me u_wd b_tr b_ld u_st b_wn u_id)), (b_ro, (arI G 5740 v_ro))] hP hD ?_
    clear hP hD
    intro hP hD
    refine lv_if_eq (tgt := 27) hx hb dX12_way_10 (by decide +kernel) (fun c_2 => ?_) (fun c_2 => ?_)
    ·
      exact absurd c_2 (by decide +kernel)
    ·
      refine lv_iload_n hx hb dX12_way_13 rfl (lv_at hl 2 rfl) ?_
      obtain ⟨hPc, hDc, hFc⟩ := g5_sub3 (wc := []) hP hD hS hA [] (by decide +kernel) rfl
      refine va_calli (va_runS (As := [.int p_2]) (rest := []) ⟨hx, hb, hml, hown, hts⟩ (n_isCell l G H.size p_2) (va_cwS 1 hts gS_X12_138 rfl rfl rfl hs_X12_isCell ⟨Nat.le_of_ble_eq_true rfl, Nat.le_of_ble_eq_true rfl⟩) (g5_preS hPc hK hDc hN hT hS hFc) rfl rfl hl.1 rfl (lv_room (Nat.le_of_ble_eq_true rfl)) dX12_way_14 ⟨Nat.le_of_ble_eq_true rfl, Nat.le_of_ble_eq_true rfl⟩) hS (fun q _ h => hFc q h) hFc (fun r u t H locs ht hvm hw hB hz1 hk1 hS => ?_)
      obtain ⟨hP1, hD1⟩ := hB
      have hP1 := g5_ht ht hP1
      rcases hw with ⟨(i_3 : 0 ≤ p_2.toInt ∧ p_2.toInt ≤ 63), rfl, rfl⟩ | ⟨rfl, rfl⟩
      ·
        have hJ9 := g5_same hP hk1
        clear hP hPc hDc hFc ht hvm hz1 hk1 hP1 hD1
        have hP := hJ9
        clear hJ9
        refine lv_if_eq (tgt := 27) hx hb dX12_way_17 (by decide +kernel) (fun c_4 => ?_) (fun c_4 => ?_)
        ·
          exact absurd c_4 (by decide +kernel)
        ·
          refine lv_iload_n hx hb dX12_way_20 rfl (lv_at hl 3 rfl) ?_
          obtain ⟨hPc, hDc, hFc⟩ := g5_sub3 (wc := []) hP hD hS hA [] (by decide +kernel) rfl
          refine va_calli (va_runS (As := [.int p_3]) (rest := []) ⟨hx, hb, hml, hown, hts⟩ (n_isHour l G H.size p_3) (va_cwS 1 hts gS_X12_175 rfl rfl rfl hs_X12_isHour ⟨Nat.le_of_ble_eq_true rfl, Nat.le_of_ble_eq_true rfl⟩) (g5_preS hPc hK hDc hN hT hS hFc) rfl rfl hl.1 rfl (lv_room (Nat.le_of_ble_eq_true rfl)) dX12_way_21 ⟨Nat.le_of_ble_eq_true rfl, Nat.le_of_ble_eq_true rfl⟩) hS (fun q _ h => hFc q h) hFc (fun r u t H locs ht hvm hw hB hz1 hk1 hS => ?_)
          obtain ⟨hP1, hD1⟩ := hB
          have hP1 := g5_ht ht hP1
          rcases hw with ⟨(i_5 : 0 ≤ p_3.toInt ∧ p_3.toInt ≤ 23), rfl, rfl⟩ | ⟨rfl, rfl⟩
          ·
            have hJ9 := g5_same hP hk1
            clear hP hPc hDc hFc ht hvm hz1 hk1 hP1 hD1
            have hP := hJ9
            clear hJ9
            refine lv_if_ne (tgt := 29) hx hb dX12_way_24 (by decide +kernel) (fun c_6 => ?_) (fun c_6 => ?_)
            ·
              refine lv_aload_n hx hb dX12_way_29 rfl (lv_at hl 0 rfl) ?_
              refine lv_iload_n hx hb dX12_way_30 rfl (lv_at hl 1 rfl) ?_
              refine lv_iload_n hx hb dX12_way_31 rfl (lv_at hl 2 rfl) ?_
              refine lv_iload_n hx hb dX12_way_32 rfl (lv_at hl 3 rfl) ?_
              obtain ⟨hPc, hDc, hFc⟩ := g5_sub3 (wc := [(b_o, (oc12 0 u_sa b_rf b_ro b_im b_ke u_fd b_tp u_td u_fr u_to u_so u_wo u_fa u_bd u_nc b_nl u_co b_op b_ar u_le b_pi b_pa u_pd u_od b_ws b_hw u_la b_se b_re u_bk u_va u_su u_ce u_ho u_wy u_bt u_ps b_pt u_tg u_sn b_ip u_ic b_ah b_be b_me u_wd b_tr b_ld u_st b_wn u_id)), (b_ro, (arI G 5740 v_ro)), (b_se, (arJ G 13 v_se)), (b_re, (arJ G 400 v_re)), (b_pt, (arI G 200 v_pt)), (b_tr, (arZ G 1536 v_tr)), (b_ld, (arZ G 1536 v_ld))]) hP hD hS hA [5, 6, 0, 1, 2, 3, 4] (by decide +kernel) rfl
              refine va_calli (va_runV (As := [.int p_1, .int p_2, .int p_3]) (rest := []) ⟨hx, hb, hml, hown, hts⟩ (n_findSoonest l G b_o b_ro b_se b_re b_pt b_tr b_ld b_rf b_im b_ke b_tp b_nl b_op b_ar b_pi b_pa b_ws b_hw b_ip b_ah b_be b_me b_wn H.size 0 u_sa u_fd u_td u_fr u_to u_so u_fa u_bd u_nc u_co u_le u_pd u_od u_la u_bk u_ce u_ho u_wy u_bt u_ps u_tg u_sn u_ic u_wd u_id p_1 p_2 p_3 u_wo u_va u_su u_st v_ro v_se v_re v_pt v_tr v_ld h_u_td h_u_fr h_u_to h_u_bd h_u_nc h_u_co h_u_pd h_u_la h_u_bk h_u_ce h_u_ho h_u_wy h_u_bt h_u_ps h_u_ic h_u_id i_3 i_5 (r_ro) (r_pt)) (cwV 3 hts gV_X12_466 rfl rfl rfl hv_X12_findSoonest ⟨Nat.le_of_ble_eq_true rfl, Nat.le_of_ble_eq_true rfl⟩) (g5_preV hPc hK hDc hN hT hS hFc (ci := 12) (q0 := 0) rfl rfl) rfl rfl hl.1 rfl (lv_room (Nat.le_of_ble_eq_true rfl)) dX12_way_33 ⟨Nat.le_of_ble_eq_true rfl, Nat.le_of_ble_eq_true rfl⟩) hS (fun q _ h => hFc q h) hFc (fun r u t H locs ht hvm hw hB hz1 hk1 hS => ?_)
              obtain ⟨hP1, hD1⟩ := hB
              have hP1 := g5_ht ht hP1
              obtain ⟨z16, z17, z18, z19, z20, z21, z22, z23, z24, z25, z26, z27, z28, z29, z30, z31, z32, (i_7 : (-1) ≤ z16.toInt ∧ z16.toInt ≤ 23), (i_8 : 0 ≤ z17.toInt ∧ z17.toInt ≤ 4840), (i_9 : 0 ≤ z18.toInt ∧ z18.toInt ≤ 1), (i_10 : 0 ≤ z21.toInt ∧ z21.toInt ≤ 63), (i_11 : 0 ≤ z22.toInt ∧ z22.toInt ≤ 23), (i_12 : 0 ≤ z23.toInt ∧ z23.toInt ≤ 3), (i_13 : 0 ≤ z24.toInt ∧ z24.toInt ≤ 1000000), (i_14 : 0 ≤ z25.toInt ∧ z25.toInt ≤ 200), (i_15 : PTI z30), y33, rfl⟩ := hw
              have hJ9 := va_join (wr := []) hP hD [5, 6, 0, 1, 2, 3, 4] [] rfl rfl (by decide +kernel) (by decide +kernel) hk1 hFc hP1 hD1
              clear hP hD hPc hDc hFc ht hvm hz1 hk1 hP1 hD1
              obtain ⟨hP, hD⟩ := hJ9
              refine g5_rs [(b_o, (oc12 0 u_sa b_rf b_ro b_im b_ke u_fd b_tp u_td u_fr u_to u_so u_wo u_fa u_bd u_nc b_nl u_co b_op b_ar u_le b_pi b_pa u_pd u_od b_ws b_hw z17 b_se b_re z18 z19 z20 z21 z22 z23 z24 z25 b_pt z26 z27 b_ip u_ic b_ah b_be b_me u_wd b_tr b_ld u_st b_wn u_id)), (b_ro, (arI G 5740 v_ro)), (b_se, (arJ G 13 z28)), (b_re, (arJ G 400 z29)), (b_pt, (arI G 200 z30)), (b_tr, (arZ G 1536 z31)), (b_ld, (arZ G 1536 z32))] hP hD ?_
              clear hP hD
              intro hP hD
              refine g5_ti (v := z16) y33 ?_
              refine lv_istore (lv' := [(5, .int z16), (0, .ref b_o), (1, .int p_1), (2, .int p_2), (3, .int p_3), (4, .int p_4)]) hx hb dX12_way_36 hl (by decide +kernel) rfl ?_
              clear hl
              intro ls hl
              refine lv_iload hx hb dX12_way_38 (lv_at hl 5 rfl) ?_
              refine lv_i2l (v := p_4.toInt64) hx hb dX12_way_40 rfl ?_
              refine lv_iload_n hx hb dX12_way_41 rfl (lv_at hl 4 rfl) ?_
              refine lv_i2l (v := p_3.toInt64) hx hb dX12_way_42 rfl ?_
              refine lv_iload hx hb dX12_way_43 (lv_at hl 0 rfl) ?_
              refine lv_i2l (v := z16.toInt64) hx hb dX12_way_45 rfl ?_
              obtain ⟨hPc, hDc, hFc⟩ := g5_sub3 (wc := []) hP hD hS hA [] (by decide +kernel) rfl
              refine va_calli (va_runS (As := [.long p_4.toInt64, .long p_3.toInt64, .long z16.toInt64]) (rest := []) ⟨hx, hb, hml, hown, hts⟩ (n_in3 l G H.size p_4 p_3 z16) (va_cwS 3 hts gS_X12_121 rfl rfl rfl hs_X12_in ⟨Nat.le_of_ble_eq_true rfl, Nat.le_of_ble_eq_true rfl⟩) (g5_preS hPc hK hDc hN hT hS hFc) rfl rfl hl.1 rfl (lv_room (Nat.le_of_ble_eq_true rfl)) dX12_way_46 ⟨Nat.le_of_ble_eq_true rfl, Nat.le_of_ble_eq_true rfl⟩) hS (fun q _ h => hFc q h) hFc (fun r u t H locs ht hvm hw hB hz1 hk1 hS => ?_)
              obtain ⟨hP1, hD1⟩ := hB
              have hP1 := g5_ht ht hP1
              rcases hw with ⟨(i_34 : p_4.toInt < p_3.toInt ∨ z16.toInt < p_4.toInt), rfl, rfl⟩ | ⟨(i_35 : p_3.toInt ≤ p_4.toInt ∧ p_4.toInt ≤ z16.toInt), rfl, rfl⟩
              ·
                have hJ9 := g5_same hP hk1
                clear hP hPc hDc hFc ht hvm hz1 hk1 hP1 hD1
                have hP := hJ9
                clear hJ9
                refine lv_if_ne (tgt := 54) hx hb dX12_way_49 (by decide +kernel) (fun c_36 => ?_) (fun c_36 => ?_)
                ·
                  exact absurd c_36 (by decide +kernel)
                ·
                  refine lv_iconst (v := (-1)) hx hb dX12_way_52 (by decide +kernel) ?_
                  exact W.iret (v := (-1)) hx hb hr (fun t ht hW => ⟨⟨(-1), [(b_o, (oc12 0 u_sa b_rf b_ro b_im b_ke u_fd b_tp u_td u_fr u_to u_so u_wo u_fa u_bd u_nc b_nl u_co b_op b_ar u_le b_pi b_pa u_pd u_od b_ws b_hw z17 b_se b_re z18 z19 z20 z21 z22 z23 z24 z25 b_pt z26 z27 b_ip u_ic b_ah b_be b_me u_wd b_tr b_ld u_st b_wn u_id)), (b_ro, (arI G 5740 v_ro)), (b_se, (arJ G 13 z28)), (b_re, (arJ G 400 z29)), (b_pt, (arI G 200 z30)), (b_tr, (arZ G 1536 z31)), (b_ld, (arZ G 1536 z32))], rfl, ⟨(-1), 0, z17, z18, z19, z20, z21, z22, z23, z24, z25, z26, z27, z28, z29, z30, z31, z32, i_8, i_9, i_10, i_11, i_12, i_13, i_14, i_15, rfl, rfl⟩, by rw [ht]; exact hP.sub [0, 1, 2, 3, 4, 5, 6] rfl, hD.sub [0, 1, 2, 3, 4, 5, 6] (by decide +kernel) rfl⟩, hS.F ht⟩) hS.2.2 dX12_way_53
              ·
                have hJ9 := g5_same hP hk1
                clear hP hPc hDc hFc ht hvm hz1 hk1 hP1 hD1
                have hP := hJ9
                clear hJ9
                refine lv_if_ne (tgt := 54) hx hb dX12_way_49 (by decide +kernel) (fun c_37 => ?_) (fun c_37 => ?_)
                ·
                  refine lv_iload_n hx hb dX12_way_54 rfl (lv_at hl 3 rfl) ?_
                  refine lv_istore (lv' := [(6, .int p_2), (5, .int z16), (0, .ref b_o), (1, .int p_1), (2, .int p_2), (3, .int p_3), (4, .int p_4)]) hx hb dX12_way_55 hl (by decide +kernel) rfl ?_
                  clear hl
                  intro ls hl
                  refine lv_iload_n hx hb dX12_way_57 rfl (lv_at hl 5 rfl) ?_
                  refine lv_iconst (v := 1) hx hb dX12_way_58 (by decide +kernel) ?_
                  refine lv_iadd hx hb dX12_way_59 ?_
                  have t_38 : (p_3 + 1).toInt = p_3.toInt + 1 := g5_iadd (a := p_3.toInt) (b := 1) (by rfl) (by decide +kernel) (by omega) (by omega)
                  refine lv_istore (lv' := [(7, .int (p_3 + 1)), (6, .int p_2), (5, .int z16), (0, .ref b_o), (1, .int p_1), (2, .int p_2), (3, .int p_3), (4, .int p_4)]) hx hb dX12_way_60 hl (by decide +kernel) rfl ?_
                  clear hl
                  intro ls hl
                  refine g5_loop (α := (Int32) × (Int32)) (fun (q : (Int32) × (Int32)) (ls : Array Slot) (H : Heap) (locs : List Loc) => match q with | (k62_7, k62_6) => lv_has ls 10 [(6, .int k62_6), (7, .int k62_7), (5, .int z16), (0, .ref b_o), (1, .int p_1), (2, .int p_2), (3, .int p_3), (4, .int p_4)] ∧ va_P G.1 vwCl [(b_o, (oc12 0 u_sa b_rf b_ro b_im b_ke u_fd b_tp u_td u_fr u_to u_so u_wo u_fa u_bd u_nc b_nl u_co b_op b_ar u_le b_pi b_pa u_pd u_od b_ws b_hw z17 b_se b_re z18 z19 z20 z21 z22 z23 z24 z25 b_pt z26 z27 b_ip u_ic b_ah b_be b_me u_wd b_tr b_ld u_st b_wn u_id)), (b_ro, (arI G 5740 v_ro)), (b_se, (arJ G 13 z28)), (b_re, (arJ G 400 z29)), (b_pt, (arI G 200 z30)), (b_tr, (arZ G 1536 z31)), (b_ld, (arZ G 1536 z32))] H ∧ va_D A [(b_o, (oc12 0 u_sa b_rf b_ro b_im b_ke u_fd b_tp u_td u_fr u_to u_so u_wo u_fa u_bd u_nc b_nl u_co b_op b_ar u_le b_pi b_pa u_pd u_od b_ws b_hw z17 b_se b_re z18 z19 z20 z21 z22 z23 z24 z25 b_pt z26 z27 b_ip u_ic b_ah b_be b_me u_wd b_tr b_ld u_st b_wn u_id)), (b_ro, (arI G 5740 v_ro)), (b_se, (arJ G 13 z28)), (b_re, (arJ G 400 z29)), (b_pt, (arI G 200 z30)), (b_tr, (arZ G 1536 z31)), (b_ld, (arZ G 1536 z32))] ∧ va_S A s.heap H locs ∧ (1 ≤ k62_7.toInt ∧ k62_7.toInt ≤ 24) ∧ ((-1) ≤ k62_6.toInt ∧ k62_6.toInt ≤ 63)) (fun (q : (Int32) × (Int32)) => match q with | (k62_7, k62_6) => Int.toNat (24 - k62_7.toInt)) ((p_3 + 1), p_2) ⟨lv_sub hl [1, 0, 2, 3, 4, 5, 6, 7] rfl, hP, hD, hS, ⟨by omega, by omega⟩, ⟨by omega, by omega⟩⟩ ?_
                  rintro ⟨k62_7, k62_6⟩ ls H locs ⟨hl, hP, hD, hS, (i_39 : 1 ≤ k62_7.toInt ∧ k62_7.toInt ≤ 24), (i_40 : (-1) ≤ k62_6.toInt ∧ k62_6.toInt ≤ 63)⟩ ih_62_41
                  replace hl : lv_has ls 10 [(6, .int k62_6), (7, .int k62_7), (5, .int z16), (0, .ref b_o), (1, .int p_1), (2, .int p_2), (3, .int p_3), (4, .int p_4)] := hl
                  refine g5_rs [(b_o, (oc12 0 u_sa b_rf b_ro b_im b_ke u_fd b_tp u_td u_fr u_to u_so u_wo u_fa u_bd u_nc b_nl u_co b_op b_ar u_le b_pi b_pa u_pd u_od b_ws b_hw z17 b_se b_re z18 z19 z20 z21 z22 z23 z24 z25 b_pt z26 z27 b_ip u_ic b_ah b_be b_me u_wd b_tr b_ld u_st b_wn u_id)), (b_ro, (arI G 5740 v_ro)), (b_se, (arJ G 13 z28)), (b_re, (arJ G 400 z29)), (b_pt, (arI G 200 z30)), (b_tr, (arZ G 1536 z31)), (b_ld, (arZ G 1536 z32))] hP hD ?_
                  clear hP hD
                  intro hP hD
                  refine lv_iload hx hb dX12_way_62 (lv_at hl 1 rfl) ?_
                  refine lv_iload hx hb dX12_way_64 (lv_at hl 7 rfl) ?_
                  refine lv_icmp_gt (tgt := 132) hx hb dX12_way_66 (by decide +kernel) (fun c_42 => ?_) (fun c_42 => ?_)
                  ·
                    have i_42 : k62_7.toInt > p_4.toInt := g5_gt (a := k62_7.toInt) (b := p_4.toInt) rfl rfl c_42
                    refine lv_iload hx hb dX12_way_132 (lv_at hl 0 rfl) ?_
                    exact W.iret (v := k62_6) hx hb hr (fun t ht hW => ⟨⟨k62_6, [(b_o, (oc12 0 u_sa b_rf b_ro b_im b_ke u_fd b_tp u_td u_fr u_to u_so u_wo u_fa u_bd u_nc b_nl u_co b_op b_ar u_le b_pi b_pa u_pd u_od b_ws b_hw z17 b_se b_re z18 z19 z20 z21 z22 z23 z24 z25 b_pt z26 z27 b_ip u_ic b_ah b_be b_me u_wd b_tr b_ld u_st b_wn u_id)), (b_ro, (arI G 5740 v_ro)), (b_se, (arJ G 13 z28)), (b_re, (arJ G 400 z29)), (b_pt, (arI G 200 z30)), (b_tr, (arZ G 1536 z31)), (b_ld, (arZ G 1536 z32))], rfl, ⟨k62_6, 0, z17, z18, z19, z20, z21, z22, z23, z24, z25, z26, z27, z28, z29, z30, z31, z32, i_8, i_9, i_10, i_11, i_12, i_13, i_14, i_15, rfl, rfl⟩, by rw [ht]; exact hP.sub [0, 1, 2, 3, 4, 5, 6] rfl, hD.sub [0, 1, 2, 3, 4, 5, 6] (by decide +kernel) rfl⟩, hS.F ht⟩) hS.2.2 dX12_way_134
                  ·
                    have i_42 : k62_7.toInt ≤ p_4.toInt := g5_gtN (a := k62_7.toInt) (b := p_4.toInt) rfl rfl c_42
                    refine lv_iconst (v := (-1)) hx hb dX12_way_69 (by decide +kernel) ?_
                    refine lv_istore (lv' := [(8, .int (-1)), (6, .int k62_6), (7, .int k62_7), (5, .int z16), (0, .ref b_o), (1, .int p_1), (2, .int p_2), (3, .int p_3), (4, .int p_4)]) hx hb dX12_way_70 hl (by decide +kernel) rfl ?_
                    clear hl
                    intro ls hl
                    refine lv_bipush (v := 63) hx hb dX12_way_72 (by decide +kernel) ?_
                    refine lv_istore (lv' := [(9, .int 63), (8, .int (-1)), (6, .int k62_6), (7, .int k62_7), (5, .int z16), (0, .ref b_o), (1, .int p_1), (2, .int p_2), (3, .int p_3), (4, .int p_4)]) hx hb dX12_way_74 hl (by decide +kernel) rfl ?_
                    clear hl
                    intro ls hl
                    refine g5_loop (α := (Int32) × (Int32)) (fun (q : (Int32) × (Int32)) (ls : Array Slot) (H : Heap) (locs : List Loc) => match q with | (k76_9, k76_8) => lv_has ls 10 [(8, .int k76_8), (9, .int k76_9), (6, .int k62_6), (7, .int k62_7), (5, .int z16), (0, .ref b_o), (1, .int p_1), (2, .int p_2), (3, .int p_3), (4, .int p_4)] ∧ va_P G.1 vwCl [(b_o, (oc12 0 u_sa b_rf b_ro b_im b_ke u_fd b_tp u_td u_fr u_to u_so u_wo u_fa u_bd u_nc b_nl u_co b_op b_ar u_le b_pi b_pa u_pd u_od b_ws b_hw z17 b_se b_re z18 z19 z20 z21 z22 z23 z24 z25 b_pt z26 z27 b_ip u_ic b_ah b_be b_me u_wd b_tr b_ld u_st b_wn u_id)), (b_ro, (arI G 5740 v_ro)), (b_se, (arJ G 13 z28)), (b_re, (arJ G 400 z29)), (b_pt, (arI G 200 z30)), (b_tr, (arZ G 1536 z31)), (b_ld, (arZ G 1536 z32))] H ∧ va_D A [(b_o, (oc12 0 u_sa b_rf b_ro b_im b_ke u_fd b_tp u_td u_fr u_to u_so u_wo u_fa u_bd u_nc b_nl u_co b_op b_ar u_le b_pi b_pa u_pd u_od b_ws b_hw z17 b_se b_re z18 z19 z20 z21 z22 z23 z24 z25 b_pt z26 z27 b_ip u_ic b_ah b_be b_me u_wd b_tr b_ld u_st b_wn u_id)), (b_ro, (arI G 5740 v_ro)), (b_se, (arJ G 13 z28)), (b_re, (arJ G 400 z29)), (b_pt, (arI G 200 z30)), (b_tr, (arZ G 1536 z31)), (b_ld, (arZ G 1536 z32))] ∧ va_S A s.heap H locs ∧ ((-1) ≤ k76_9.toInt ∧ k76_9.toInt ≤ 63) ∧ ((-1) ≤ k76_8.toInt ∧ k76_8.toInt ≤ 63)) (fun (q : (Int32) × (Int32)) => match q with | (k76_9, k76_8) => Int.toNat (k76_9.toInt + 1)) (63, (-1)) ⟨lv_sub hl [1, 0, 2, 3, 4, 5, 6, 7, 8, 9] rfl, hP, hD, hS, ⟨by decide, by decide⟩, ⟨by decide, by decide⟩⟩ ?_
                    rintro ⟨k76_9, k76_8⟩ ls H locs ⟨hl, hP, hD, hS, (i_43 : (-1) ≤ k76_9.toInt ∧ k76_9.toInt ≤ 63), (i_44 : (-1) ≤ k76_8.toInt ∧ k76_8.toInt ≤ 63)⟩ ih_76_45
                    replace hl : lv_has ls 10 [(8, .int k76_8), (9, .int k76_9), (6, .int k62_6), (7, .int k62_7), (5, .int z16), (0, .ref b_o), (1, .int p_1), (2, .int p_2), (3, .int p_3), (4, .int p_4)] := hl
                    refine g5_rs [(b_o, (oc12 0 u_sa b_rf b_ro b_im b_ke u_fd b_tp u_td u_fr u_to u_so u_wo u_fa u_bd u_nc b_nl u_co b_op b_ar u_le b_pi b_pa u_pd u_od b_ws b_hw z17 b_se b_re z18 z19 z20 z21 z22 z23 z24 z25 b_pt z26 z27 b_ip u_ic b_ah b_be b_me u_wd b_tr b_ld u_st b_wn u_id)), (b_ro, (arI G 5740 v_ro)), (b_se, (arJ G 13 z28)), (b_re, (arJ G 400 z29)), (b_pt, (arI G 200 z30)), (b_tr, (arZ G 1536 z31)), (b_ld, (arZ G 1536 z32))] hP hD ?_
                    clear hP hD
                    intro hP hD
                    refine lv_iload hx hb dX12_way_76 (lv_at hl 1 rfl) ?_
                    refine lv_if_lt (tgt := 122) hx hb dX12_way_78 (by decide +kernel) (fun c_46 => ?_) (fun c_46 => ?_)
                    ·
                      have i_46 : k76_9.toInt < 0 := g5_lt (a := k76_9.toInt) (b := 0) rfl (by decide +kernel) c_46
                      refine lv_iload hx hb dX12_way_122 (lv_at hl 0 rfl) ?_
                      refine lv_istore (lv' := [(6, .int k76_8), (8, .int k76_8), (9, .int k76_9), (7, .int k62_7), (5, .int z16), (0, .ref b_o), (1, .int p_1), (2, .int p_2), (3, .int p_3), (4, .int p_4)]) hx hb dX12_way_124 hl (by decide +kernel) rfl ?_
                      clear hl
                      intro ls hl
                      refine lv_iinc (v := (k62_7 + 1)) (lv' := [(7, .int (k62_7 + 1)), (6, .int k76_8), (8, .int k76_8), (9, .int k76_9), (5, .int z16), (0, .ref b_o), (1, .int p_1), (2, .int p_2), (3, .int p_3), (4, .int p_4)]) hx hb dX12_way_126 hl (k := 3) rfl rfl (by decide +kernel) rfl ?_
                      clear hl
                      intro ls hl
                      have t_47 : (k62_7 + 1).toInt = k62_7.toInt + 1 := g5_iadd (a := k62_7.toInt) (b := 1) rfl (by decide +kernel) (by omega) (by omega)
                      refine lv_goto (tgt := 62) hx hb dX12_way_129 (by decide +kernel) ?_
                      exact ih_62_41 ((k62_7 + 1), k76_8) ls H locs (show Int.toNat (24 - (k62_7 + 1).toInt) < Int.toNat (24 - k62_7.toInt) from g_up (show k62_7.toInt < (k62_7 + 1).toInt by omega) (show k62_7.toInt < 24 by omega)) ⟨lv_sub hl [1, 0, 4, 5, 6, 7, 8, 9] rfl, hP, hD, hS, ⟨by omega, by omega⟩, i_44⟩
                    ·
                      have i_46 : k76_9.toInt ≥ 0 := g5_ltN (a := k76_9.toInt) (b := 0) rfl (by decide +kernel) c_46
                      refine lv_iload hx hb dX12_way_81 (lv_at hl 2 rfl) ?_
                      refine lv_iload hx hb dX12_way_83 (lv_at hl 1 rfl) ?_
                      obtain ⟨hPc, hDc, hFc⟩ := g5_sub3 (wc := []) hP hD hS hA [] (by decide +kernel) rfl
                      refine va_calli (va_runS (As := [.int k62_6, .int k76_9]) (rest := []) ⟨hx, hb, hml, hown, hts⟩ (n_isStep l G H.size k62_6 k76_9 i_40 ⟨by omega, by omega⟩) (va_cwS 2 hts gS_X12_454 rfl rfl rfl hs_X12_isStep ⟨Nat.le_of_ble_eq_true rfl, Nat.le_of_ble_eq_true rfl⟩) (g5_preS hPc hK hDc hN hT hS hFc) rfl rfl hl.1 rfl (lv_room (Nat.le_of_ble_eq_true rfl)) dX12_way_85 ⟨Nat.le_of_ble_eq_true rfl, Nat.le_of_ble_eq_true rfl⟩) hS (fun q _ h => hFc q h) hFc (fun r u t H locs ht hvm hw hB hz1 hk1 hS => ?_)
                      obtain ⟨hP1, hD1⟩ := hB
                      have hP1 := g5_ht ht hP1
                      obtain ⟨z49, (i_48 : 0 ≤ z49.toInt ∧ z49.toInt ≤ 1), y50, rfl⟩ := hw
                      have hJ9 := g5_same hP hk1
                      clear hP hPc hDc hFc ht hvm hz1 hk1 hP1 hD1
                      have hP := hJ9
                      clear hJ9
                      refine g5_ti (v := z49) y50 ?_
                      refine lv_if_eq (tgt := 112) hx hb dX12_way_88 (by decide +kernel) (fun c_51 => ?_) (fun c_51 => ?_)
                      ·
                        have i_51 : z49.toInt = 0 := g5_eq (a := z49.toInt) (b := 0) rfl (by decide +kernel) c_51
                        refine lv_iload hx hb dX12_way_112 (lv_at hl 0 rfl) ?_
                        refine lv_istore (lv' := [(8, .int k76_8), (9, .int k76_9), (6, .int k62_6), (7, .int k62_7), (5, .int z16), (0, .ref b_o), (1, .int p_1), (2, .int p_2), (3, .int p_3), (4, .int p_4)]) hx hb dX12_way_114 hl (by decide +kernel) rfl ?_
                        clear hl
                        intro ls hl
                        obtain ⟨y52, hy_52, t_52⟩ := g_incN k76_9 (-1) (by decide +kernel) (by omega) (by omega)
                        have t_52 : y52.toInt = k76_9.toInt + (-1) := t_52
                        refine lv_iinc (v := y52) (lv' := [(9, .int y52), (8, .int k76_8), (6, .int k62_6), (7, .int k62_7), (5, .int z16), (0, .ref b_o), (1, .int p_1), (2, .int p_2), (3, .int p_3), (4, .int p_4)]) hx hb dX12_way_116 hl (k := 1) rfl hy_52 (by decide +kernel) rfl ?_
                        clear hl
                        intro ls hl
                        refine lv_goto (tgt := 76) hx hb dX12_way_119 (by decide +kernel) ?_
                        exact ih_76_45 (y52, k76_8) ls H locs (show Int.toNat (y52.toInt + 1) < Int.toNat (k76_9.toInt + 1) from g_dn (show y52.toInt < k76_9.toInt by omega) (show 0 ≤ k76_9.toInt by omega)) ⟨lv_sub hl [1, 0, 2, 3, 4, 5, 6, 7, 8, 9] rfl, hP, hD, hS, ⟨by omega, by omega⟩, i_44⟩
                      ·
                        have n_51 : gNe (z49.toInt) (0) := g5_eqN (a := z49.toInt) (b := 0) rfl (by decide +kernel) c_51
                        have i_51 : z49.toInt ≥ 1 := by have z := g5_eqN (a := z49.toInt) (b := 0) (by rfl) (by decide +kernel) c_51; omega
                        refine lv_aload_n hx hb dX12_way_91 rfl (lv_at hl 5 rfl) ?_
                        refine va_get (D := G.1) (ci := 12) (v := .ref b_ld) (C := RX12) (T := TX12) (N := 52) hx hb hts inG_X12 hown hK hP 0 rfl rfl 48 (by decide +kernel) (hts _ fl_X12_101) (fun _ h9 => h9) rfl dX12_way_92 ?_
                        refine lv_bipush (v := 64) hx hb dX12_way_95 (by decide +kernel) ?_
                        refine lv_iload hx hb dX12_way_97 (lv_at hl 3 rfl) ?_
                        refine lv_imul hx hb dX12_way_99 ?_
                        have t_53 : (64 * k62_7).toInt = 64 * k62_7.toInt := g5_imul (a := 64) (b := k62_7.toInt) (by decide +kernel) (by rfl) (by omega) (by omega)
                        refine lv_iload hx hb dX12_way_100 (lv_at hl 1 rfl) ?_
                        refine lv_iadd hx hb dX12_way_102 ?_
                        have t_54 : ((64 * k62_7) + k76_9).toInt = (64 * k62_7).toInt + k76_9.toInt := g5_iadd (a := (64 * k62_7).toInt) (b := k76_9.toInt) (by rfl) (by rfl) (by omega) (by omega)
                        refine va_zald hx hb hK hP 6 2 rfl rfl (i := ((64 * k62_7) + k76_9)) (vp_in_iff.mpr ⟨by omega, by omega⟩) dX12_way_103 ?_
                        refine lv_if_eq (tgt := 112) hx hb dX12_way_104 (by decide +kernel) (fun c_55 => ?_) (fun c_55 => ?_)
                        ·
                          have i_55 : (z32 ((64 * k62_7) + k76_9).toNatClampNeg).toInt = 0 := g5_eq (a := (z32 ((64 * k62_7) + k76_9).toNatClampNeg).toInt) (b := 0) rfl (by decide +kernel) c_55
                          refine lv_iload hx hb dX12_way_112 (lv_at hl 0 rfl) ?_
                          refine lv_istore (lv' := [(8, .int k76_8), (9, .int k76_9), (6, .int k62_6), (7, .int k62_7), (5, .int z16), (0, .ref b_o), (1, .int p_1), (2, .int p_2), (3, .int p_3), (4, .int p_4)]) hx hb dX12_way_114 hl (by decide +kernel) rfl ?_
                          clear hl
                          intro ls hl
                          obtain ⟨y56, hy_56, t_56⟩ := g_incN k76_9 (-1) (by decide +kernel) (by omega) (by omega)
                          have t_56 : y56.toInt = k76_9.toInt + (-1) := t_56
                          refine lv_iinc (v := y56) (lv' := [(9, .int y56), (8, .int k76_8), (6, .int k62_6), (7, .int k62_7), (5, .int z16), (0, .ref b_o), (1, .int p_1), (2, .int p_2), (3, .int p_3), (4, .int p_4)]) hx hb dX12_way_116 hl (k := 1) rfl hy_56 (by decide +kernel) rfl ?_
                          clear hl
                          intro ls hl
                          refine lv_goto (tgt := 76) hx hb dX12_way_119 (by decide +kernel) ?_
                          exact ih_76_45 (y56, k76_8) ls H locs (show Int.toNat (y56.toInt + 1) < Int.toNat (k76_9.toInt + 1) from g_dn (show y56.toInt < k76_9.toInt by omega) (show 0 ≤ k76_9.toInt by omega)) ⟨lv_sub hl [1, 0, 2, 3, 4, 5, 6, 7, 8, 9] rfl, hP, hD, hS, ⟨by omega, by omega⟩, i_44⟩
                        ·
                          have n_55 : gNe ((z32 ((64 * k62_7) + k76_9).toNatClampNeg).toInt) (0) := g5_eqN (a := (z32 ((64 * k62_7) + k76_9).toNatClampNeg).toInt) (b := 0) rfl (by decide +kernel) c_55
                          refine lv_iload hx hb dX12_way_107 (lv_at hl 1 rfl) ?_
                          refine lv_goto (tgt := 114) hx hb dX12_way_109 (by decide +kernel) ?_
                          refine lv_istore (lv' := [(8, .int k76_9), (9, .int k76_9), (6, .int k62_6), (7, .int k62_7), (5, .int z16), (0, .ref b_o), (1, .int p_1), (2, .int p_2), (3, .int p_3), (4, .int p_4)]) hx hb dX12_way_114 hl (by decide +kernel) rfl ?_
                          clear hl
                          intro ls hl
                          obtain ⟨y57, hy_57, t_57⟩ := g_incN k76_9 (-1) (by decide +kernel) (by omega) (by omega)
                          have t_57 : y57.toInt = k76_9.toInt + (-1) := t_57
                          refine lv_iinc (v := y57) (lv' := [(9, .int y57), (8, .int k76_9), (6, .int k62_6), (7, .int k62_7), (5, .int z16), (0, .ref b_o), (1, .int p_1), (2, .int p_2), (3, .int p_3), (4, .int p_4)]) hx hb dX12_way_116 hl (k := 1) rfl hy_57 (by decide +kernel) rfl ?_
                          clear hl
                          intro ls hl
                          refine lv_goto (tgt := 76) hx hb dX12_way_119 (by decide +kernel) ?_
                          exact ih_76_45 (y57, k76_9) ls H locs (show Int.toNat (y57.toInt + 1) < Int.toNat (k76_9.toInt + 1) from g_dn (show y57.toInt < k76_9.toInt by omega) (show 0 ≤ k76_9.toInt by omega)) ⟨lv_sub hl [1, 0, 2, 3, 4, 5, 6, 7, 8, 9] rfl, hP, hD, hS, ⟨by omega, by omega⟩, i_43⟩
                ·
                  exact absurd c_37 (by decide +kernel)
            ·
              exact absurd c_6 (by decide +kernel)
          ·
            have hJ9 := g5_same hP hk1
            clear hP hPc hDc hFc ht hvm hz1 hk1 hP1 hD1
            have hP := hJ9
            clear hJ9
            refine lv_if_ne (tgt := 29) hx hb dX12_way_24 (by decide +kernel) (fun c_58 => ?_) (fun c_58 => ?_)
            ·
              exact absurd c_58 (by decide +kernel)
            ·
              refine lv_iconst (v := (-1)) hx hb dX12_way_27 (by decide +kernel) ?_
              exact W.iret (v := (-1)) hx hb hr (fun t ht hW => ⟨⟨(-1), [(b_o, (oc12 0 u_sa b_rf b_ro b_im b_ke u_fd b_tp u_td u_fr u_to u_so u_wo u_fa u_bd u_nc b_nl u_co b_op b_ar u_le b_pi b_pa u_pd u_od b_ws b_hw u_la b_se b_re u_bk u_va u_su u_ce u_ho u_wy u_bt u_ps b_pt u_tg u_sn b_ip u_ic b_ah b_be b_me u_wd b_tr b_ld u_st b_wn u_id)), (b_ro, (arI G 5740 v_ro)), (b_se, (arJ G 13 v_se)), (b_re, (arJ G 400 v_re)), (b_pt, (arI G 200 v_pt)), (b_tr, (arZ G 1536 v_tr)), (b_ld, (arZ G 1536 v_ld))], rfl, ⟨(-1), 0, u_la, u_bk, u_va, u_su, u_ce, u_ho, u_wy, u_bt, u_ps, u_tg, u_sn, v_se, v_re, v_pt, v_tr, v_ld, h_u_la, h_u_bk, h_u_ce, h_u_ho, h_u_wy, h_u_bt, h_u_ps, r_pt, rfl, rfl⟩, by rw [ht]; exact hP.sub [5, 6, 0, 1, 2, 3, 4] rfl, hD.sub [5, 6, 0, 1, 2, 3, 4] (by decide +kernel) rfl⟩, hS.F ht⟩) hS.2.2 dX12_way_28
      ·
        have hJ9 := g5_same hP hk1
        clear hP hPc hDc hFc ht hvm hz1 hk1 hP1 hD1
        have hP := hJ9
        clear hJ9
        refine lv_if_eq (tgt := 27) hx hb dX12_way_17 (by decide +kernel) (fun c_59 => ?_) (fun c_59 => ?_)
        ·
          refine lv_iconst (v := (-1)) hx hb dX12_way_27 (by decide +kernel) ?_
          exact W.iret (v := (-1)) hx hb hr (fun t ht hW => ⟨⟨(-1), [(b_o, (oc12 0 u_sa b_rf b_ro b_im b_ke u_fd b_tp u_td u_fr u_to u_so u_wo u_fa u_bd u_nc b_nl u_co b_op b_ar u_le b_pi b_pa u_pd u_od b_ws b_hw u_la b_se b_re u_bk u_va u_su u_ce u_ho u_wy u_bt u_ps b_pt u_tg u_sn b_ip u_ic b_ah b_be b_me u_wd b_tr b_ld u_st b_wn u_id)), (b_ro, (arI G 5740 v_ro)), (b_se, (arJ G 13 v_se)), (b_re, (arJ G 400 v_re)), (b_pt, (arI G 200 v_pt)), (b_tr, (arZ G 1536 v_tr)), (b_ld, (arZ G 1536 v_ld))], rfl, ⟨(-1), 0, u_la, u_bk, u_va, u_su, u_ce, u_ho, u_wy, u_bt, u_ps, u_tg, u_sn, v_se, v_re, v_pt, v_tr, v_ld, h_u_la, h_u_bk, h_u_ce, h_u_ho, h_u_wy, h_u_bt, h_u_ps, r_pt, rfl, rfl⟩, by rw [ht]; exact hP.sub [5, 6, 0, 1, 2, 3, 4] rfl, hD.sub [5, 6, 0, 1, 2, 3, 4] (by decide +kernel) rfl⟩, hS.F ht⟩) hS.2.2 dX12_way_28
        ·
          exact absurd c_59 (by decide +kernel)
  ·
    have hJ9 := va_join (wr := [(b_se, (arJ G 13 v_se)), (b_re, (arJ G 400 v_re)), (b_pt, (arI G 200 v_pt)), (b_tr, (arZ G 1536 v_tr)), (b_ld, (arZ G 1536 v_ld))]) hP hD [0, 1] [2, 3, 4, 5, 6] rfl rfl (by decide +kernel) (by decide +kernel) hk1 hFc hP1 hD1
    clear hP hD hPc hDc hFc ht hvm hz1 hk1 hP1 hD1
    obtain ⟨hP, hD⟩ := hJ9
    refine g5_rs [(b_se, (arJ G 13 v_se)), (b_re, (arJ G 400 v_re)), (b_pt, (arI G 200 v_pt)), (b_tr, (arZ G 1536 v_tr)), (b_ld, (arZ G 1536 v_ld)), (b_o, (oc12 0 u_sa b_rf b_ro b_im b_ke u_fd b_tp u_td u_fr u_to u_so u_wo u_fa u_bd u_nc b_nl u_co b_op b_ar u_le b_pi b_pa u_pd u_od b_ws b_hw u_la b_se b_re u_bk u_va u_su u_ce u_ho u_wy u_bt u_ps b_pt u_tg u_sn b_ip u_ic b_ah b_be b_me u_wd b_tr b_ld u_st b_wn u_id)), (b_ro, (arI G 5740 v_ro))] hP hD ?_
    clear hP hD
    intro hP hD
    refine lv_if_eq (tgt := 27) hx hb dX12_way_10 (by decide +kernel) (fun c_60 => ?_) (fun c_60 => ?_)
    ·
      refine lv_iconst (v := (-1)) hx hb dX12_way_27 (by decide +kernel) ?_
      exact W.iret (v := (-1)) hx hb hr (fun t ht hW => ⟨⟨(-1), [(b_o, (oc12 0 u_sa b_rf b_ro b_im b_ke u_fd b_tp u_td u_fr u_to u_so u_wo u_fa u_bd u_nc b_nl u_co b_op b_ar u_le b_pi b_pa u_pd u_od b_ws b_hw u_la b_se b_re u_bk u_va u_su u_ce u_ho u_wy u_bt u_ps b_pt u_tg u_sn b_ip u_ic b_ah b_be b_me u_wd b_tr b_ld u_st b_wn u_id)), (b_ro, (arI G 5740 v_ro)), (b_se, (arJ G 13 v_se)), (b_re, (arJ G 400 v_re)), (b_pt, (arI G 200 v_pt)), (b_tr, (arZ G 1536 v_tr)), (b_ld, (arZ G 1536 v_ld))], rfl, ⟨(-1), 0, u_la, u_bk, u_va, u_su, u_ce, u_ho, u_wy, u_bt, u_ps, u_tg, u_sn, v_se, v_re, v_pt, v_tr, v_ld, h_u_la, h_u_bk, h_u_ce, h_u_ho, h_u_wy, h_u_bt, h_u_ps, r_pt, rfl, rfl⟩, by rw [ht]; exact hP.sub [5, 6, 0, 1, 2, 3, 4] rfl, hD.sub [5, 6, 0, 1, 2, 3, 4] (by decide +kernel) rfl⟩, hS.F ht⟩) hS.2.2 dX12_way_28
    ·
      exact absurd c_60 (by decide +kernel)
theorem upd_but_self {f g : Nat → Int32} {i : Nat} {v : Int32} (h : ∀ j : Nat, j ≠ i → g j = f j) (hv : v = f i) : upd g i v = f := by
  funext j
  unfold upd
  by_cases q : j = i
  · rw [if_pos q, q, hv]
  · rw [if_neg q]; exact h j q
set_option maxHeartbeats 4000000 in
set_option maxRecDepth 100000 in
theorem n_ofGlass1S (l : Launch) (G : g5_G) (b_o b_ro b_rf b_im b_ke b_tp b_nl b_op b_ar b_pi b_pa b_ws b_hw b_se b_re b_pt b_ip b_ah b_be b_me b_tr b_ld b_wn : Nat) (sz : Nat) (u_th : Int32) (u_sa : Int32) (u_fd : Int32) (u_td : Int32) (u_fr : Int32) (u_to : Int32) (u_so : Int32) (u_fa : Int32) (u_bd : Int32) (u_nc : Int32) (u_co : Int32) (u_le : Int32) (u_pd : Int32) (u_od : Int32) (u_la : Int32) (u_bk : Int32) (u_ce : Int32) (u_ho : Int32) (u_wy : Int32) (u_bt : Int32) (u_ps : Int32) (u_tg : Int32) (u_sn : Int32) (u_ic : Int32) (u_wd : Int32) (u_id : Int32) (p_1 : Int32) (u_wo : Int64) (u_va : Int64) (u_su : Int64) (u_st : Int64) (v_ro : Nat → Int32) (h_u_td : 0 ≤ u_td.toInt ∧ u_td.toInt ≤ 400) (h_u_fr : 0 ≤ u_fr.toInt ∧ u_fr.toInt ≤ 400) (h_u_to : 0 ≤ u_to.toInt ∧ u_to.toInt ≤ 400) (h_u_bd : 0 ≤ u_bd.toInt ∧ u_bd.toInt ≤ 1) (h_u_nc : 0 ≤ u_nc.toInt ∧ u_nc.toInt ≤ 12) (h_u_co : 0 ≤ u_co.toInt ∧ u_co.toInt ≤ 400) (h_u_pd : 0 ≤ u_pd.toInt ∧ u_pd.toInt ≤ 400) (h_u_la : 0 ≤ u_la.toInt ∧ u_la.toInt ≤ 4840) (h_u_bk : 0 ≤ u_bk.toInt ∧ u_bk.toInt ≤ 1) (h_u_ce : 0 ≤ u_ce.toInt ∧ u_ce.toInt ≤ 63) (h_u_ho : 0 ≤ u_ho.toInt ∧ u_ho.toInt ≤ 23) (h_u_wy : 0 ≤ u_wy.toInt ∧ u_wy.toInt ≤ 3) (h_u_bt : 0 ≤ u_bt.toInt ∧ u_bt.toInt ≤ 1000000) (h_u_ps : 0 ≤ u_ps.toInt ∧ u_ps.toInt ≤ 200) (h_u_ic : 0 ≤ u_ic.toInt ∧ u_ic.toInt ≤ 1) (h_u_id : 0 ≤ u_id.toInt ∧ u_id.toInt ≤ 1) (h_p_1 : 0 ≤ p_1.toInt ∧ p_1.toInt ≤ 5) (r_ro : MI v_ro) : Met l yX12_ofGlass (wsG yX12_ofGlass cX12_ofGlass 3 (some .int)) ({ frames := 0, cells := 0, slots := 0, locals := 0 }) (va_Pc [.ref b_o, .int p_1, .int 1] (g5_P G [(b_o, (oc12 u_th u_sa b_rf b_ro b_im b_ke u_fd b_tp u_td u_fr u_to u_so u_wo u_fa u_bd u_nc b_nl u_co b_op b_ar u_le b_pi b_pa u_pd u_od b_ws b_hw u_la b_se b_re u_bk u_va u_su u_ce u_ho u_wy u_bt u_ps b_pt u_tg u_sn b_ip u_ic b_ah b_be b_me u_wd b_tr b_ld u_st b_wn u_id)), (b_ro, (arI G 5740 v_ro))] sz)) (va_Qi (fun (r : Int32) (u : va_W) => (∃ (o_r : Int32), (0 ≤ o_r.toInt ∧ o_r.toInt ≤ 5) ∧ (o_r = v_ro (80 + 5 * p_1.toInt.toNat + 1)) ∧ (r = o_r) ∧ (u = [(b_o, (oc12 u_th u_sa b_rf b_ro b_im b_ke u_fd b_tp u_td u_fr u_to u_so u_wo u_fa u_bd u_nc b_nl u_co b_op b_ar u_le b_pi b_pa u_pd u_od b_ws b_hw u_la b_se b_re u_bk u_va u_su u_ce u_ho u_wy u_bt u_ps b_pt u_tg u_sn b_ip u_ic b_ah b_be b_me u_wd b_tr b_ld u_st b_wn u_id)), (b_ro, (arI G 5740 v_ro))]))) (g5_B G (va_A [(b_o, (oc12 u_th u_sa b_rf b_ro b_im b_ke u_fd b_tp u_td u_fr u_to u_so u_wo u_fa u_bd u_nc b_nl u_co b_op b_ar u_le b_pi b_pa u_pd u_od b_ws b_hw u_la b_se b_re u_bk u_va u_su u_ce u_ho u_wy u_bt u_ps b_pt u_tg u_sn b_ip u_ic b_ah b_be b_me u_wd b_tr b_ld u_st b_wn u_id)), (b_ro, (arI G 5740 v_ro))] sz)) (va_A [(b_o, (oc12 u_th u_sa b_rf b_ro b_im b_ke u_fd b_tp u_td u_fr u_to u_so u_wo u_fa u_bd u_nc b_nl u_co b_op b_ar u_le b_pi b_pa u_pd u_od b_ws b_hw u_la b_se b_re u_bk u_va u_su u_ce u_ho u_wy u_bt u_ps b_pt u_tg u_sn b_ip u_ic b_ah b_be b_me u_wd b_tr b_ld u_st b_wn u_id)), (b_ro, (arI G 5740 v_ro))] sz)) 0 0 (va_A [(b_o, (oc12 u_th u_sa b_rf b_ro b_im b_ke u_fd b_tp u_td u_fr u_to u_so u_wo u_fa u_bd u_nc b_nl u_co b_op b_ar u_le b_pi b_pa u_pd u_od b_ws b_hw u_la b_se b_re u_bk u_va u_su u_ce u_ho u_wy u_bt u_ps b_pt u_tg u_sn b_ip u_ic b_ah b_be b_me u_wd b_tr b_ld u_st b_wn u_id)), (b_ro, (arI G 5740 v_ro))] sz) := by
  refine Met.ofW (cc := cX12_ofGlass) (maxL := 3) (ret := (some .int)) (by decide) rfl ?_
  intro p e s m args below meth c s₁ B hml hv
  obtain ⟨rfl, hsz, hP, hK, hD0, hN, hT⟩ := hv
  have hx := B.exec
  have hb := B.bytes
  have hr := B.returns
  have hts : ∀ w ∈ tblG, w.before _ s = true := fun w h => atoms_spec (ws := (wsG yX12_ofGlass cX12_ofGlass 3 (some .int))) B.pre w (List.mem_cons_of_mem _ h)
  have hown : s.vm.findClass RX12 = some m.cls := findClass_of_methodNamed B.named
  have hlocks := B.notSynchronized
  subst hsz
  have hD := hD0.self (sz := s.heap.size)
  generalize hAe : va_A [(b_o, (oc12 u_th u_sa b_rf b_ro b_im b_ke u_fd b_tp u_td u_fr u_to u_so u_wo u_fa u_bd u_nc b_nl u_co b_op b_ar u_le b_pi b_pa u_pd u_od b_ws b_hw u_la b_se b_re u_bk u_va u_su u_ce u_ho u_wy u_bt u_ps b_pt u_tg u_sn b_ip u_ic b_ah b_be b_me u_wd b_tr b_ld u_st b_wn u_id)), (b_ro, (arI G 5740 v_ro))] s.heap.size = A at hD hT ⊢
  have hA : ∀ q : Nat, s.heap.size ≤ q → A q := fun q h => by rw [← hAe]; exact Or.inr h
  have hS : va_S A s.heap s.heap [] := va_S.rf
  have hP : va_P G.1 vwCl [(b_o, (oc12 u_th u_sa b_rf b_ro b_im b_ke u_fd b_tp u_td u_fr u_to u_so u_wo u_fa u_bd u_nc b_nl u_co b_op b_ar u_le b_pi b_pa u_pd u_od b_ws b_hw u_la b_se b_re u_bk u_va u_su u_ce u_ho u_wy u_bt u_ps b_pt u_tg u_sn b_ip u_ic b_ah b_be b_me u_wd b_tr b_ld u_st b_wn u_id)), (b_ro, (arI G 5740 v_ro))] s.heap := hP
  have hl := lv_entry ([.ref b_o, .int p_1, .int 1]) (n := 3) (Nat.le_of_ble_eq_true rfl)
  rw [lg_entry_eq]
  generalize (lg_sl ([.ref b_o, .int p_1, .int 1]) ++ List.replicate (3 - (lg_sl ([.ref b_o, .int p_1, .int 1])).length) Slot.unset).toArray = ls at hl ⊢
  have hl : lv_has ls 3 [(0, .ref b_o), (1, .int p_1), (2, .int 1)] := hl
  refine lv_aload_n hx hb dX12_ofGlass_0 rfl (lv_at hl 0 rfl) ?_
  refine va_get (D := G.1) (ci := 12) (v := .ref b_ro) (C := RX12) (T := TX12) (N := 52) hx hb hts inG_X12 hown hK hP 0 rfl rfl 3 (by decide) (hts _ fl_X12_13) (fun _ h9 => h9) rfl dX12_ofGlass_1 ?_
  refine lv_bipush (v := 80) hx hb dX12_ofGlass_4 (by decide) ?_
  refine lv_iconst (v := 5) hx hb dX12_ofGlass_6 (by decide) ?_
  refine lv_iload_n hx hb dX12_ofGlass_7 rfl (lv_at hl 1 rfl) ?_
  refine lv_imul hx hb dX12_ofGlass_8 ?_
  have t_1 : (5 * p_1).toInt = 5 * p_1.toInt := g5_imul (a := 5) (b := p_1.toInt) (by decide) (by rfl) (by omega) (by omega)
  refine lv_iadd hx hb dX12_ofGlass_9 ?_
  have t_2 : (80 + (5 * p_1)).toInt = 80 + (5 * p_1).toInt := g5_iadd (a := 80) (b := (5 * p_1).toInt) (by decide) (by rfl) (by omega) (by omega)
  refine lv_iload_n hx hb dX12_ofGlass_10 rfl (lv_at hl 2 rfl) ?_
  refine lv_iadd hx hb dX12_ofGlass_11 ?_
  have t_3 : ((80 + (5 * p_1)) + 1).toInt = (80 + (5 * p_1)).toInt + 1 := g5_iadd (a := (80 + (5 * p_1)).toInt) (b := 1) (by rfl) (by decide) (by omega) (by omega)
  refine va_iald hx hb hK hP 1 0 rfl rfl (i := ((80 + (5 * p_1)) + 1)) (vp_in_iff.mpr ⟨by omega, by omega⟩) dX12_ofGlass_12 ?_
  have hv9 : 0 ≤ (v_ro ((80 + (5 * p_1)) + 1).toNatClampNeg).toInt ∧ (v_ro ((80 + (5 * p_1)) + 1).toNatClampNeg).toInt ≤ 5 := mi_80_1 r_ro (by have zz := g5_clamp ((80 + (5 * p_1)) + 1); omega) (by have zz := g5_clamp ((80 + (5 * p_1)) + 1); omega) (by have zz := g5_clamp ((80 + (5 * p_1)) + 1); omega)
  exact W.iret (v := (v_ro ((80 + (5 * p_1)) + 1).toNatClampNeg)) hx hb hr (fun t ht hW => ⟨⟨(v_ro ((80 + (5 * p_1)) + 1).toNatClampNeg), [(b_o, (oc12 u_th u_sa b_rf b_ro b_im b_ke u_fd b_tp u_td u_fr u_to u_so u_wo u_fa u_bd u_nc b_nl u_co b_op b_ar u_le b_pi b_pa u_pd u_od b_ws b_hw u_la b_se b_re u_bk u_va u_su u_ce u_ho u_wy u_bt u_ps b_pt u_tg u_sn b_ip u_ic b_ah b_be b_me u_wd b_tr b_ld u_st b_wn u_id)), (b_ro, (arI G 5740 v_ro))], rfl, ⟨(v_ro ((80 + (5 * p_1)) + 1).toNatClampNeg), by omega, by congr 1; have zz := g5_clamp ((80 + (5 * p_1)) + 1); omega, rfl, rfl⟩, by rw [ht]; exact hP.sub [0, 1] rfl, hD.sub [0, 1] (by decide) rfl⟩, hS.F ht⟩) hS.2.2 dX12_ofGlass_13
theorem dgX12_sooner_0 : ∀ r ∈ ([(0, (.aload_n 0, 1)), (1, (.iconst 0, 1)), (2, (.putfield 107, 3)), (5, (.aload_n 0, 1)), (6, (.iload_n 1, 1)), (7, (.invokevirtual 180, 3)), (10, (.ifCond .eq 49, 3)), (13, (.iload_n 2, 1)), (14, (.invokestatic 138, 3)), (17, (.ifCond .eq 42, 3)), (20, (.iload_n 3, 1)), (21, (.invokestatic 175, 3)), (24, (.ifCond .eq 35, 3)), (27, (.iload 4, 2)), (29, (.i2l, 1)), (30, (.lconst 0, 1)), (31, (.ldc2_w 411, 3)), (34, (.invokestatic 121, 3)), (37, (.ifCond .eq 22, 3)), (40, (.aload_n 0, 1)), (41, (.iload_n 2, 1)), (42, (.invokestatic 138, 3)), (45, (.ifCond .eq 7, 3)), (48, (.iload_n 2, 1)), (49, (.goto 4, 3)), (52, (.iconst 0, 1)), (53, (.invokevirtual 160, 3)), (56, (.ifCond .eq 5, 3)), (59, (.iconst (-1), 1)), (60, (.ireturn, 1)), (61, (.aload_n 0, 1)), (62, (.iload_n 1, 1)), (63, (.iload_n 2, 1)), (64, (.iload_n 3, 1)), (65, (.invokevirtual 466, 3)), (68, (.istore 5, 2)), (70, (.iload 5, 2)), (72, (.iconst (-1), 1)), (73, (.if_icmp .ne 8, 3)), (76, (.bipush 24, 2))] : List (Nat × (Instr × Nat))), decode cX12_sooner r.1 = .ok r.2 := by decide +kernel
theorem dX12_sooner_0 : decode cX12_sooner 0 = .ok (.aload_n 0, 1) := dgX12_sooner_0 (0, (.aload_n 0, 1)) (List.mem_of_getElem? (i := 0) rfl)
theorem dX12_sooner_1 : decode cX12_sooner 1 = .ok (.iconst 0, 1) := dgX12_sooner_0 (1, (.iconst 0, 1)) (List.mem_of_getElem? (i := 1) rfl)
theorem dX12_sooner_2 : decode cX12_sooner 2 = .ok (.putfield 107, 3) := dgX12_sooner_0 (2, (.putfield 107, 3)) (List.mem_of_getElem? (i := 2) rfl)
theorem dX12_sooner_5 : decode cX12_sooner 5 = .ok (.aload_n 0, 1) := dgX12_sooner_0 (5, (.aload_n 0, 1)) (List.mem_of_getElem? (i := 3) rfl)
theorem dX12_sooner_6 : decode cX12_sooner 6 = .ok (.iload_n 1, 1) := dgX12_sooner_0 (6, (.iload_n 1, 1)) (List.mem_of_getElem? (i := 4) rfl)
theorem dX12_sooner_7 : decode cX12_sooner 7 = .ok (.invokevirtual 180, 3) := dgX12_sooner_0 (7, (.invokevirtual 180, 3)) (List.mem_of_getElem? (i := 5) rfl)
theorem dX12_sooner_10 : decode cX12_sooner 10 = .ok (.ifCond .eq 49, 3) := dgX12_sooner_0 (10, (.ifCond .eq 49, 3)) (List.mem_of_getElem? (i := 6) rfl)
theorem dX12_sooner_13 : decode cX12_sooner 13 = .ok (.iload_n 2, 1) := dgX12_sooner_0 (13, (.iload_n 2, 1)) (List.mem_of_getElem? (i := 7) rfl)
theorem dX12_sooner_14 : decode cX12_sooner 14 = .ok (.invokestatic 138, 3) := dgX12_sooner_0 (14, (.invokestatic 138, 3)) (List.mem_of_getElem? (i := 8) rfl)
theorem dX12_sooner_17 : decode cX12_sooner 17 = .ok (.ifCond .eq 42, 3) := dgX12_sooner_0 (17, (.ifCond .eq 42, 3)) (List.mem_of_getElem? (i := 9) rfl)
theorem dX12_sooner_20 : decode cX12_sooner 20 = .ok (.iload_n 3, 1) := dgX12_sooner_0 (20, (.iload_n 3, 1)) (List.mem_of_getElem? (i := 10) rfl)
theorem dX12_sooner_21 : decode cX12_sooner 21 = .ok (.invokestatic 175, 3) := dgX12_sooner_0 (21, (.invokestatic 175, 3)) (List.mem_of_getElem? (i := 11) rfl)
theorem dX12_sooner_24 : decode cX12_sooner 24 = .ok (.ifCond .eq 35, 3) := dgX12_sooner_0 (24, (.ifCond .eq 35, 3)) (List.mem_of_getElem? (i := 12) rfl)
theorem dX12_sooner_27 : decode cX12_sooner 27 = .ok (.iload 4, 2) := dgX12_sooner_0 (27, (.iload 4, 2)) (List.mem_of_getElem? (i := 13) rfl)
theorem dX12_sooner_29 : decode cX12_sooner 29 = .ok (.i2l, 1) := dgX12_sooner_0 (29, (.i2l, 1)) (List.mem_of_getElem? (i := 14) rfl)
theorem dX12_sooner_30 : decode cX12_sooner 30 = .ok (.lconst 0, 1) := dgX12_sooner_0 (30, (.lconst 0, 1)) (List.mem_of_getElem? (i := 15) rfl)
theorem dX12_sooner_31 : decode cX12_sooner 31 = .ok (.ldc2_w 411, 3) := dgX12_sooner_0 (31, (.ldc2_w 411, 3)) (List.mem_of_getElem? (i := 16) rfl)
theorem dX12_sooner_34 : decode cX12_sooner 34 = .ok (.invokestatic 121, 3) := dgX12_sooner_0 (34, (.invokestatic 121, 3)) (List.mem_of_getElem? (i := 17) rfl)
theorem dX12_sooner_37 : decode cX12_sooner 37 = .ok (.ifCond .eq 22, 3) := dgX12_sooner_0 (37, (.ifCond .eq 22, 3)) (List.mem_of_getElem? (i := 18) rfl)
theorem dX12_sooner_40 : decode cX12_sooner 40 = .ok (.aload_n 0, 1) := dgX12_sooner_0 (40, (.aload_n 0, 1)) (List.mem_of_getElem? (i := 19) rfl)
theorem dX12_sooner_41 : decode cX12_sooner 41 = .ok (.iload_n 2, 1) := dgX12_sooner_0 (41, (.iload_n 2, 1)) (List.mem_of_getElem? (i := 20) rfl)
theorem dX12_sooner_42 : decode cX12_sooner 42 = .ok (.invokestatic 138, 3) := dgX12_sooner_0 (42, (.invokestatic 138, 3)) (List.mem_of_getElem? (i := 21) rfl)
theorem dX12_sooner_45 : decode cX12_sooner 45 = .ok (.ifCond .eq 7, 3) := dgX12_sooner_0 (45, (.ifCond .eq 7, 3)) (List.mem_of_getElem? (i := 22) rfl)
theorem dX12_sooner_48 : decode cX12_sooner 48 = .ok (.iload_n 2, 1) := dgX12_sooner_0 (48, (.iload_n 2, 1)) (List.mem_of_getElem? (i := 23) rfl)
theorem dX12_sooner_49 : decode cX12_sooner 49 = .ok (.goto 4, 3) := dgX12_sooner_0 (49, (.goto 4, 3)) (List.mem_of_getElem? (i := 24) rfl)
theorem dX12_sooner_52 : decode cX12_sooner 52 = .ok (.iconst 0, 1) := dgX12_sooner_0 (52, (.iconst 0, 1)) (List.mem_of_getElem? (i := 25) rfl)
theorem dX12_sooner_53 : decode cX12_sooner 53 = .ok (.invokevirtual 160, 3) := dgX12_sooner_0 (53, (.invokevirtual 160, 3)) (List.mem_of_getElem? (i := 26) rfl)
theorem dX12_sooner_56 : decode cX12_sooner 56 = .ok (.ifCond .eq 5, 3) := dgX12_sooner_0 (56, (.ifCond .eq 5, 3)) (List.mem_of_getElem? (i := 27) rfl)
theorem dX12_sooner_59 : decode cX12_sooner 59 = .ok (.iconst (-1), 1) := dgX12_sooner_0 (59, (.iconst (-1), 1)) (List.mem_of_getElem? (i := 28) rfl)
theorem dX12_sooner_60 : decode cX12_sooner 60 = .ok (.ireturn, 1) := dgX12_sooner_0 (60, (.ireturn, 1)) (List.mem_of_getElem? (i := 29) rfl)
theorem dX12_sooner_61 : decode cX12_sooner 61 = .ok (.aload_n 0, 1) := dgX12_sooner_0 (61, (.aload_n 0, 1)) (List.mem_of_getElem? (i := 30) rfl)
theorem dX12_sooner_62 : decode cX12_sooner 62 = .ok (.iload_n 1, 1) := dgX12_sooner_0 (62, (.iload_n 1, 1)) (List.mem_of_getElem? (i := 31) rfl)
theorem dX12_sooner_63 : decode cX12_sooner 63 = .ok (.iload_n 2, 1) := dgX12_sooner_0 (63, (.iload_n 2, 1)) (List.mem_of_getElem? (i := 32) rfl)
theorem dX12_sooner_64 : decode cX12_sooner 64 = .ok (.iload_n 3, 1) := dgX12_sooner_0 (64, (.iload_n 3, 1)) (List.mem_of_getElem? (i := 33) rfl)
theorem dX12_sooner_65 : decode cX12_sooner 65 = .ok (.invokevirtual 466, 3) := dgX12_sooner_0 (65, (.invokevirtual 466, 3)) (List.mem_of_getElem? (i := 34) rfl)
theorem dX12_sooner_68 : decode cX12_sooner 68 = .ok (.istore 5, 2) := dgX12_sooner_0 (68, (.istore 5, 2)) (List.mem_of_getElem? (i := 35) rfl)
theorem dX12_sooner_70 : decode cX12_sooner 70 = .ok (.iload 5, 2) := dgX12_sooner_0 (70, (.iload 5, 2)) (List.mem_of_getElem? (i := 36) rfl)
theorem dX12_sooner_72 : decode cX12_sooner 72 = .ok (.iconst (-1), 1) := dgX12_sooner_0 (72, (.iconst (-1), 1)) (List.mem_of_getElem? (i := 37) rfl)
theorem dX12_sooner_73 : decode cX12_sooner 73 = .ok (.if_icmp .ne 8, 3) := dgX12_sooner_0 (73, (.if_icmp .ne 8, 3)) (List.mem_of_getElem? (i := 38) rfl)
theorem dX12_sooner_76 : decode cX12_sooner 76 = .ok (.bipush 24, 2) := dgX12_sooner_0 (76, (.bipush 24, 2)) (List.mem_of_getElem? (i := 39) rfl)
theorem dgX12_sooner_1 : ∀ r ∈ ([(78, (.goto 5, 3)), (81, (.iload 5, 2)), (83, (.istore 6, 2)), (85, (.iconst (-1), 1)), (86, (.istore 7, 2)), (88, (.iconst 0, 1)), (89, (.istore 8, 2)), (91, (.iload 8, 2)), (93, (.aload_n 0, 1)), (94, (.getfield 13, 3)), (97, (.iconst 0, 1)), (98, (.iaload, 1)), (99, (.if_icmp .ge 136, 3)), (102, (.aload_n 0, 1)), (103, (.iload 8, 2)), (105, (.iconst 1, 1)), (106, (.invokevirtual 134, 3)), (109, (.istore 9, 2)), (111, (.iconst 0, 1)), (112, (.istore 10, 2)), (114, (.iload 10, 2)), (116, (.bipush 6, 2)), (118, (.if_icmp .ge 95, 3)), (121, (.aload_n 0, 1)), (122, (.getfield 13, 3)), (125, (.bipush 80, 2)), (127, (.iconst 5, 1)), (128, (.iload 8, 2)), (130, (.imul, 1)), (131, (.iadd, 1)), (132, (.iconst 1, 1)), (133, (.iadd, 1)), (134, (.iload 10, 2)), (136, (.iastore, 1)), (137, (.iload 10, 2)), (139, (.iload 9, 2)), (141, (.if_icmp .ne 7, 3)), (144, (.iconst (-1), 1)), (145, (.goto 10, 3)), (148, (.aload_n 0, 1))] : List (Nat × (Instr × Nat))), decode cX12_sooner r.1 = .ok r.2 := by decide +kernel
theorem dX12_sooner_78 : decode cX12_sooner 78 = .ok (.goto 5, 3) := dgX12_sooner_1 (78, (.goto 5, 3)) (List.mem_of_getElem? (i := 0) rfl)
theorem dX12_sooner_81 : decode cX12_sooner 81 = .ok (.iload 5, 2) := dgX12_sooner_1 (81, (.iload 5, 2)) (List.mem_of_getElem? (i := 1) rfl)
theorem dX12_sooner_83 : decode cX12_sooner 83 = .ok (.istore 6, 2) := dgX12_sooner_1 (83, (.istore 6, 2)) (List.mem_of_getElem? (i := 2) rfl)
theorem dX12_sooner_85 : decode cX12_sooner 85 = .ok (.iconst (-1), 1) := dgX12_sooner_1 (85, (.iconst (-1), 1)) (List.mem_of_getElem? (i := 3) rfl)
theorem dX12_sooner_86 : decode cX12_sooner 86 = .ok (.istore 7, 2) := dgX12_sooner_1 (86, (.istore 7, 2)) (List.mem_of_getElem? (i := 4) rfl)
theorem dX12_sooner_88 : decode cX12_sooner 88 = .ok (.iconst 0, 1) := dgX12_sooner_1 (88, (.iconst 0, 1)) (List.mem_of_getElem? (i := 5) rfl)
theorem dX12_sooner_89 : decode cX12_sooner 89 = .ok (.istore 8, 2) := dgX12_sooner_1 (89, (.istore 8, 2)) (List.mem_of_getElem? (i := 6) rfl)
theorem dX12_sooner_91 : decode cX12_sooner 91 = .ok (.iload 8, 2) := dgX12_sooner_1 (91, (.iload 8, 2)) (List.mem_of_getElem? (i := 7) rfl)
theorem dX12_sooner_93 : decode cX12_sooner 93 = .ok (.aload_n 0, 1) := dgX12_sooner_1 (93, (.aload_n 0, 1)) (List.mem_of_getElem? (i := 8) rfl)
theorem dX12_sooner_94 : decode cX12_sooner 94 = .ok (.getfield 13, 3) := dgX12_sooner_1 (94, (.getfield 13, 3)) (List.mem_of_getElem? (i := 9) rfl)
theorem dX12_sooner_97 : decode cX12_sooner 97 = .ok (.iconst 0, 1) := dgX12_sooner_1 (97, (.iconst 0, 1)) (List.mem_of_getElem? (i := 10) rfl)
theorem dX12_sooner_98 : decode cX12_sooner 98 = .ok (.iaload, 1) := dgX12_sooner_1 (98, (.iaload, 1)) (List.mem_of_getElem? (i := 11) rfl)
theorem dX12_sooner_99 : decode cX12_sooner 99 = .ok (.if_icmp .ge 136, 3) := dgX12_sooner_1 (99, (.if_icmp .ge 136, 3)) (List.mem_of_getElem? (i := 12) rfl)
theorem dX12_sooner_102 : decode cX12_sooner 102 = .ok (.aload_n 0, 1) := dgX12_sooner_1 (102, (.aload_n 0, 1)) (List.mem_of_getElem? (i := 13) rfl)
theorem dX12_sooner_103 : decode cX12_sooner 103 = .ok (.iload 8, 2) := dgX12_sooner_1 (103, (.iload 8, 2)) (List.mem_of_getElem? (i := 14) rfl)
theorem dX12_sooner_105 : decode cX12_sooner 105 = .ok (.iconst 1, 1) := dgX12_sooner_1 (105, (.iconst 1, 1)) (List.mem_of_getElem? (i := 15) rfl)
theorem dX12_sooner_106 : decode cX12_sooner 106 = .ok (.invokevirtual 134, 3) := dgX12_sooner_1 (106, (.invokevirtual 134, 3)) (List.mem_of_getElem? (i := 16) rfl)
theorem dX12_sooner_109 : decode cX12_sooner 109 = .ok (.istore 9, 2) := dgX12_sooner_1 (109, (.istore 9, 2)) (List.mem_of_getElem? (i := 17) rfl)
theorem dX12_sooner_111 : decode cX12_sooner 111 = .ok (.iconst 0, 1) := dgX12_sooner_1 (111, (.iconst 0, 1)) (List.mem_of_getElem? (i := 18) rfl)
theorem dX12_sooner_112 : decode cX12_sooner 112 = .ok (.istore 10, 2) := dgX12_sooner_1 (112, (.istore 10, 2)) (List.mem_of_getElem? (i := 19) rfl)
theorem dX12_sooner_114 : decode cX12_sooner 114 = .ok (.iload 10, 2) := dgX12_sooner_1 (114, (.iload 10, 2)) (List.mem_of_getElem? (i := 20) rfl)
theorem dX12_sooner_116 : decode cX12_sooner 116 = .ok (.bipush 6, 2) := dgX12_sooner_1 (116, (.bipush 6, 2)) (List.mem_of_getElem? (i := 21) rfl)
theorem dX12_sooner_118 : decode cX12_sooner 118 = .ok (.if_icmp .ge 95, 3) := dgX12_sooner_1 (118, (.if_icmp .ge 95, 3)) (List.mem_of_getElem? (i := 22) rfl)
theorem dX12_sooner_121 : decode cX12_sooner 121 = .ok (.aload_n 0, 1) := dgX12_sooner_1 (121, (.aload_n 0, 1)) (List.mem_of_getElem? (i := 23) rfl)
theorem dX12_sooner_122 : decode cX12_sooner 122 = .ok (.getfield 13, 3) := dgX12_sooner_1 (122, (.getfield 13, 3)) (List.mem_of_getElem? (i := 24) rfl)
theorem dX12_sooner_125 : decode cX12_sooner 125 = .ok (.bipush 80, 2) := dgX12_sooner_1 (125, (.bipush 80, 2)) (List.mem_of_getElem? (i := 25) rfl)
theorem dX12_sooner_127 : decode cX12_sooner 127 = .ok (.iconst 5, 1) := dgX12_sooner_1 (127, (.iconst 5, 1)) (List.mem_of_getElem? (i := 26) rfl)
theorem dX12_sooner_128 : decode cX12_sooner 128 = .ok (.iload 8, 2) := dgX12_sooner_1 (128, (.iload 8, 2)) (List.mem_of_getElem? (i := 27) rfl)
theorem dX12_sooner_130 : decode cX12_sooner 130 = .ok (.imul, 1) := dgX12_sooner_1 (130, (.imul, 1)) (List.mem_of_getElem? (i := 28) rfl)
theorem dX12_sooner_131 : decode cX12_sooner 131 = .ok (.iadd, 1) := dgX12_sooner_1 (131, (.iadd, 1)) (List.mem_of_getElem? (i := 29) rfl)
theorem dX12_sooner_132 : decode cX12_sooner 132 = .ok (.iconst 1, 1) := dgX12_sooner_1 (132, (.iconst 1, 1)) (List.mem_of_getElem? (i := 30) rfl)
theorem dX12_sooner_133 : decode cX12_sooner 133 = .ok (.iadd, 1) := dgX12_sooner_1 (133, (.iadd, 1)) (List.mem_of_getElem? (i := 31) rfl)
theorem dX12_sooner_134 : decode cX12_sooner 134 = .ok (.iload 10, 2) := dgX12_sooner_1 (134, (.iload 10, 2)) (List.mem_of_getElem? (i := 32) rfl)
theorem dX12_sooner_136 : decode cX12_sooner 136 = .ok (.iastore, 1) := dgX12_sooner_1 (136, (.iastore, 1)) (List.mem_of_getElem? (i := 33) rfl)
theorem dX12_sooner_137 : decode cX12_sooner 137 = .ok (.iload 10, 2) := dgX12_sooner_1 (137, (.iload 10, 2)) (List.mem_of_getElem? (i := 34) rfl)
theorem dX12_sooner_139 : decode cX12_sooner 139 = .ok (.iload 9, 2) := dgX12_sooner_1 (139, (.iload 9, 2)) (List.mem_of_getElem? (i := 35) rfl)
theorem dX12_sooner_141 : decode cX12_sooner 141 = .ok (.if_icmp .ne 7, 3) := dgX12_sooner_1 (141, (.if_icmp .ne 7, 3)) (List.mem_of_getElem? (i := 36) rfl)
theorem dX12_sooner_144 : decode cX12_sooner 144 = .ok (.iconst (-1), 1) := dgX12_sooner_1 (144, (.iconst (-1), 1)) (List.mem_of_getElem? (i := 37) rfl)
theorem dX12_sooner_145 : decode cX12_sooner 145 = .ok (.goto 10, 3) := dgX12_sooner_1 (145, (.goto 10, 3)) (List.mem_of_getElem? (i := 38) rfl)
theorem dX12_sooner_148 : decode cX12_sooner 148 = .ok (.aload_n 0, 1) := dgX12_sooner_1 (148, (.aload_n 0, 1)) (List.mem_of_getElem? (i := 39) rfl)
theorem dgX12_sooner_2 : ∀ r ∈ ([(149, (.iload_n 1, 1)), (150, (.iload_n 2, 1)), (151, (.iload_n 3, 1)), (152, (.invokevirtual 466, 3)), (155, (.istore 11, 2)), (157, (.iload 11, 2)), (159, (.iconst (-1), 1)), (160, (.if_icmp .eq 21, 3)), (163, (.iload 11, 2)), (165, (.iload 6, 2)), (167, (.if_icmp .ge 14, 3)), (170, (.bipush 6, 2)), (172, (.iload 8, 2)), (174, (.imul, 1)), (175, (.iload 10, 2)), (177, (.iadd, 1)), (178, (.goto 5, 3)), (181, (.iload 7, 2)), (183, (.istore 7, 2)), (185, (.iload 11, 2)), (187, (.iconst (-1), 1)), (188, (.if_icmp .eq 15, 3)), (191, (.iload 11, 2)), (193, (.iload 6, 2)), (195, (.if_icmp .ge 8, 3)), (198, (.iload 11, 2)), (200, (.goto 5, 3)), (203, (.iload 6, 2)), (205, (.istore 6, 2)), (207, (.iinc 10 1, 3)), (210, (.goto (-96), 3)), (213, (.aload_n 0, 1)), (214, (.getfield 13, 3)), (217, (.bipush 80, 2)), (219, (.iconst 5, 1)), (220, (.iload 8, 2)), (222, (.imul, 1)), (223, (.iadd, 1)), (224, (.iconst 1, 1)), (225, (.iadd, 1))] : List (Nat × (Instr × Nat))), decode cX12_sooner r.1 = .ok r.2 := by decide +kernel
theorem dX12_sooner_149 : decode cX12_sooner 149 = .ok (.iload_n 1, 1) := dgX12_sooner_2 (149, (.iload_n 1, 1)) (List.mem_of_getElem? (i := 0) rfl)
theorem dX12_sooner_150 : decode cX12_sooner 150 = .ok (.iload_n 2, 1) := dgX12_sooner_2 (150, (.iload_n 2, 1)) (List.mem_of_getElem? (i := 1) rfl)
theorem dX12_sooner_151 : decode cX12_sooner 151 = .ok (.iload_n 3, 1) := dgX12_sooner_2 (151, (.iload_n 3, 1)) (List.mem_of_getElem? (i := 2) rfl)
theorem dX12_sooner_152 : decode cX12_sooner 152 = .ok (.invokevirtual 466, 3) := dgX12_sooner_2 (152, (.invokevirtual 466, 3)) (List.mem_of_getElem? (i := 3) rfl)
theorem dX12_sooner_155 : decode cX12_sooner 155 = .ok (.istore 11, 2) := dgX12_sooner_2 (155, (.istore 11, 2)) (List.mem_of_getElem? (i := 4) rfl)
theorem dX12_sooner_157 : decode cX12_sooner 157 = .ok (.iload 11, 2) := dgX12_sooner_2 (157, (.iload 11, 2)) (List.mem_of_getElem? (i := 5) rfl)
theorem dX12_sooner_159 : decode cX12_sooner 159 = .ok (.iconst (-1), 1) := dgX12_sooner_2 (159, (.iconst (-1), 1)) (List.mem_of_getElem? (i := 6) rfl)
theorem dX12_sooner_160 : decode cX12_sooner 160 = .ok (.if_icmp .eq 21, 3) := dgX12_sooner_2 (160, (.if_icmp .eq 21, 3)) (List.mem_of_getElem? (i := 7) rfl)
theorem dX12_sooner_163 : decode cX12_sooner 163 = .ok (.iload 11, 2) := dgX12_sooner_2 (163, (.iload 11, 2)) (List.mem_of_getElem? (i := 8) rfl)
theorem dX12_sooner_165 : decode cX12_sooner 165 = .ok (.iload 6, 2) := dgX12_sooner_2 (165, (.iload 6, 2)) (List.mem_of_getElem? (i := 9) rfl)
theorem dX12_sooner_167 : decode cX12_sooner 167 = .ok (.if_icmp .ge 14, 3) := dgX12_sooner_2 (167, (.if_icmp .ge 14, 3)) (List.mem_of_getElem? (i := 10) rfl)
theorem dX12_sooner_170 : decode cX12_sooner 170 = .ok (.bipush 6, 2) := dgX12_sooner_2 (170, (.bipush 6, 2)) (List.mem_of_getElem? (i := 11) rfl)
theorem dX12_sooner_172 : decode cX12_sooner 172 = .ok (.iload 8, 2) := dgX12_sooner_2 (172, (.iload 8, 2)) (List.mem_of_getElem? (i := 12) rfl)
theorem dX12_sooner_174 : decode cX12_sooner 174 = .ok (.imul, 1) := dgX12_sooner_2 (174, (.imul, 1)) (List.mem_of_getElem? (i := 13) rfl)
theorem dX12_sooner_175 : decode cX12_sooner 175 = .ok (.iload 10, 2) := dgX12_sooner_2 (175, (.iload 10, 2)) (List.mem_of_getElem? (i := 14) rfl)
theorem dX12_sooner_177 : decode cX12_sooner 177 = .ok (.iadd, 1) := dgX12_sooner_2 (177, (.iadd, 1)) (List.mem_of_getElem? (i := 15) rfl)
theorem dX12_sooner_178 : decode cX12_sooner 178 = .ok (.goto 5, 3) := dgX12_sooner_2 (178, (.goto 5, 3)) (List.mem_of_getElem? (i := 16) rfl)
theorem dX12_sooner_181 : decode cX12_sooner 181 = .ok (.iload 7, 2) := dgX12_sooner_2 (181, (.iload 7, 2)) (List.mem_of_getElem? (i := 17) rfl)
theorem dX12_sooner_183 : decode cX12_sooner 183 = .ok (.istore 7, 2) := dgX12_sooner_2 (183, (.istore 7, 2)) (List.mem_of_getElem? (i := 18) rfl)
theorem dX12_sooner_185 : decode cX12_sooner 185 = .ok (.iload 11, 2) := dgX12_sooner_2 (185, (.iload 11, 2)) (List.mem_of_getElem? (i := 19) rfl)
theorem dX12_sooner_187 : decode cX12_sooner 187 = .ok (.iconst (-1), 1) := dgX12_sooner_2 (187, (.iconst (-1), 1)) (List.mem_of_getElem? (i := 20) rfl)
theorem dX12_sooner_188 : decode cX12_sooner 188 = .ok (.if_icmp .eq 15, 3) := dgX12_sooner_2 (188, (.if_icmp .eq 15, 3)) (List.mem_of_getElem? (i := 21) rfl)
theorem dX12_sooner_191 : decode cX12_sooner 191 = .ok (.iload 11, 2) := dgX12_sooner_2 (191, (.iload 11, 2)) (List.mem_of_getElem? (i := 22) rfl)
theorem dX12_sooner_193 : decode cX12_sooner 193 = .ok (.iload 6, 2) := dgX12_sooner_2 (193, (.iload 6, 2)) (List.mem_of_getElem? (i := 23) rfl)
theorem dX12_sooner_195 : decode cX12_sooner 195 = .ok (.if_icmp .ge 8, 3) := dgX12_sooner_2 (195, (.if_icmp .ge 8, 3)) (List.mem_of_getElem? (i := 24) rfl)
theorem dX12_sooner_198 : decode cX12_sooner 198 = .ok (.iload 11, 2) := dgX12_sooner_2 (198, (.iload 11, 2)) (List.mem_of_getElem? (i := 25) rfl)
theorem dX12_sooner_200 : decode cX12_sooner 200 = .ok (.goto 5, 3) := dgX12_sooner_2 (200, (.goto 5, 3)) (List.mem_of_getElem? (i := 26) rfl)
theorem dX12_sooner_203 : decode cX12_sooner 203 = .ok (.iload 6, 2) := dgX12_sooner_2 (203, (.iload 6, 2)) (List.mem_of_getElem? (i := 27) rfl)
theorem dX12_sooner_205 : decode cX12_sooner 205 = .ok (.istore 6, 2) := dgX12_sooner_2 (205, (.istore 6, 2)) (List.mem_of_getElem? (i := 28) rfl)
theorem dX12_sooner_207 : decode cX12_sooner 207 = .ok (.iinc 10 1, 3) := dgX12_sooner_2 (207, (.iinc 10 1, 3)) (List.mem_of_getElem? (i := 29) rfl)
theorem dX12_sooner_210 : decode cX12_sooner 210 = .ok (.goto (-96), 3) := dgX12_sooner_2 (210, (.goto (-96), 3)) (List.mem_of_getElem? (i := 30) rfl)
theorem dX12_sooner_213 : decode cX12_sooner 213 = .ok (.aload_n 0, 1) := dgX12_sooner_2 (213, (.aload_n 0, 1)) (List.mem_of_getElem? (i := 31) rfl)
theorem dX12_sooner_214 : decode cX12_sooner 214 = .ok (.getfield 13, 3) := dgX12_sooner_2 (214, (.getfield 13, 3)) (List.mem_of_getElem? (i := 32) rfl)
theorem dX12_sooner_217 : decode cX12_sooner 217 = .ok (.bipush 80, 2) := dgX12_sooner_2 (217, (.bipush 80, 2)) (List.mem_of_getElem? (i := 33) rfl)
theorem dX12_sooner_219 : decode cX12_sooner 219 = .ok (.iconst 5, 1) := dgX12_sooner_2 (219, (.iconst 5, 1)) (List.mem_of_getElem? (i := 34) rfl)
theorem dX12_sooner_220 : decode cX12_sooner 220 = .ok (.iload 8, 2) := dgX12_sooner_2 (220, (.iload 8, 2)) (List.mem_of_getElem? (i := 35) rfl)
theorem dX12_sooner_222 : decode cX12_sooner 222 = .ok (.imul, 1) := dgX12_sooner_2 (222, (.imul, 1)) (List.mem_of_getElem? (i := 36) rfl)
theorem dX12_sooner_223 : decode cX12_sooner 223 = .ok (.iadd, 1) := dgX12_sooner_2 (223, (.iadd, 1)) (List.mem_of_getElem? (i := 37) rfl)
theorem dX12_sooner_224 : decode cX12_sooner 224 = .ok (.iconst 1, 1) := dgX12_sooner_2 (224, (.iconst 1, 1)) (List.mem_of_getElem? (i := 38) rfl)
theorem dX12_sooner_225 : decode cX12_sooner 225 = .ok (.iadd, 1) := dgX12_sooner_2 (225, (.iadd, 1)) (List.mem_of_getElem? (i := 39) rfl)
theorem dgX12_sooner_3 : ∀ r ∈ ([(226, (.iload 9, 2)), (228, (.iastore, 1)), (229, (.iinc 8 1, 3)), (232, (.goto (-141), 3)), (235, (.iload 7, 2)), (237, (.iconst (-1), 1)), (238, (.if_icmp .ne 7, 3)), (241, (.iconst (-1), 1)), (242, (.goto 32, 3)), (245, (.iload 4, 2)), (247, (.ifCond .ne 8, 3)), (250, (.iload 6, 2)), (252, (.goto 22, 3)), (255, (.iload 4, 2)), (257, (.iconst 1, 1)), (258, (.if_icmp .ne 11, 3)), (261, (.iload 7, 2)), (263, (.bipush 6, 2)), (265, (.idiv, 1)), (266, (.goto 8, 3)), (269, (.iload 7, 2)), (271, (.bipush 6, 2)), (273, (.irem, 1)), (274, (.ireturn, 1))] : List (Nat × (Instr × Nat))), decode cX12_sooner r.1 = .ok r.2 := by decide +kernel
theorem dX12_sooner_226 : decode cX12_sooner 226 = .ok (.iload 9, 2) := dgX12_sooner_3 (226, (.iload 9, 2)) (List.mem_of_getElem? (i := 0) rfl)
theorem dX12_sooner_228 : decode cX12_sooner 228 = .ok (.iastore, 1) := dgX12_sooner_3 (228, (.iastore, 1)) (List.mem_of_getElem? (i := 1) rfl)
theorem dX12_sooner_229 : decode cX12_sooner 229 = .ok (.iinc 8 1, 3) := dgX12_sooner_3 (229, (.iinc 8 1, 3)) (List.mem_of_getElem? (i := 2) rfl)
theorem dX12_sooner_232 : decode cX12_sooner 232 = .ok (.goto (-141), 3) := dgX12_sooner_3 (232, (.goto (-141), 3)) (List.mem_of_getElem? (i := 3) rfl)
theorem dX12_sooner_235 : decode cX12_sooner 235 = .ok (.iload 7, 2) := dgX12_sooner_3 (235, (.iload 7, 2)) (List.mem_of_getElem? (i := 4) rfl)
theorem dX12_sooner_237 : decode cX12_sooner 237 = .ok (.iconst (-1), 1) := dgX12_sooner_3 (237, (.iconst (-1), 1)) (List.mem_of_getElem? (i := 5) rfl)
theorem dX12_sooner_238 : decode cX12_sooner 238 = .ok (.if_icmp .ne 7, 3) := dgX12_sooner_3 (238, (.if_icmp .ne 7, 3)) (List.mem_of_getElem? (i := 6) rfl)
theorem dX12_sooner_241 : decode cX12_sooner 241 = .ok (.iconst (-1), 1) := dgX12_sooner_3 (241, (.iconst (-1), 1)) (List.mem_of_getElem? (i := 7) rfl)
theorem dX12_sooner_242 : decode cX12_sooner 242 = .ok (.goto 32, 3) := dgX12_sooner_3 (242, (.goto 32, 3)) (List.mem_of_getElem? (i := 8) rfl)
theorem dX12_sooner_245 : decode cX12_sooner 245 = .ok (.iload 4, 2) := dgX12_sooner_3 (245, (.iload 4, 2)) (List.mem_of_getElem? (i := 9) rfl)
theorem dX12_sooner_247 : decode cX12_sooner 247 = .ok (.ifCond .ne 8, 3) := dgX12_sooner_3 (247, (.ifCond .ne 8, 3)) (List.mem_of_getElem? (i := 10) rfl)
theorem dX12_sooner_250 : decode cX12_sooner 250 = .ok (.iload 6, 2) := dgX12_sooner_3 (250, (.iload 6, 2)) (List.mem_of_getElem? (i := 11) rfl)
theorem dX12_sooner_252 : decode cX12_sooner 252 = .ok (.goto 22, 3) := dgX12_sooner_3 (252, (.goto 22, 3)) (List.mem_of_getElem? (i := 12) rfl)
theorem dX12_sooner_255 : decode cX12_sooner 255 = .ok (.iload 4, 2) := dgX12_sooner_3 (255, (.iload 4, 2)) (List.mem_of_getElem? (i := 13) rfl)
theorem dX12_sooner_257 : decode cX12_sooner 257 = .ok (.iconst 1, 1) := dgX12_sooner_3 (257, (.iconst 1, 1)) (List.mem_of_getElem? (i := 14) rfl)
theorem dX12_sooner_258 : decode cX12_sooner 258 = .ok (.if_icmp .ne 11, 3) := dgX12_sooner_3 (258, (.if_icmp .ne 11, 3)) (List.mem_of_getElem? (i := 15) rfl)
theorem dX12_sooner_261 : decode cX12_sooner 261 = .ok (.iload 7, 2) := dgX12_sooner_3 (261, (.iload 7, 2)) (List.mem_of_getElem? (i := 16) rfl)
theorem dX12_sooner_263 : decode cX12_sooner 263 = .ok (.bipush 6, 2) := dgX12_sooner_3 (263, (.bipush 6, 2)) (List.mem_of_getElem? (i := 17) rfl)
theorem dX12_sooner_265 : decode cX12_sooner 265 = .ok (.idiv, 1) := dgX12_sooner_3 (265, (.idiv, 1)) (List.mem_of_getElem? (i := 18) rfl)
theorem dX12_sooner_266 : decode cX12_sooner 266 = .ok (.goto 8, 3) := dgX12_sooner_3 (266, (.goto 8, 3)) (List.mem_of_getElem? (i := 19) rfl)
theorem dX12_sooner_269 : decode cX12_sooner 269 = .ok (.iload 7, 2) := dgX12_sooner_3 (269, (.iload 7, 2)) (List.mem_of_getElem? (i := 20) rfl)
theorem dX12_sooner_271 : decode cX12_sooner 271 = .ok (.bipush 6, 2) := dgX12_sooner_3 (271, (.bipush 6, 2)) (List.mem_of_getElem? (i := 21) rfl)
theorem dX12_sooner_273 : decode cX12_sooner 273 = .ok (.irem, 1) := dgX12_sooner_3 (273, (.irem, 1)) (List.mem_of_getElem? (i := 22) rfl)
theorem dX12_sooner_274 : decode cX12_sooner 274 = .ok (.ireturn, 1) := dgX12_sooner_3 (274, (.ireturn, 1)) (List.mem_of_getElem? (i := 23) rfl)
