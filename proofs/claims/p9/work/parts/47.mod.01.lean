set_option maxHeartbeats 4000000 in
set_option maxRecDepth 100000 in
theorem n_findSoonest (l : Launch) (G : g5_G) (b_o b_ro b_se b_re b_pt b_tr b_ld b_rf b_im b_ke b_tp b_nl b_op b_ar b_pi b_pa b_ws b_hw b_ip b_ah b_be b_me b_wn : Nat) (sz : Nat) (u_th : Int32) (u_sa : Int32) (u_fd : Int32) (u_td : Int32) (u_fr : Int32) (u_to : Int32) (u_so : Int32) (u_fa : Int32) (u_bd : Int32) (u_nc : Int32) (u_co : Int32) (u_le : Int32) (u_pd : Int32) (u_od : Int32) (u_la : Int32) (u_bk : Int32) (u_ce : Int32) (u_ho : Int32) (u_wy : Int32) (u_bt : Int32) (u_ps : Int32) (u_tg : Int32) (u_sn : Int32) (u_ic : Int32) (u_wd : Int32) (u_id : Int32) (p_1 : Int32) (p_2 : Int32) (p_3 : Int32) (u_wo : Int64) (u_va : Int64) (u_su : Int64) (u_st : Int64) (v_ro : Nat → Int32) (v_se : Nat → Int64) (v_re : Nat → Int64) (v_pt : Nat → Int32) (v_tr : Nat → Int32) (v_ld : Nat → Int32) (h_u_td : 0 ≤ u_td.toInt ∧ u_td.toInt ≤ 400) (h_u_fr : 0 ≤ u_fr.toInt ∧ u_fr.toInt ≤ 400) (h_u_to : 0 ≤ u_to.toInt ∧ u_to.toInt ≤ 400) (h_u_bd : 0 ≤ u_bd.toInt ∧ u_bd.toInt ≤ 1) (h_u_nc : 0 ≤ u_nc.toInt ∧ u_nc.toInt ≤ 12) (h_u_co : 0 ≤ u_co.toInt ∧ u_co.toInt ≤ 400) (h_u_pd : 0 ≤ u_pd.toInt ∧ u_pd.toInt ≤ 400) (h_u_la : 0 ≤ u_la.toInt ∧ u_la.toInt ≤ 4840) (h_u_bk : 0 ≤ u_bk.toInt ∧ u_bk.toInt ≤ 1) (h_u_ce : 0 ≤ u_ce.toInt ∧ u_ce.toInt ≤ 63) (h_u_ho : 0 ≤ u_ho.toInt ∧ u_ho.toInt ≤ 23) (h_u_wy : 0 ≤ u_wy.toInt ∧ u_wy.toInt ≤ 3) (h_u_bt : 0 ≤ u_bt.toInt ∧ u_bt.toInt ≤ 1000000) (h_u_ps : 0 ≤ u_ps.toInt ∧ u_ps.toInt ≤ 200) (h_u_ic : 0 ≤ u_ic.toInt ∧ u_ic.toInt ≤ 1) (h_u_id : 0 ≤ u_id.toInt ∧ u_id.toInt ≤ 1) (h_p_2 : 0 ≤ p_2.toInt ∧ p_2.toInt ≤ 63) (h_p_3 : 0 ≤ p_3.toInt ∧ p_3.toInt ≤ 23) (r_ro : MI v_ro) (r_pt : PTI v_pt) : Met l yX12_findSoonest (wsG yX12_findSoonest cX12_findSoonest 9 (some .int)) ({ frames := 8, cells := 0, slots := 0, locals := 200 }) (va_Pc [.ref b_o, .int p_1, .int p_2, .int p_3] (g5_P G [(b_o, (oc12 u_th u_sa b_rf b_ro b_im b_ke u_fd b_tp u_td u_fr u_to u_so u_wo u_fa u_bd u_nc b_nl u_co b_op b_ar u_le b_pi b_pa u_pd u_od b_ws b_hw u_la b_se b_re u_bk u_va u_su u_ce u_ho u_wy u_bt u_ps b_pt u_tg u_sn b_ip u_ic b_ah b_be b_me u_wd b_tr b_ld u_st b_wn u_id)), (b_ro, (arI G 5740 v_ro)), (b_se, (arJ G 13 v_se)), (b_re, (arJ G 400 v_re)), (b_pt, (arI G 200 v_pt)), (b_tr, (arZ G 1536 v_tr)), (b_ld, (arZ G 1536 v_ld))] sz)) (va_Qi (fun (r : Int32) (u : va_W) => (∃ (o_r : Int32) (o_la : Int32) (o_bk : Int32) (o_va : Int64) (o_su : Int64) (o_ce : Int32) (o_ho : Int32) (o_wy : Int32) (o_bt : Int32) (o_ps : Int32) (o_tg : Int32) (o_sn : Int32) (o_se : Nat → Int64) (o_re : Nat → Int64) (o_pt : Nat → Int32) (o_tr : Nat → Int32) (o_ld : Nat → Int32), ((-1) ≤ o_r.toInt ∧ o_r.toInt ≤ 23) ∧ (0 ≤ o_la.toInt ∧ o_la.toInt ≤ 4840) ∧ (0 ≤ o_bk.toInt ∧ o_bk.toInt ≤ 1) ∧ (0 ≤ o_ce.toInt ∧ o_ce.toInt ≤ 63) ∧ (0 ≤ o_ho.toInt ∧ o_ho.toInt ≤ 23) ∧ (0 ≤ o_wy.toInt ∧ o_wy.toInt ≤ 3) ∧ (0 ≤ o_bt.toInt ∧ o_bt.toInt ≤ 1000000) ∧ (0 ≤ o_ps.toInt ∧ o_ps.toInt ≤ 200) ∧ (PTI o_pt) ∧ (r = o_r) ∧ (u = [(b_o, (oc12 u_th u_sa b_rf b_ro b_im b_ke u_fd b_tp u_td u_fr u_to u_so u_wo u_fa u_bd u_nc b_nl u_co b_op b_ar u_le b_pi b_pa u_pd u_od b_ws b_hw o_la b_se b_re o_bk o_va o_su o_ce o_ho o_wy o_bt o_ps b_pt o_tg o_sn b_ip u_ic b_ah b_be b_me u_wd b_tr b_ld u_st b_wn u_id)), (b_ro, (arI G 5740 v_ro)), (b_se, (arJ G 13 o_se)), (b_re, (arJ G 400 o_re)), (b_pt, (arI G 200 o_pt)), (b_tr, (arZ G 1536 o_tr)), (b_ld, (arZ G 1536 o_ld))]))) (g5_B G (va_A [(b_o, (oc12 u_th u_sa b_rf b_ro b_im b_ke u_fd b_tp u_td u_fr u_to u_so u_wo u_fa u_bd u_nc b_nl u_co b_op b_ar u_le b_pi b_pa u_pd u_od b_ws b_hw u_la b_se b_re u_bk u_va u_su u_ce u_ho u_wy u_bt u_ps b_pt u_tg u_sn b_ip u_ic b_ah b_be b_me u_wd b_tr b_ld u_st b_wn u_id)), (b_ro, (arI G 5740 v_ro)), (b_se, (arJ G 13 v_se)), (b_re, (arJ G 400 v_re)), (b_pt, (arI G 200 v_pt)), (b_tr, (arZ G 1536 v_tr)), (b_ld, (arZ G 1536 v_ld))] sz)) (va_A [(b_o, (oc12 u_th u_sa b_rf b_ro b_im b_ke u_fd b_tp u_td u_fr u_to u_so u_wo u_fa u_bd u_nc b_nl u_co b_op b_ar u_le b_pi b_pa u_pd u_od b_ws b_hw u_la b_se b_re u_bk u_va u_su u_ce u_ho u_wy u_bt u_ps b_pt u_tg u_sn b_ip u_ic b_ah b_be b_me u_wd b_tr b_ld u_st b_wn u_id)), (b_ro, (arI G 5740 v_ro)), (b_se, (arJ G 13 v_se)), (b_re, (arJ G 400 v_re)), (b_pt, (arI G 200 v_pt)), (b_tr, (arZ G 1536 v_tr)), (b_ld, (arZ G 1536 v_ld))] sz)) 0 0 (va_A [(b_o, (oc12 u_th u_sa b_rf b_ro b_im b_ke u_fd b_tp u_td u_fr u_to u_so u_wo u_fa u_bd u_nc b_nl u_co b_op b_ar u_le b_pi b_pa u_pd u_od b_ws b_hw u_la b_se b_re u_bk u_va u_su u_ce u_ho u_wy u_bt u_ps b_pt u_tg u_sn b_ip u_ic b_ah b_be b_me u_wd b_tr b_ld u_st b_wn u_id)), (b_ro, (arI G 5740 v_ro)), (b_se, (arJ G 13 v_se)), (b_re, (arJ G 400 v_re)), (b_pt, (arI G 200 v_pt)), (b_tr, (arZ G 1536 v_tr)), (b_ld, (arZ G 1536 v_ld))] sz) := by
  refine Met.ofW (cc := cX12_findSoonest) (maxL := 9) (ret := (some .int)) (by decide) rfl ?_
  intro p e s m args below meth c s₁ B hml hv
  obtain ⟨rfl, hsz, hP, hK, hD0, hN, hT⟩ := hv
  have hx := B.exec
  have hb := B.bytes
  have hr := B.returns
  have hts : ∀ w ∈ tblG, w.before _ s = true := fun w h => atoms_spec (ws := (wsG yX12_findSoonest cX12_findSoonest 9 (some .int))) B.pre w (List.mem_cons_of_mem _ h)
  have hown : s.vm.findClass RX12 = some m.cls := findClass_of_methodNamed B.named
  have hlocks := B.notSynchronized
  subst hsz
  have hD := hD0.self (sz := s.heap.size)
  generalize hAe : va_A [(b_o, (oc12 u_th u_sa b_rf b_ro b_im b_ke u_fd b_tp u_td u_fr u_to u_so u_wo u_fa u_bd u_nc b_nl u_co b_op b_ar u_le b_pi b_pa u_pd u_od b_ws b_hw u_la b_se b_re u_bk u_va u_su u_ce u_ho u_wy u_bt u_ps b_pt u_tg u_sn b_ip u_ic b_ah b_be b_me u_wd b_tr b_ld u_st b_wn u_id)), (b_ro, (arI G 5740 v_ro)), (b_se, (arJ G 13 v_se)), (b_re, (arJ G 400 v_re)), (b_pt, (arI G 200 v_pt)), (b_tr, (arZ G 1536 v_tr)), (b_ld, (arZ G 1536 v_ld))] s.heap.size = A at hD hT ⊢
  have hA : ∀ q : Nat, s.heap.size ≤ q → A q := fun q h => by rw [← hAe]; exact Or.inr h
  have hS : va_S A s.heap s.heap [] := va_S.rf
  have hP : va_P G.1 vwCl [(b_o, (oc12 u_th u_sa b_rf b_ro b_im b_ke u_fd b_tp u_td u_fr u_to u_so u_wo u_fa u_bd u_nc b_nl u_co b_op b_ar u_le b_pi b_pa u_pd u_od b_ws b_hw u_la b_se b_re u_bk u_va u_su u_ce u_ho u_wy u_bt u_ps b_pt u_tg u_sn b_ip u_ic b_ah b_be b_me u_wd b_tr b_ld u_st b_wn u_id)), (b_ro, (arI G 5740 v_ro)), (b_se, (arJ G 13 v_se)), (b_re, (arJ G 400 v_re)), (b_pt, (arI G 200 v_pt)), (b_tr, (arZ G 1536 v_tr)), (b_ld, (arZ G 1536 v_ld))] s.heap := hP
  have hl := lv_entry ([.ref b_o, .int p_1, .int p_2, .int p_3]) (n := 9) (Nat.le_of_ble_eq_true rfl)
  rw [lg_entry_eq]
  generalize (lg_sl ([.ref b_o, .int p_1, .int p_2, .int p_3]) ++ List.replicate (9 - (lg_sl ([.ref b_o, .int p_1, .int p_2, .int p_3])).length) Slot.unset).toArray = ls at hl ⊢
  have hl : lv_has ls 9 [(0, .ref b_o), (1, .int p_1), (2, .int p_2), (3, .int p_3)] := hl
  refine lv_iconst (v := 0) hx hb dX12_findSoonest_0 (by decide) ?_
  refine lv_istore (lv' := [(4, .int 0), (0, .ref b_o), (1, .int p_1), (2, .int p_2), (3, .int p_3)]) hx hb dX12_findSoonest_1 hl (by decide) rfl (fun ls hl => ?_)
  refine g5_loop (α := (Int32) × (Nat → Int32) × (Nat → Int32)) (fun (q : (Int32) × (Nat → Int32) × (Nat → Int32)) (ls : Array Slot) (H : Heap) (locs : List Loc) => match q with | (k3_4, k3_tr, k3_ld) => lv_has ls 9 [(4, .int k3_4), (0, .ref b_o), (1, .int p_1), (2, .int p_2), (3, .int p_3)] ∧ va_P G.1 vwCl [(b_o, (oc12 u_th u_sa b_rf b_ro b_im b_ke u_fd b_tp u_td u_fr u_to u_so u_wo u_fa u_bd u_nc b_nl u_co b_op b_ar u_le b_pi b_pa u_pd u_od b_ws b_hw u_la b_se b_re u_bk u_va u_su u_ce u_ho u_wy u_bt u_ps b_pt u_tg u_sn b_ip u_ic b_ah b_be b_me u_wd b_tr b_ld u_st b_wn u_id)), (b_ro, (arI G 5740 v_ro)), (b_se, (arJ G 13 v_se)), (b_re, (arJ G 400 v_re)), (b_pt, (arI G 200 v_pt)), (b_tr, (arZ G 1536 k3_tr)), (b_ld, (arZ G 1536 k3_ld))] H ∧ va_D A [(b_o, (oc12 u_th u_sa b_rf b_ro b_im b_ke u_fd b_tp u_td u_fr u_to u_so u_wo u_fa u_bd u_nc b_nl u_co b_op b_ar u_le b_pi b_pa u_pd u_od b_ws b_hw u_la b_se b_re u_bk u_va u_su u_ce u_ho u_wy u_bt u_ps b_pt u_tg u_sn b_ip u_ic b_ah b_be b_me u_wd b_tr b_ld u_st b_wn u_id)), (b_ro, (arI G 5740 v_ro)), (b_se, (arJ G 13 v_se)), (b_re, (arJ G 400 v_re)), (b_pt, (arI G 200 v_pt)), (b_tr, (arZ G 1536 k3_tr)), (b_ld, (arZ G 1536 k3_ld))] ∧ va_S A s.heap H locs ∧ (0 ≤ k3_4.toInt ∧ k3_4.toInt ≤ 1536)) (fun (q : (Int32) × (Nat → Int32) × (Nat → Int32)) => match q with | (k3_4, k3_tr, k3_ld) => Int.toNat (1536 - k3_4.toInt)) (0, v_tr, v_ld) ⟨lv_sub hl [0, 1, 2, 3, 4] rfl, hP, hD, hS, ⟨by decide, by decide⟩⟩ ?_
  rintro ⟨k3_4, k3_tr, k3_ld⟩ ls H locs ⟨hl, hP, hD, hS, i_1⟩ ih_3_2
  have hl : lv_has ls 9 [(4, .int k3_4), (0, .ref b_o), (1, .int p_1), (2, .int p_2), (3, .int p_3)] := hl
  have i_1 : 0 ≤ k3_4.toInt ∧ k3_4.toInt ≤ 1536 := i_1
  refine g5_rs [(b_o, (oc12 u_th u_sa b_rf b_ro b_im b_ke u_fd b_tp u_td u_fr u_to u_so u_wo u_fa u_bd u_nc b_nl u_co b_op b_ar u_le b_pi b_pa u_pd u_od b_ws b_hw u_la b_se b_re u_bk u_va u_su u_ce u_ho u_wy u_bt u_ps b_pt u_tg u_sn b_ip u_ic b_ah b_be b_me u_wd b_tr b_ld u_st b_wn u_id)), (b_ro, (arI G 5740 v_ro)), (b_se, (arJ G 13 v_se)), (b_re, (arJ G 400 v_re)), (b_pt, (arI G 200 v_pt)), (b_tr, (arZ G 1536 k3_tr)), (b_ld, (arZ G 1536 k3_ld))] hP hD (fun hP hD => ?_)
  refine lv_iload hx hb dX12_findSoonest_3 (lv_at hl 0 rfl) ?_
  refine lv_sipush (v := 1536) hx hb dX12_findSoonest_5 (by decide) ?_
  refine lv_icmp_ge (tgt := 56) hx hb dX12_findSoonest_8 (by decide) (fun c_3 => ?_) (fun c_3 => ?_)
  ·
    have i_3 : k3_4.toInt ≥ 1536 := by have z := g5_ge (a := k3_4.toInt) (b := 1536) (by rfl) (by decide) c_3; omega
    refine lv_iconst (v := (-1)) hx hb dX12_findSoonest_56 (by decide) ?_
    refine lv_istore (lv' := [(4, .int (-1)), (0, .ref b_o), (1, .int p_1), (2, .int p_2), (3, .int p_3)]) hx hb dX12_findSoonest_57 hl (by decide) rfl (fun ls hl => ?_)
    refine lv_iload_n hx hb dX12_findSoonest_59 rfl (lv_at hl 4 rfl) ?_
    refine lv_istore (lv' := [(5, .int p_3), (4, .int (-1)), (0, .ref b_o), (1, .int p_1), (2, .int p_2), (3, .int p_3)]) hx hb dX12_findSoonest_60 hl (by decide) rfl (fun ls hl => ?_)
    refine g5_loop (α := (Int32) × (Int32) × (Int32) × (Int32) × (Int64) × (Int64) × (Int32) × (Int32) × (Int32) × (Int32) × (Int32) × (Int32) × (Int32) × (Nat → Int64) × (Nat → Int64) × (Nat → Int32) × (Nat → Int32) × (Nat → Int32)) (fun (q : (Int32) × (Int32) × (Int32) × (Int32) × (Int64) × (Int64) × (Int32) × (Int32) × (Int32) × (Int32) × (Int32) × (Int32) × (Int32) × (Nat → Int64) × (Nat → Int64) × (Nat → Int32) × (Nat → Int32) × (Nat → Int32)) (ls : Array Slot) (H : Heap) (locs : List Loc) => match q with | (k62_5, k62_4, k62_la, k62_bk, k62_va, k62_su, k62_ce, k62_ho, k62_wy, k62_bt, k62_ps, k62_tg, k62_sn, k62_se, k62_re, k62_pt, k62_tr, k62_ld) => lv_has ls 9 [(4, .int k62_4), (5, .int k62_5), (0, .ref b_o), (1, .int p_1), (2, .int p_2), (3, .int p_3)] ∧ va_P G.1 vwCl [(b_o, (oc12 u_th u_sa b_rf b_ro b_im b_ke u_fd b_tp u_td u_fr u_to u_so u_wo u_fa u_bd u_nc b_nl u_co b_op b_ar u_le b_pi b_pa u_pd u_od b_ws b_hw k62_la b_se b_re k62_bk k62_va k62_su k62_ce k62_ho k62_wy k62_bt k62_ps b_pt k62_tg k62_sn b_ip u_ic b_ah b_be b_me u_wd b_tr b_ld u_st b_wn u_id)), (b_ro, (arI G 5740 v_ro)), (b_se, (arJ G 13 k62_se)), (b_re, (arJ G 400 k62_re)), (b_pt, (arI G 200 k62_pt)), (b_tr, (arZ G 1536 k62_tr)), (b_ld, (arZ G 1536 k62_ld))] H ∧ va_D A [(b_o, (oc12 u_th u_sa b_rf b_ro b_im b_ke u_fd b_tp u_td u_fr u_to u_so u_wo u_fa u_bd u_nc b_nl u_co b_op b_ar u_le b_pi b_pa u_pd u_od b_ws b_hw k62_la b_se b_re k62_bk k62_va k62_su k62_ce k62_ho k62_wy k62_bt k62_ps b_pt k62_tg k62_sn b_ip u_ic b_ah b_be b_me u_wd b_tr b_ld u_st b_wn u_id)), (b_ro, (arI G 5740 v_ro)), (b_se, (arJ G 13 k62_se)), (b_re, (arJ G 400 k62_re)), (b_pt, (arI G 200 k62_pt)), (b_tr, (arZ G 1536 k62_tr)), (b_ld, (arZ G 1536 k62_ld))] ∧ va_S A s.heap H locs ∧ (0 ≤ k62_5.toInt ∧ k62_5.toInt ≤ 24) ∧ ((-1) ≤ k62_4.toInt ∧ k62_4.toInt ≤ 23) ∧ (0 ≤ k62_la.toInt ∧ k62_la.toInt ≤ 4840) ∧ (0 ≤ k62_bk.toInt ∧ k62_bk.toInt ≤ 1) ∧ (0 ≤ k62_ce.toInt ∧ k62_ce.toInt ≤ 63) ∧ (0 ≤ k62_ho.toInt ∧ k62_ho.toInt ≤ 23) ∧ (0 ≤ k62_wy.toInt ∧ k62_wy.toInt ≤ 3) ∧ (0 ≤ k62_bt.toInt ∧ k62_bt.toInt ≤ 1000000) ∧ (0 ≤ k62_ps.toInt ∧ k62_ps.toInt ≤ 200) ∧ (PTI k62_pt)) (fun (q : (Int32) × (Int32) × (Int32) × (Int32) × (Int64) × (Int64) × (Int32) × (Int32) × (Int32) × (Int32) × (Int32) × (Int32) × (Int32) × (Nat → Int64) × (Nat → Int64) × (Nat → Int32) × (Nat → Int32) × (Nat → Int32)) => match q with | (k62_5, k62_4, k62_la, k62_bk, k62_va, k62_su, k62_ce, k62_ho, k62_wy, k62_bt, k62_ps, k62_tg, k62_sn, k62_se, k62_re, k62_pt, k62_tr, k62_ld) => Int.toNat (24 - k62_5.toInt)) (p_3, (-1), u_la, u_bk, u_va, u_su, u_ce, u_ho, u_wy, u_bt, u_ps, u_tg, u_sn, v_se, v_re, v_pt, k3_tr, k3_ld) ⟨lv_sub hl [1, 0, 2, 3, 4, 5] rfl, hP, hD, hS, ⟨by omega, by omega⟩, ⟨by decide, by decide⟩, h_u_la, h_u_bk, h_u_ce, h_u_ho, h_u_wy, h_u_bt, h_u_ps, r_pt⟩ ?_
    rintro ⟨k62_5, k62_4, k62_la, k62_bk, k62_va, k62_su, k62_ce, k62_ho, k62_wy, k62_bt, k62_ps, k62_tg, k62_sn, k62_se, k62_re, k62_pt, k62_tr, k62_ld⟩ ls H locs ⟨hl, hP, hD, hS, i_4, i_5, i_6, i_7, i_8, i_9, i_10, i_11, i_12, i_13⟩ ih_62_14
    have hl : lv_has ls 9 [(4, .int k62_4), (5, .int k62_5), (0, .ref b_o), (1, .int p_1), (2, .int p_2), (3, .int p_3)] := hl
    have i_4 : 0 ≤ k62_5.toInt ∧ k62_5.toInt ≤ 24 := i_4
    have i_5 : (-1) ≤ k62_4.toInt ∧ k62_4.toInt ≤ 23 := i_5
    have i_6 : 0 ≤ k62_la.toInt ∧ k62_la.toInt ≤ 4840 := i_6
    have i_7 : 0 ≤ k62_bk.toInt ∧ k62_bk.toInt ≤ 1 := i_7
    have i_8 : 0 ≤ k62_ce.toInt ∧ k62_ce.toInt ≤ 63 := i_8
    have i_9 : 0 ≤ k62_ho.toInt ∧ k62_ho.toInt ≤ 23 := i_9
    have i_10 : 0 ≤ k62_wy.toInt ∧ k62_wy.toInt ≤ 3 := i_10
    have i_11 : 0 ≤ k62_bt.toInt ∧ k62_bt.toInt ≤ 1000000 := i_11
    have i_12 : 0 ≤ k62_ps.toInt ∧ k62_ps.toInt ≤ 200 := i_12
    have i_13 : PTI k62_pt := i_13
    refine g5_rs [(b_o, (oc12 u_th u_sa b_rf b_ro b_im b_ke u_fd b_tp u_td u_fr u_to u_so u_wo u_fa u_bd u_nc b_nl u_co b_op b_ar u_le b_pi b_pa u_pd u_od b_ws b_hw k62_la b_se b_re k62_bk k62_va k62_su k62_ce k62_ho k62_wy k62_bt k62_ps b_pt k62_tg k62_sn b_ip u_ic b_ah b_be b_me u_wd b_tr b_ld u_st b_wn u_id)), (b_ro, (arI G 5740 v_ro)), (b_se, (arJ G 13 k62_se)), (b_re, (arJ G 400 k62_re)), (b_pt, (arI G 200 k62_pt)), (b_tr, (arZ G 1536 k62_tr)), (b_ld, (arZ G 1536 k62_ld))] hP hD (fun hP hD => ?_)
    refine lv_iload hx hb dX12_findSoonest_62 (lv_at hl 1 rfl) ?_
    refine lv_bipush (v := 24) hx hb dX12_findSoonest_64 (by decide) ?_
    refine lv_icmp_ge (tgt := 228) hx hb dX12_findSoonest_66 (by decide) (fun c_15 => ?_) (fun c_15 => ?_)
    ·
      have i_15 : k62_5.toInt ≥ 24 := by have z := g5_ge (a := k62_5.toInt) (b := 24) (by rfl) (by decide) c_15; omega
      refine lv_iload hx hb dX12_findSoonest_228 (lv_at hl 0 rfl) ?_
      refine lv_iconst (v := 1) hx hb dX12_findSoonest_230 (by decide) ?_
      refine lv_isub hx hb dX12_findSoonest_231 ?_
      have t_16 : (k62_4 - 1).toInt = k62_4.toInt - 1 := g5_isub (a := k62_4.toInt) (b := 1) (by rfl) (by decide) (by omega) (by omega)
      refine lv_istore (lv' := [(5, .int (k62_4 - 1)), (4, .int k62_4), (0, .ref b_o), (1, .int p_1), (2, .int p_2), (3, .int p_3)]) hx hb dX12_findSoonest_232 hl (by decide) rfl (fun ls hl => ?_)
      refine g5_loop (α := (Int32) × (Nat → Int32)) (fun (q : (Int32) × (Nat → Int32)) (ls : Array Slot) (H : Heap) (locs : List Loc) => match q with | (k234_5, k234_ld) => lv_has ls 9 [(5, .int k234_5), (4, .int k62_4), (0, .ref b_o), (1, .int p_1), (2, .int p_2), (3, .int p_3)] ∧ va_P G.1 vwCl [(b_o, (oc12 u_th u_sa b_rf b_ro b_im b_ke u_fd b_tp u_td u_fr u_to u_so u_wo u_fa u_bd u_nc b_nl u_co b_op b_ar u_le b_pi b_pa u_pd u_od b_ws b_hw k62_la b_se b_re k62_bk k62_va k62_su k62_ce k62_ho k62_wy k62_bt k62_ps b_pt k62_tg k62_sn b_ip u_ic b_ah b_be b_me u_wd b_tr b_ld u_st b_wn u_id)), (b_ro, (arI G 5740 v_ro)), (b_se, (arJ G 13 k62_se)), (b_re, (arJ G 400 k62_re)), (b_pt, (arI G 200 k62_pt)), (b_tr, (arZ G 1536 k62_tr)), (b_ld, (arZ G 1536 k234_ld))] H ∧ va_D A [(b_o, (oc12 u_th u_sa b_rf b_ro b_im b_ke u_fd b_tp u_td u_fr u_to u_so u_wo u_fa u_bd u_nc b_nl u_co b_op b_ar u_le b_pi b_pa u_pd u_od b_ws b_hw k62_la b_se b_re k62_bk k62_va k62_su k62_ce k62_ho k62_wy k62_bt k62_ps b_pt k62_tg k62_sn b_ip u_ic b_ah b_be b_me u_wd b_tr b_ld u_st b_wn u_id)), (b_ro, (arI G 5740 v_ro)), (b_se, (arJ G 13 k62_se)), (b_re, (arJ G 400 k62_re)), (b_pt, (arI G 200 k62_pt)), (b_tr, (arZ G 1536 k62_tr)), (b_ld, (arZ G 1536 k234_ld))] ∧ va_S A s.heap H locs ∧ ((-2) ≤ k234_5.toInt ∧ k234_5.toInt ≤ 22)) (fun (q : (Int32) × (Nat → Int32)) => match q with | (k234_5, k234_ld) => Int.toNat (k234_5.toInt + 1)) ((k62_4 - 1), k62_ld) ⟨lv_sub hl [0, 1, 2, 3, 4, 5] rfl, hP, hD, hS, ⟨by omega, by omega⟩⟩ ?_
      rintro ⟨k234_5, k234_ld⟩ ls H locs ⟨hl, hP, hD, hS, i_17⟩ ih_234_18
      have hl : lv_has ls 9 [(5, .int k234_5), (4, .int k62_4), (0, .ref b_o), (1, .int p_1), (2, .int p_2), (3, .int p_3)] := hl
      have i_17 : (-2) ≤ k234_5.toInt ∧ k234_5.toInt ≤ 22 := i_17
      refine g5_rs [(b_o, (oc12 u_th u_sa b_rf b_ro b_im b_ke u_fd b_tp u_td u_fr u_to u_so u_wo u_fa u_bd u_nc b_nl u_co b_op b_ar u_le b_pi b_pa u_pd u_od b_ws b_hw k62_la b_se b_re k62_bk k62_va k62_su k62_ce k62_ho k62_wy k62_bt k62_ps b_pt k62_tg k62_sn b_ip u_ic b_ah b_be b_me u_wd b_tr b_ld u_st b_wn u_id)), (b_ro, (arI G 5740 v_ro)), (b_se, (arJ G 13 k62_se)), (b_re, (arJ G 400 k62_re)), (b_pt, (arI G 200 k62_pt)), (b_tr, (arZ G 1536 k62_tr)), (b_ld, (arZ G 1536 k234_ld))] hP hD (fun hP hD => ?_)
      refine lv_iload hx hb dX12_findSoonest_234 (lv_at hl 0 rfl) ?_
      refine lv_iload_n hx hb dX12_findSoonest_236 rfl (lv_at hl 5 rfl) ?_
      refine lv_icmp_lt (tgt := 380) hx hb dX12_findSoonest_237 (by decide) (fun c_19 => ?_) (fun c_19 => ?_)
      ·
        have i_19 : k234_5.toInt < p_3.toInt := by have z := g5_lt (a := k234_5.toInt) (b := p_3.toInt) (by rfl) (by rfl) c_19; omega
        refine lv_iload hx hb dX12_findSoonest_380 (lv_at hl 1 rfl) ?_
        exact W.iret (v := k62_4) hx hb hr (fun t ht hW => ⟨⟨k62_4, [(b_o, (oc12 u_th u_sa b_rf b_ro b_im b_ke u_fd b_tp u_td u_fr u_to u_so u_wo u_fa u_bd u_nc b_nl u_co b_op b_ar u_le b_pi b_pa u_pd u_od b_ws b_hw k62_la b_se b_re k62_bk k62_va k62_su k62_ce k62_ho k62_wy k62_bt k62_ps b_pt k62_tg k62_sn b_ip u_ic b_ah b_be b_me u_wd b_tr b_ld u_st b_wn u_id)), (b_ro, (arI G 5740 v_ro)), (b_se, (arJ G 13 k62_se)), (b_re, (arJ G 400 k62_re)), (b_pt, (arI G 200 k62_pt)), (b_tr, (arZ G 1536 k62_tr)), (b_ld, (arZ G 1536 k234_ld))], rfl, ⟨k62_4, k62_la, k62_bk, k62_va, k62_su, k62_ce, k62_ho, k62_wy, k62_bt, k62_ps, k62_tg, k62_sn, k62_se, k62_re, k62_pt, k62_tr, k234_ld, i_5, i_6, i_7, i_8, i_9, i_10, i_11, i_12, i_13, rfl, rfl⟩, by rw [ht]; exact hP.sub [0, 1, 2, 3, 4, 5, 6] rfl, hD.sub [0, 1, 2, 3, 4, 5, 6] (by decide) rfl⟩, hS.F ht⟩) hS.2.2 dX12_findSoonest_382
      ·
        have i_19 : k234_5.toInt ≥ p_3.toInt := by have z := g5_ltN (a := k234_5.toInt) (b := p_3.toInt) (by rfl) (by rfl) c_19; omega
        refine lv_iconst (v := 0) hx hb dX12_findSoonest_240 (by decide) ?_
        refine lv_istore (lv' := [(6, .int 0), (5, .int k234_5), (4, .int k62_4), (0, .ref b_o), (1, .int p_1), (2, .int p_2), (3, .int p_3)]) hx hb dX12_findSoonest_241 hl (by decide) rfl (fun ls hl => ?_)
        refine g5_loop (α := (Int32) × (Nat → Int32)) (fun (q : (Int32) × (Nat → Int32)) (ls : Array Slot) (H : Heap) (locs : List Loc) => match q with | (k243_6, k243_ld) => lv_has ls 9 [(6, .int k243_6), (5, .int k234_5), (4, .int k62_4), (0, .ref b_o), (1, .int p_1), (2, .int p_2), (3, .int p_3)] ∧ va_P G.1 vwCl [(b_o, (oc12 u_th u_sa b_rf b_ro b_im b_ke u_fd b_tp u_td u_fr u_to u_so u_wo u_fa u_bd u_nc b_nl u_co b_op b_ar u_le b_pi b_pa u_pd u_od b_ws b_hw k62_la b_se b_re k62_bk k62_va k62_su k62_ce k62_ho k62_wy k62_bt k62_ps b_pt k62_tg k62_sn b_ip u_ic b_ah b_be b_me u_wd b_tr b_ld u_st b_wn u_id)), (b_ro, (arI G 5740 v_ro)), (b_se, (arJ G 13 k62_se)), (b_re, (arJ G 400 k62_re)), (b_pt, (arI G 200 k62_pt)), (b_tr, (arZ G 1536 k62_tr)), (b_ld, (arZ G 1536 k243_ld))] H ∧ va_D A [(b_o, (oc12 u_th u_sa b_rf b_ro b_im b_ke u_fd b_tp u_td u_fr u_to u_so u_wo u_fa u_bd u_nc b_nl u_co b_op b_ar u_le b_pi b_pa u_pd u_od b_ws b_hw k62_la b_se b_re k62_bk k62_va k62_su k62_ce k62_ho k62_wy k62_bt k62_ps b_pt k62_tg k62_sn b_ip u_ic b_ah b_be b_me u_wd b_tr b_ld u_st b_wn u_id)), (b_ro, (arI G 5740 v_ro)), (b_se, (arJ G 13 k62_se)), (b_re, (arJ G 400 k62_re)), (b_pt, (arI G 200 k62_pt)), (b_tr, (arZ G 1536 k62_tr)), (b_ld, (arZ G 1536 k243_ld))] ∧ va_S A s.heap H locs ∧ (0 ≤ k243_6.toInt ∧ k243_6.toInt ≤ 64)) (fun (q : (Int32) × (Nat → Int32)) => match q with | (k243_6, k243_ld) => Int.toNat (64 - k243_6.toInt)) (0, k234_ld) ⟨lv_sub hl [0, 1, 2, 3, 4, 5, 6] rfl, hP, hD, hS, ⟨by decide, by decide⟩⟩ ?_
        rintro ⟨k243_6, k243_ld⟩ ls H locs ⟨hl, hP, hD, hS, i_20⟩ ih_243_21
        have hl : lv_has ls 9 [(6, .int k243_6), (5, .int k234_5), (4, .int k62_4), (0, .ref b_o), (1, .int p_1), (2, .int p_2), (3, .int p_3)] := hl
        have i_20 : 0 ≤ k243_6.toInt ∧ k243_6.toInt ≤ 64 := i_20
        refine g5_rs [(b_o, (oc12 u_th u_sa b_rf b_ro b_im b_ke u_fd b_tp u_td u_fr u_to u_so u_wo u_fa u_bd u_nc b_nl u_co b_op b_ar u_le b_pi b_pa u_pd u_od b_ws b_hw k62_la b_se b_re k62_bk k62_va k62_su k62_ce k62_ho k62_wy k62_bt k62_ps b_pt k62_tg k62_sn b_ip u_ic b_ah b_be b_me u_wd b_tr b_ld u_st b_wn u_id)), (b_ro, (arI G 5740 v_ro)), (b_se, (arJ G 13 k62_se)), (b_re, (arJ G 400 k62_re)), (b_pt, (arI G 200 k62_pt)), (b_tr, (arZ G 1536 k62_tr)), (b_ld, (arZ G 1536 k243_ld))] hP hD (fun hP hD => ?_)
        refine lv_iload hx hb dX12_findSoonest_243 (lv_at hl 0 rfl) ?_
        refine lv_bipush (v := 64) hx hb dX12_findSoonest_245 (by decide) ?_
        refine lv_icmp_ge (tgt := 374) hx hb dX12_findSoonest_247 (by decide) (fun c_22 => ?_) (fun c_22 => ?_)
        ·
          have i_22 : k243_6.toInt ≥ 64 := by have z := g5_ge (a := k243_6.toInt) (b := 64) (by rfl) (by decide) c_22; omega
          obtain ⟨y23, hy_23, t_23⟩ := g_incN k234_5 (-1) (by decide) (by omega) (by omega)
          have t_23 : y23.toInt = k234_5.toInt + (-1) := t_23
          refine lv_iinc (v := y23) (lv' := [(5, .int y23), (6, .int k243_6), (4, .int k62_4), (0, .ref b_o), (1, .int p_1), (2, .int p_2), (3, .int p_3)]) hx hb dX12_findSoonest_374 hl (k := 1) rfl hy_23 (by decide) rfl (fun ls hl => ?_)
          refine lv_goto (tgt := 234) hx hb dX12_findSoonest_377 (by decide) ?_
          exact ih_234_18 (y23, k243_ld) ls H locs (show Int.toNat (y23.toInt + 1) < Int.toNat (k234_5.toInt + 1) from g_dn (show y23.toInt < k234_5.toInt by omega) (show 0 ≤ k234_5.toInt by omega)) ⟨lv_sub hl [0, 2, 3, 4, 5, 6] rfl, hP, hD, hS, ⟨by omega, by omega⟩⟩
        ·
          have i_22 : k243_6.toInt < 64 := by have z := g5_geN (a := k243_6.toInt) (b := 64) (by rfl) (by decide) c_22; omega
          refine lv_iconst (v := 0) hx hb dX12_findSoonest_250 (by decide) ?_
          refine lv_istore (lv' := [(7, .int 0), (6, .int k243_6), (5, .int k234_5), (4, .int k62_4), (0, .ref b_o), (1, .int p_1), (2, .int p_2), (3, .int p_3)]) hx hb dX12_findSoonest_251 hl (by decide) rfl (fun ls hl => ?_)
          refine g5_loop (α := (Int32) × (Nat → Int32)) (fun (q : (Int32) × (Nat → Int32)) (ls : Array Slot) (H : Heap) (locs : List Loc) => match q with | (k253_7, k253_ld) => lv_has ls 9 [(7, .int k253_7), (6, .int k243_6), (5, .int k234_5), (4, .int k62_4), (0, .ref b_o), (1, .int p_1), (2, .int p_2), (3, .int p_3)] ∧ va_P G.1 vwCl [(b_o, (oc12 u_th u_sa b_rf b_ro b_im b_ke u_fd b_tp u_td u_fr u_to u_so u_wo u_fa u_bd u_nc b_nl u_co b_op b_ar u_le b_pi b_pa u_pd u_od b_ws b_hw k62_la b_se b_re k62_bk k62_va k62_su k62_ce k62_ho k62_wy k62_bt k62_ps b_pt k62_tg k62_sn b_ip u_ic b_ah b_be b_me u_wd b_tr b_ld u_st b_wn u_id)), (b_ro, (arI G 5740 v_ro)), (b_se, (arJ G 13 k62_se)), (b_re, (arJ G 400 k62_re)), (b_pt, (arI G 200 k62_pt)), (b_tr, (arZ G 1536 k62_tr)), (b_ld, (arZ G 1536 k253_ld))] H ∧ va_D A [(b_o, (oc12 u_th u_sa b_rf b_ro b_im b_ke u_fd b_tp u_td u_fr u_to u_so u_wo u_fa u_bd u_nc b_nl u_co b_op b_ar u_le b_pi b_pa u_pd u_od b_ws b_hw k62_la b_se b_re k62_bk k62_va k62_su k62_ce k62_ho k62_wy k62_bt k62_ps b_pt k62_tg k62_sn b_ip u_ic b_ah b_be b_me u_wd b_tr b_ld u_st b_wn u_id)), (b_ro, (arI G 5740 v_ro)), (b_se, (arJ G 13 k62_se)), (b_re, (arJ G 400 k62_re)), (b_pt, (arI G 200 k62_pt)), (b_tr, (arZ G 1536 k62_tr)), (b_ld, (arZ G 1536 k253_ld))] ∧ va_S A s.heap H locs ∧ (0 ≤ k253_7.toInt ∧ k253_7.toInt ≤ 5)) (fun (q : (Int32) × (Nat → Int32)) => match q with | (k253_7, k253_ld) => Int.toNat (5 - k253_7.toInt)) (0, k243_ld) ⟨lv_sub hl [0, 1, 2, 3, 4, 5, 6, 7] rfl, hP, hD, hS, ⟨by decide, by decide⟩⟩ ?_
          rintro ⟨k253_7, k253_ld⟩ ls H locs ⟨hl, hP, hD, hS, i_24⟩ ih_253_25
          have hl : lv_has ls 9 [(7, .int k253_7), (6, .int k243_6), (5, .int k234_5), (4, .int k62_4), (0, .ref b_o), (1, .int p_1), (2, .int p_2), (3, .int p_3)] := hl
          have i_24 : 0 ≤ k253_7.toInt ∧ k253_7.toInt ≤ 5 := i_24
          refine g5_rs [(b_o, (oc12 u_th u_sa b_rf b_ro b_im b_ke u_fd b_tp u_td u_fr u_to u_so u_wo u_fa u_bd u_nc b_nl u_co b_op b_ar u_le b_pi b_pa u_pd u_od b_ws b_hw k62_la b_se b_re k62_bk k62_va k62_su k62_ce k62_ho k62_wy k62_bt k62_ps b_pt k62_tg k62_sn b_ip u_ic b_ah b_be b_me u_wd b_tr b_ld u_st b_wn u_id)), (b_ro, (arI G 5740 v_ro)), (b_se, (arJ G 13 k62_se)), (b_re, (arJ G 400 k62_re)), (b_pt, (arI G 200 k62_pt)), (b_tr, (arZ G 1536 k62_tr)), (b_ld, (arZ G 1536 k253_ld))] hP hD (fun hP hD => ?_)
          refine lv_iload hx hb dX12_findSoonest_253 (lv_at hl 0 rfl) ?_
          refine lv_iconst (v := 5) hx hb dX12_findSoonest_255 (by decide) ?_
          refine lv_icmp_ge (tgt := 368) hx hb dX12_findSoonest_256 (by decide) (fun c_26 => ?_) (fun c_26 => ?_)
          ·
            have i_26 : k253_7.toInt ≥ 5 := by have z := g5_ge (a := k253_7.toInt) (b := 5) (by rfl) (by decide) c_26; omega
            refine lv_iinc (v := (k243_6 + 1)) (lv' := [(6, .int (k243_6 + 1)), (7, .int k253_7), (5, .int k234_5), (4, .int k62_4), (0, .ref b_o), (1, .int p_1), (2, .int p_2), (3, .int p_3)]) hx hb dX12_findSoonest_368 hl (k := 1) rfl rfl (by decide) rfl (fun ls hl => ?_)
            have t_27 : (k243_6 + 1).toInt = k243_6.toInt + 1 := g5_iadd (a := k243_6.toInt) (b := 1) rfl (by decide) (by omega) (by omega)
            refine lv_goto (tgt := 243) hx hb dX12_findSoonest_371 (by decide) ?_
            exact ih_243_21 ((k243_6 + 1), k253_ld) ls H locs (show Int.toNat (64 - (k243_6 + 1).toInt) < Int.toNat (64 - k243_6.toInt) from g_up (show k243_6.toInt < (k243_6 + 1).toInt by omega) (show k243_6.toInt < 64 by omega)) ⟨lv_sub hl [0, 2, 3, 4, 5, 6, 7] rfl, hP, hD, hS, ⟨by omega, by omega⟩⟩
          ·
            have i_26 : k253_7.toInt < 5 := by have z := g5_geN (a := k253_7.toInt) (b := 5) (by rfl) (by decide) c_26; omega
            refine lv_iload hx hb dX12_findSoonest_259 (lv_at hl 0 rfl) ?_
            refine lv_iconst (v := 4) hx hb dX12_findSoonest_261 (by decide) ?_
            refine lv_icmp_ne (tgt := 270) hx hb dX12_findSoonest_262 (by decide) (fun c_28 => ?_) (fun c_28 => ?_)
            ·
              have n_28 : gNe (k253_7.toInt) (4) := by have z := g5_ne (a := k253_7.toInt) (b := 4) (by rfl) (by decide) c_28; unfold gNe; omega
              have i_28 : k253_7.toInt ≤ 3 := by have z := g5_ne (a := k253_7.toInt) (b := 4) (by rfl) (by decide) c_28; omega
              refine lv_iload hx hb dX12_findSoonest_270 (lv_at hl 1 rfl) ?_
              refine lv_iload hx hb dX12_findSoonest_272 (lv_at hl 0 rfl) ?_
              obtain ⟨hPc, hDc, hFc⟩ := g5_sub3 (wc := []) hP hD hS hA [] (by decide) rfl
              refine va_calli (va_runS (As := [.int k243_6, .int k253_7]) (rest := []) ⟨hx, hb, hml, hown, hts⟩ (n_beside l G H.size k243_6 k253_7 ⟨by omega, by omega⟩) (va_cwS 2 hts gS_X12_374 rfl rfl rfl hs_X12_beside ⟨Nat.le_of_ble_eq_true rfl, Nat.le_of_ble_eq_true rfl⟩) (g5_preS hPc hK hDc hN hT hS hFc) rfl rfl hl.1 rfl (lv_room (Nat.le_of_ble_eq_true rfl)) dX12_findSoonest_274 ⟨Nat.le_of_ble_eq_true rfl, Nat.le_of_ble_eq_true rfl⟩) hS (fun q _ h => hFc q h) hFc (fun r u t H1 locs ht hvm hw hB hz1 hk1 hS => ?_)
              obtain ⟨hP1, hD1⟩ := hB
              rw [ht] at hP1
              obtain ⟨z30, i_29, y31, rfl⟩ := hw
              have i_29 : -1 ≤ z30.toInt ∧ z30.toInt ≤ 63 := i_29
              have hP := g5_same hP hk1
              generalize H1 = H at hP hS ⊢
              refine g5_ti (v := z30) y31 ?_
              refine lv_istore (lv' := [(8, .int z30), (7, .int k253_7), (6, .int k243_6), (5, .int k234_5), (4, .int k62_4), (0, .ref b_o), (1, .int p_1), (2, .int p_2), (3, .int p_3)]) hx hb dX12_findSoonest_277 hl (by decide) rfl (fun ls hl => ?_)
              refine lv_aload_n hx hb dX12_findSoonest_279 rfl (lv_at hl 5 rfl) ?_
              refine va_get (D := G.1) (ci := 12) (v := .ref b_ld) (C := RX12) (T := TX12) (N := 52) hx hb hts inG_X12 hown hK hP 0 rfl rfl 48 (by decide) (hts _ fl_X12_101) (fun _ h9 => h9) rfl dX12_findSoonest_280 ?_
              refine lv_bipush (v := 64) hx hb dX12_findSoonest_283 (by decide) ?_
              refine lv_iload hx hb dX12_findSoonest_285 (lv_at hl 3 rfl) ?_
              refine lv_imul hx hb dX12_findSoonest_287 ?_
              have t_32 : (64 * k234_5).toInt = 64 * k234_5.toInt := g5_imul (a := 64) (b := k234_5.toInt) (by decide) (by rfl) (by omega) (by omega)
              refine lv_iload hx hb dX12_findSoonest_288 (lv_at hl 2 rfl) ?_
              refine lv_iadd hx hb dX12_findSoonest_290 ?_
              have t_33 : ((64 * k234_5) + k243_6).toInt = (64 * k234_5).toInt + k243_6.toInt := g5_iadd (a := (64 * k234_5).toInt) (b := k243_6.toInt) (by rfl) (by rfl) (by omega) (by omega)
              refine lv_aload_n hx hb dX12_findSoonest_291 rfl (lv_at hl 5 rfl) ?_
              refine va_get (D := G.1) (ci := 12) (v := .ref b_ld) (C := RX12) (T := TX12) (N := 52) hx hb hts inG_X12 hown hK hP 0 rfl rfl 48 (by decide) (hts _ fl_X12_101) (fun _ h9 => h9) rfl dX12_findSoonest_292 ?_
              refine lv_bipush (v := 64) hx hb dX12_findSoonest_295 (by decide) ?_
              refine lv_iload hx hb dX12_findSoonest_297 (lv_at hl 3 rfl) ?_
              refine lv_imul hx hb dX12_findSoonest_299 ?_
              have t_34 : (64 * k234_5).toInt = 64 * k234_5.toInt := g5_imul (a := 64) (b := k234_5.toInt) (by decide) (by rfl) (by omega) (by omega)
              refine lv_iload hx hb dX12_findSoonest_300 (lv_at hl 2 rfl) ?_
              refine lv_iadd hx hb dX12_findSoonest_302 ?_
              have t_35 : ((64 * k234_5) + k243_6).toInt = (64 * k234_5).toInt + k243_6.toInt := g5_iadd (a := (64 * k234_5).toInt) (b := k243_6.toInt) (by rfl) (by rfl) (by omega) (by omega)
              refine va_zald hx hb hK hP 6 2 rfl rfl (i := ((64 * k234_5) + k243_6)) (vp_in_iff.mpr ⟨by omega, by omega⟩) dX12_findSoonest_303 ?_
              refine lv_if_ne (tgt := 356) hx hb dX12_findSoonest_304 (by decide) (fun c_36 => ?_) (fun c_36 => ?_)
              ·
                have n_36 : gNe ((k253_ld ((64 * k234_5) + k243_6).toNatClampNeg).toInt) (0) := by have z := g5_ne (a := (k253_ld ((64 * k234_5) + k243_6).toNatClampNeg).toInt) (b := 0) (by rfl) (by decide) c_36; unfold gNe; omega
                refine lv_iconst (v := 1) hx hb dX12_findSoonest_356 (by decide) ?_
                refine lv_goto (tgt := 361) hx hb dX12_findSoonest_357 (by decide) ?_
                refine va_zast hx hb hK hP hD hS 6 2 rfl rfl (i := ((64 * k234_5) + k243_6)) (x := 1) (vp_in_iff.mpr ⟨by omega, by omega⟩) dX12_findSoonest_361 (fun H locs hP hD hS => ?_)
                refine g5_rs [(b_o, (oc12 u_th u_sa b_rf b_ro b_im b_ke u_fd b_tp u_td u_fr u_to u_so u_wo u_fa u_bd u_nc b_nl u_co b_op b_ar u_le b_pi b_pa u_pd u_od b_ws b_hw k62_la b_se b_re k62_bk k62_va k62_su k62_ce k62_ho k62_wy k62_bt k62_ps b_pt k62_tg k62_sn b_ip u_ic b_ah b_be b_me u_wd b_tr b_ld u_st b_wn u_id)), (b_ro, (arI G 5740 v_ro)), (b_se, (arJ G 13 k62_se)), (b_re, (arJ G 400 k62_re)), (b_pt, (arI G 200 k62_pt)), (b_tr, (arZ G 1536 k62_tr)), (b_ld, (arZ G 1536 (upd k253_ld ((64 * k234_5) + k243_6).toNatClampNeg 1)))] hP hD (fun hP hD => ?_)
                refine lv_iinc (v := (k253_7 + 1)) (lv' := [(7, .int (k253_7 + 1)), (8, .int z30), (6, .int k243_6), (5, .int k234_5), (4, .int k62_4), (0, .ref b_o), (1, .int p_1), (2, .int p_2), (3, .int p_3)]) hx hb dX12_findSoonest_362 hl (k := 1) rfl rfl (by decide) rfl (fun ls hl => ?_)
                have t_37 : (k253_7 + 1).toInt = k253_7.toInt + 1 := g5_iadd (a := k253_7.toInt) (b := 1) rfl (by decide) (by omega) (by omega)
                refine lv_goto (tgt := 253) hx hb dX12_findSoonest_365 (by decide) ?_
                exact ih_253_25 ((k253_7 + 1), (upd k253_ld ((64 * k234_5) + k243_6).toNatClampNeg 1)) ls H locs (show Int.toNat (5 - (k253_7 + 1).toInt) < Int.toNat (5 - k253_7.toInt) from g_up (show k253_7.toInt < (k253_7 + 1).toInt by omega) (show k253_7.toInt < 5 by omega)) ⟨lv_sub hl [0, 2, 3, 4, 5, 6, 7, 8] rfl, hP, hD, hS, ⟨by omega, by omega⟩⟩
              ·
                have i_36 : (k253_ld ((64 * k234_5) + k243_6).toNatClampNeg).toInt = 0 := by have z := g5_neN (a := (k253_ld ((64 * k234_5) + k243_6).toNatClampNeg).toInt) (b := 0) (by rfl) (by decide) c_36; omega
                refine lv_aload_n hx hb dX12_findSoonest_307 rfl (lv_at hl 5 rfl) ?_
                refine va_get (D := G.1) (ci := 12) (v := .ref b_tr) (C := RX12) (T := TX12) (N := 52) hx hb hts inG_X12 hown hK hP 0 rfl rfl 47 (by decide) (hts _ fl_X12_98) (fun _ h9 => h9) rfl dX12_findSoonest_308 ?_
                refine lv_bipush (v := 64) hx hb dX12_findSoonest_311 (by decide) ?_
                refine lv_iload hx hb dX12_findSoonest_313 (lv_at hl 3 rfl) ?_
                refine lv_imul hx hb dX12_findSoonest_315 ?_
                have t_38 : (64 * k234_5).toInt = 64 * k234_5.toInt := g5_imul (a := 64) (b := k234_5.toInt) (by decide) (by rfl) (by omega) (by omega)
                refine lv_iload hx hb dX12_findSoonest_316 (lv_at hl 2 rfl) ?_
                refine lv_iadd hx hb dX12_findSoonest_318 ?_
                have t_39 : ((64 * k234_5) + k243_6).toInt = (64 * k234_5).toInt + k243_6.toInt := g5_iadd (a := (64 * k234_5).toInt) (b := k243_6.toInt) (by rfl) (by rfl) (by omega) (by omega)
                refine va_zald hx hb hK hP 5 2 rfl rfl (i := ((64 * k234_5) + k243_6)) (vp_in_iff.mpr ⟨by omega, by omega⟩) dX12_findSoonest_319 ?_
                refine lv_if_eq (tgt := 360) hx hb dX12_findSoonest_320 (by decide) (fun c_40 => ?_) (fun c_40 => ?_)
                ·
                  have i_40 : (k62_tr ((64 * k234_5) + k243_6).toNatClampNeg).toInt = 0 := by have z := g5_eq (a := (k62_tr ((64 * k234_5) + k243_6).toNatClampNeg).toInt) (b := 0) (by rfl) (by decide) c_40; omega
                  refine lv_iconst (v := 0) hx hb dX12_findSoonest_360 (by decide) ?_
                  refine va_zast hx hb hK hP hD hS 6 2 rfl rfl (i := ((64 * k234_5) + k243_6)) (x := 0) (vp_in_iff.mpr ⟨by omega, by omega⟩) dX12_findSoonest_361 (fun H locs hP hD hS => ?_)
                  refine g5_rs [(b_o, (oc12 u_th u_sa b_rf b_ro b_im b_ke u_fd b_tp u_td u_fr u_to u_so u_wo u_fa u_bd u_nc b_nl u_co b_op b_ar u_le b_pi b_pa u_pd u_od b_ws b_hw k62_la b_se b_re k62_bk k62_va k62_su k62_ce k62_ho k62_wy k62_bt k62_ps b_pt k62_tg k62_sn b_ip u_ic b_ah b_be b_me u_wd b_tr b_ld u_st b_wn u_id)), (b_ro, (arI G 5740 v_ro)), (b_se, (arJ G 13 k62_se)), (b_re, (arJ G 400 k62_re)), (b_pt, (arI G 200 k62_pt)), (b_tr, (arZ G 1536 k62_tr)), (b_ld, (arZ G 1536 (upd k253_ld ((64 * k234_5) + k243_6).toNatClampNeg 0)))] hP hD (fun hP hD => ?_)
                  refine lv_iinc (v := (k253_7 + 1)) (lv' := [(7, .int (k253_7 + 1)), (8, .int z30), (6, .int k243_6), (5, .int k234_5), (4, .int k62_4), (0, .ref b_o), (1, .int p_1), (2, .int p_2), (3, .int p_3)]) hx hb dX12_findSoonest_362 hl (k := 1) rfl rfl (by decide) rfl (fun ls hl => ?_)
                  have t_41 : (k253_7 + 1).toInt = k253_7.toInt + 1 := g5_iadd (a := k253_7.toInt) (b := 1) rfl (by decide) (by omega) (by omega)
                  refine lv_goto (tgt := 253) hx hb dX12_findSoonest_365 (by decide) ?_
                  exact ih_253_25 ((k253_7 + 1), (upd k253_ld ((64 * k234_5) + k243_6).toNatClampNeg 0)) ls H locs (show Int.toNat (5 - (k253_7 + 1).toInt) < Int.toNat (5 - k253_7.toInt) from g_up (show k253_7.toInt < (k253_7 + 1).toInt by omega) (show k253_7.toInt < 5 by omega)) ⟨lv_sub hl [0, 2, 3, 4, 5, 6, 7, 8] rfl, hP, hD, hS, ⟨by omega, by omega⟩⟩
                ·
                  have n_40 : gNe ((k62_tr ((64 * k234_5) + k243_6).toNatClampNeg).toInt) (0) := by have z := g5_eqN (a := (k62_tr ((64 * k234_5) + k243_6).toNatClampNeg).toInt) (b := 0) (by rfl) (by decide) c_40; unfold gNe; omega
                  refine lv_iload hx hb dX12_findSoonest_323 (lv_at hl 0 rfl) ?_
                  refine lv_iconst (v := (-1)) hx hb dX12_findSoonest_325 (by decide) ?_
                  refine lv_icmp_eq (tgt := 360) hx hb dX12_findSoonest_326 (by decide) (fun c_42 => ?_) (fun c_42 => ?_)
                  ·
                    have i_42 : z30.toInt = (-1) := by have z := g5_eq (a := z30.toInt) (b := (-1)) (by rfl) (by decide) c_42; omega
                    refine lv_iconst (v := 0) hx hb dX12_findSoonest_360 (by decide) ?_
                    refine va_zast hx hb hK hP hD hS 6 2 rfl rfl (i := ((64 * k234_5) + k243_6)) (x := 0) (vp_in_iff.mpr ⟨by omega, by omega⟩) dX12_findSoonest_361 (fun H locs hP hD hS => ?_)
                    refine g5_rs [(b_o, (oc12 u_th u_sa b_rf b_ro b_im b_ke u_fd b_tp u_td u_fr u_to u_so u_wo u_fa u_bd u_nc b_nl u_co b_op b_ar u_le b_pi b_pa u_pd u_od b_ws b_hw k62_la b_se b_re k62_bk k62_va k62_su k62_ce k62_ho k62_wy k62_bt k62_ps b_pt k62_tg k62_sn b_ip u_ic b_ah b_be b_me u_wd b_tr b_ld u_st b_wn u_id)), (b_ro, (arI G 5740 v_ro)), (b_se, (arJ G 13 k62_se)), (b_re, (arJ G 400 k62_re)), (b_pt, (arI G 200 k62_pt)), (b_tr, (arZ G 1536 k62_tr)), (b_ld, (arZ G 1536 (upd k253_ld ((64 * k234_5) + k243_6).toNatClampNeg 0)))] hP hD (fun hP hD => ?_)
                    refine lv_iinc (v := (k253_7 + 1)) (lv' := [(7, .int (k253_7 + 1)), (8, .int z30), (6, .int k243_6), (5, .int k234_5), (4, .int k62_4), (0, .ref b_o), (1, .int p_1), (2, .int p_2), (3, .int p_3)]) hx hb dX12_findSoonest_362 hl (k := 1) rfl rfl (by decide) rfl (fun ls hl => ?_)
                    have t_43 : (k253_7 + 1).toInt = k253_7.toInt + 1 := g5_iadd (a := k253_7.toInt) (b := 1) rfl (by decide) (by omega) (by omega)
                    refine lv_goto (tgt := 253) hx hb dX12_findSoonest_365 (by decide) ?_
                    exact ih_253_25 ((k253_7 + 1), (upd k253_ld ((64 * k234_5) + k243_6).toNatClampNeg 0)) ls H locs (show Int.toNat (5 - (k253_7 + 1).toInt) < Int.toNat (5 - k253_7.toInt) from g_up (show k253_7.toInt < (k253_7 + 1).toInt by omega) (show k253_7.toInt < 5 by omega)) ⟨lv_sub hl [0, 2, 3, 4, 5, 6, 7, 8] rfl, hP, hD, hS, ⟨by omega, by omega⟩⟩
                  ·
                    have n_42 : gNe (z30.toInt) ((-1)) := by have z := g5_eqN (a := z30.toInt) (b := (-1)) (by rfl) (by decide) c_42; unfold gNe; omega
                    have i_42 : z30.toInt ≥ 0 := by have z := g5_eqN (a := z30.toInt) (b := (-1)) (by rfl) (by decide) c_42; omega
                    refine lv_aload_n hx hb dX12_findSoonest_329 rfl (lv_at hl 5 rfl) ?_
                    refine va_get (D := G.1) (ci := 12) (v := .ref b_ld) (C := RX12) (T := TX12) (N := 52) hx hb hts inG_X12 hown hK hP 0 rfl rfl 48 (by decide) (hts _ fl_X12_101) (fun _ h9 => h9) rfl dX12_findSoonest_330 ?_
                    refine lv_bipush (v := 64) hx hb dX12_findSoonest_333 (by decide) ?_
                    refine lv_iload hx hb dX12_findSoonest_335 (lv_at hl 3 rfl) ?_
                    refine lv_iconst (v := 1) hx hb dX12_findSoonest_337 (by decide) ?_
                    refine lv_iadd hx hb dX12_findSoonest_338 ?_
                    have t_44 : (k234_5 + 1).toInt = k234_5.toInt + 1 := g5_iadd (a := k234_5.toInt) (b := 1) (by rfl) (by decide) (by omega) (by omega)
                    refine lv_imul hx hb dX12_findSoonest_339 ?_
                    have t_45 : (64 * (k234_5 + 1)).toInt = 64 * (k234_5 + 1).toInt := g5_imul (a := 64) (b := (k234_5 + 1).toInt) (by decide) (by rfl) (by omega) (by omega)
                    refine lv_iload hx hb dX12_findSoonest_340 (lv_at hl 0 rfl) ?_
                    refine lv_if_ge (tgt := 349) hx hb dX12_findSoonest_342 (by decide) (fun c_46 => ?_) (fun c_46 => ?_)
                    ·
                      have i_46 : z30.toInt ≥ 0 := by have z := g5_ge (a := z30.toInt) (b := 0) (by rfl) (by decide) c_46; omega
                      refine lv_iload hx hb dX12_findSoonest_349 (lv_at hl 0 rfl) ?_
                      refine lv_iadd hx hb dX12_findSoonest_351 ?_
                      have t_47 : ((64 * (k234_5 + 1)) + z30).toInt = (64 * (k234_5 + 1)).toInt + z30.toInt := g5_iadd (a := (64 * (k234_5 + 1)).toInt) (b := z30.toInt) (by rfl) (by rfl) (by omega) (by omega)
                      refine va_zald hx hb hK hP 6 2 rfl rfl (i := ((64 * (k234_5 + 1)) + z30)) (vp_in_iff.mpr ⟨by omega, by omega⟩) dX12_findSoonest_352 ?_
                      refine lv_if_eq (tgt := 360) hx hb dX12_findSoonest_353 (by decide) (fun c_48 => ?_) (fun c_48 => ?_)
                      ·
                        have i_48 : (k253_ld ((64 * (k234_5 + 1)) + z30).toNatClampNeg).toInt = 0 := by have z := g5_eq (a := (k253_ld ((64 * (k234_5 + 1)) + z30).toNatClampNeg).toInt) (b := 0) (by rfl) (by decide) c_48; omega
                        refine lv_iconst (v := 0) hx hb dX12_findSoonest_360 (by decide) ?_
                        refine va_zast hx hb hK hP hD hS 6 2 rfl rfl (i := ((64 * k234_5) + k243_6)) (x := 0) (vp_in_iff.mpr ⟨by omega, by omega⟩) dX12_findSoonest_361 (fun H locs hP hD hS => ?_)
                        refine g5_rs [(b_o, (oc12 u_th u_sa b_rf b_ro b_im b_ke u_fd b_tp u_td u_fr u_to u_so u_wo u_fa u_bd u_nc b_nl u_co b_op b_ar u_le b_pi b_pa u_pd u_od b_ws b_hw k62_la b_se b_re k62_bk k62_va k62_su k62_ce k62_ho k62_wy k62_bt k62_ps b_pt k62_tg k62_sn b_ip u_ic b_ah b_be b_me u_wd b_tr b_ld u_st b_wn u_id)), (b_ro, (arI G 5740 v_ro)), (b_se, (arJ G 13 k62_se)), (b_re, (arJ G 400 k62_re)), (b_pt, (arI G 200 k62_pt)), (b_tr, (arZ G 1536 k62_tr)), (b_ld, (arZ G 1536 (upd k253_ld ((64 * k234_5) + k243_6).toNatClampNeg 0)))] hP hD (fun hP hD => ?_)
                        refine lv_iinc (v := (k253_7 + 1)) (lv' := [(7, .int (k253_7 + 1)), (8, .int z30), (6, .int k243_6), (5, .int k234_5), (4, .int k62_4), (0, .ref b_o), (1, .int p_1), (2, .int p_2), (3, .int p_3)]) hx hb dX12_findSoonest_362 hl (k := 1) rfl rfl (by decide) rfl (fun ls hl => ?_)
                        have t_49 : (k253_7 + 1).toInt = k253_7.toInt + 1 := g5_iadd (a := k253_7.toInt) (b := 1) rfl (by decide) (by omega) (by omega)
                        refine lv_goto (tgt := 253) hx hb dX12_findSoonest_365 (by decide) ?_
                        exact ih_253_25 ((k253_7 + 1), (upd k253_ld ((64 * k234_5) + k243_6).toNatClampNeg 0)) ls H locs (show Int.toNat (5 - (k253_7 + 1).toInt) < Int.toNat (5 - k253_7.toInt) from g_up (show k253_7.toInt < (k253_7 + 1).toInt by omega) (show k253_7.toInt < 5 by omega)) ⟨lv_sub hl [0, 2, 3, 4, 5, 6, 7, 8] rfl, hP, hD, hS, ⟨by omega, by omega⟩⟩
                      ·
                        have n_48 : gNe ((k253_ld ((64 * (k234_5 + 1)) + z30).toNatClampNeg).toInt) (0) := by have z := g5_eqN (a := (k253_ld ((64 * (k234_5 + 1)) + z30).toNatClampNeg).toInt) (b := 0) (by rfl) (by decide) c_48; unfold gNe; omega
                        refine lv_iconst (v := 1) hx hb dX12_findSoonest_356 (by decide) ?_
                        refine lv_goto (tgt := 361) hx hb dX12_findSoonest_357 (by decide) ?_
                        refine va_zast hx hb hK hP hD hS 6 2 rfl rfl (i := ((64 * k234_5) + k243_6)) (x := 1) (vp_in_iff.mpr ⟨by omega, by omega⟩) dX12_findSoonest_361 (fun H locs hP hD hS => ?_)
                        refine g5_rs [(b_o, (oc12 u_th u_sa b_rf b_ro b_im b_ke u_fd b_tp u_td u_fr u_to u_so u_wo u_fa u_bd u_nc b_nl u_co b_op b_ar u_le b_pi b_pa u_pd u_od b_ws b_hw k62_la b_se b_re k62_bk k62_va k62_su k62_ce k62_ho k62_wy k62_bt k62_ps b_pt k62_tg k62_sn b_ip u_ic b_ah b_be b_me u_wd b_tr b_ld u_st b_wn u_id)), (b_ro, (arI G 5740 v_ro)), (b_se, (arJ G 13 k62_se)), (b_re, (arJ G 400 k62_re)), (b_pt, (arI G 200 k62_pt)), (b_tr, (arZ G 1536 k62_tr)), (b_ld, (arZ G 1536 (upd k253_ld ((64 * k234_5) + k243_6).toNatClampNeg 1)))] hP hD (fun hP hD => ?_)
                        refine lv_iinc (v := (k253_7 + 1)) (lv' := [(7, .int (k253_7 + 1)), (8, .int z30), (6, .int k243_6), (5, .int k234_5), (4, .int k62_4), (0, .ref b_o), (1, .int p_1), (2, .int p_2), (3, .int p_3)]) hx hb dX12_findSoonest_362 hl (k := 1) rfl rfl (by decide) rfl (fun ls hl => ?_)
                        have t_50 : (k253_7 + 1).toInt = k253_7.toInt + 1 := g5_iadd (a := k253_7.toInt) (b := 1) rfl (by decide) (by omega) (by omega)
                        refine lv_goto (tgt := 253) hx hb dX12_findSoonest_365 (by decide) ?_
                        exact ih_253_25 ((k253_7 + 1), (upd k253_ld ((64 * k234_5) + k243_6).toNatClampNeg 1)) ls H locs (show Int.toNat (5 - (k253_7 + 1).toInt) < Int.toNat (5 - k253_7.toInt) from g_up (show k253_7.toInt < (k253_7 + 1).toInt by omega) (show k253_7.toInt < 5 by omega)) ⟨lv_sub hl [0, 2, 3, 4, 5, 6, 7, 8] rfl, hP, hD, hS, ⟨by omega, by omega⟩⟩
                    ·
                      have i_46 : z30.toInt < 0 := by have z := g5_geN (a := z30.toInt) (b := 0) (by rfl) (by decide) c_46; omega
                      omega
            ·
              have i_28 : k253_7.toInt = 4 := by have z := g5_neN (a := k253_7.toInt) (b := 4) (by rfl) (by decide) c_28; omega
              refine lv_iload hx hb dX12_findSoonest_265 (lv_at hl 1 rfl) ?_
              refine lv_goto (tgt := 277) hx hb dX12_findSoonest_267 (by decide) ?_
              refine lv_istore (lv' := [(8, .int k243_6), (7, .int k253_7), (6, .int k243_6), (5, .int k234_5), (4, .int k62_4), (0, .ref b_o), (1, .int p_1), (2, .int p_2), (3, .int p_3)]) hx hb dX12_findSoonest_277 hl (by decide) rfl (fun ls hl => ?_)
              refine lv_aload_n hx hb dX12_findSoonest_279 rfl (lv_at hl 5 rfl) ?_
              refine va_get (D := G.1) (ci := 12) (v := .ref b_ld) (C := RX12) (T := TX12) (N := 52) hx hb hts inG_X12 hown hK hP 0 rfl rfl 48 (by decide) (hts _ fl_X12_101) (fun _ h9 => h9) rfl dX12_findSoonest_280 ?_
              refine lv_bipush (v := 64) hx hb dX12_findSoonest_283 (by decide) ?_
              refine lv_iload hx hb dX12_findSoonest_285 (lv_at hl 3 rfl) ?_
              refine lv_imul hx hb dX12_findSoonest_287 ?_
              have t_51 : (64 * k234_5).toInt = 64 * k234_5.toInt := g5_imul (a := 64) (b := k234_5.toInt) (by decide) (by rfl) (by omega) (by omega)
              refine lv_iload hx hb dX12_findSoonest_288 (lv_at hl 2 rfl) ?_
              refine lv_iadd hx hb dX12_findSoonest_290 ?_
              have t_52 : ((64 * k234_5) + k243_6).toInt = (64 * k234_5).toInt + k243_6.toInt := g5_iadd (a := (64 * k234_5).toInt) (b := k243_6.toInt) (by rfl) (by rfl) (by omega) (by omega)
              refine lv_aload_n hx hb dX12_findSoonest_291 rfl (lv_at hl 5 rfl) ?_
              refine va_get (D := G.1) (ci := 12) (v := .ref b_ld) (C := RX12) (T := TX12) (N := 52) hx hb hts inG_X12 hown hK hP 0 rfl rfl 48 (by decide) (hts _ fl_X12_101) (fun _ h9 => h9) rfl dX12_findSoonest_292 ?_
              refine lv_bipush (v := 64) hx hb dX12_findSoonest_295 (by decide) ?_
              refine lv_iload hx hb dX12_findSoonest_297 (lv_at hl 3 rfl) ?_
              refine lv_imul hx hb dX12_findSoonest_299 ?_
              have t_53 : (64 * k234_5).toInt = 64 * k234_5.toInt := g5_imul (a := 64) (b := k234_5.toInt) (by decide) (by rfl) (by omega) (by omega)
              refine lv_iload hx hb dX12_findSoonest_300 (lv_at hl 2 rfl) ?_
              refine lv_iadd hx hb dX12_findSoonest_302 ?_
              have t_54 : ((64 * k234_5) + k243_6).toInt = (64 * k234_5).toInt + k243_6.toInt := g5_iadd (a := (64 * k234_5).toInt) (b := k243_6.toInt) (by rfl) (by rfl) (by omega) (by omega)
              refine va_zald hx hb hK hP 6 2 rfl rfl (i := ((64 * k234_5) + k243_6)) (vp_in_iff.mpr ⟨by omega, by omega⟩) dX12_findSoonest_303 ?_
              refine lv_if_ne (tgt := 356) hx hb dX12_findSoonest_304 (by decide) (fun c_55 => ?_) (fun c_55 => ?_)
              ·
                have n_55 : gNe ((k253_ld ((64 * k234_5) + k243_6).toNatClampNeg).toInt) (0) := by have z := g5_ne (a := (k253_ld ((64 * k234_5) + k243_6).toNatClampNeg).toInt) (b := 0) (by rfl) (by decide) c_55; unfold gNe; omega
                refine lv_iconst (v := 1) hx hb dX12_findSoonest_356 (by decide) ?_
                refine lv_goto (tgt := 361) hx hb dX12_findSoonest_357 (by decide) ?_
                refine va_zast hx hb hK hP hD hS 6 2 rfl rfl (i := ((64 * k234_5) + k243_6)) (x := 1) (vp_in_iff.mpr ⟨by omega, by omega⟩) dX12_findSoonest_361 (fun H locs hP hD hS => ?_)
                refine g5_rs [(b_o, (oc12 u_th u_sa b_rf b_ro b_im b_ke u_fd b_tp u_td u_fr u_to u_so u_wo u_fa u_bd u_nc b_nl u_co b_op b_ar u_le b_pi b_pa u_pd u_od b_ws b_hw k62_la b_se b_re k62_bk k62_va k62_su k62_ce k62_ho k62_wy k62_bt k62_ps b_pt k62_tg k62_sn b_ip u_ic b_ah b_be b_me u_wd b_tr b_ld u_st b_wn u_id)), (b_ro, (arI G 5740 v_ro)), (b_se, (arJ G 13 k62_se)), (b_re, (arJ G 400 k62_re)), (b_pt, (arI G 200 k62_pt)), (b_tr, (arZ G 1536 k62_tr)), (b_ld, (arZ G 1536 (upd k253_ld ((64 * k234_5) + k243_6).toNatClampNeg 1)))] hP hD (fun hP hD => ?_)
                refine lv_iinc (v := (k253_7 + 1)) (lv' := [(7, .int (k253_7 + 1)), (8, .int k243_6), (6, .int k243_6), (5, .int k234_5), (4, .int k62_4), (0, .ref b_o), (1, .int p_1), (2, .int p_2), (3, .int p_3)]) hx hb dX12_findSoonest_362 hl (k := 1) rfl rfl (by decide) rfl (fun ls hl => ?_)
                have t_56 : (k253_7 + 1).toInt = k253_7.toInt + 1 := g5_iadd (a := k253_7.toInt) (b := 1) rfl (by decide) (by omega) (by omega)
                refine lv_goto (tgt := 253) hx hb dX12_findSoonest_365 (by decide) ?_
                exact ih_253_25 ((k253_7 + 1), (upd k253_ld ((64 * k234_5) + k243_6).toNatClampNeg 1)) ls H locs (show Int.toNat (5 - (k253_7 + 1).toInt) < Int.toNat (5 - k253_7.toInt) from g_up (show k253_7.toInt < (k253_7 + 1).toInt by omega) (show k253_7.toInt < 5 by omega)) ⟨lv_sub hl [0, 2, 3, 4, 5, 6, 7, 8] rfl, hP, hD, hS, ⟨by omega, by omega⟩⟩
              ·
                have i_55 : (k253_ld ((64 * k234_5) + k243_6).toNatClampNeg).toInt = 0 := by have z := g5_neN (a := (k253_ld ((64 * k234_5) + k243_6).toNatClampNeg).toInt) (b := 0) (by rfl) (by decide) c_55; omega
                refine lv_aload_n hx hb dX12_findSoonest_307 rfl (lv_at hl 5 rfl) ?_
                refine va_get (D := G.1) (ci := 12) (v := .ref b_tr) (C := RX12) (T := TX12) (N := 52) hx hb hts inG_X12 hown hK hP 0 rfl rfl 47 (by decide) (hts _ fl_X12_98) (fun _ h9 => h9) rfl dX12_findSoonest_308 ?_
                refine lv_bipush (v := 64) hx hb dX12_findSoonest_311 (by decide) ?_
                refine lv_iload hx hb dX12_findSoonest_313 (lv_at hl 3 rfl) ?_
                refine lv_imul hx hb dX12_findSoonest_315 ?_
                have t_57 : (64 * k234_5).toInt = 64 * k234_5.toInt := g5_imul (a := 64) (b := k234_5.toInt) (by decide) (by rfl) (by omega) (by omega)
                refine lv_iload hx hb dX12_findSoonest_316 (lv_at hl 2 rfl) ?_
                refine lv_iadd hx hb dX12_findSoonest_318 ?_
                have t_58 : ((64 * k234_5) + k243_6).toInt = (64 * k234_5).toInt + k243_6.toInt := g5_iadd (a := (64 * k234_5).toInt) (b := k243_6.toInt) (by rfl) (by rfl) (by omega) (by omega)
                refine va_zald hx hb hK hP 5 2 rfl rfl (i := ((64 * k234_5) + k243_6)) (vp_in_iff.mpr ⟨by omega, by omega⟩) dX12_findSoonest_319 ?_
                refine lv_if_eq (tgt := 360) hx hb dX12_findSoonest_320 (by decide) (fun c_59 => ?_) (fun c_59 => ?_)
                ·
                  have i_59 : (k62_tr ((64 * k234_5) + k243_6).toNatClampNeg).toInt = 0 := by have z := g5_eq (a := (k62_tr ((64 * k234_5) + k243_6).toNatClampNeg).toInt) (b := 0) (by rfl) (by decide) c_59; omega
                  refine lv_iconst (v := 0) hx hb dX12_findSoonest_360 (by decide) ?_
                  refine va_zast hx hb hK hP hD hS 6 2 rfl rfl (i := ((64 * k234_5) + k243_6)) (x := 0) (vp_in_iff.mpr ⟨by omega, by omega⟩) dX12_findSoonest_361 (fun H locs hP hD hS => ?_)
                  refine g5_rs [(b_o, (oc12 u_th u_sa b_rf b_ro b_im b_ke u_fd b_tp u_td u_fr u_to u_so u_wo u_fa u_bd u_nc b_nl u_co b_op b_ar u_le b_pi b_pa u_pd u_od b_ws b_hw k62_la b_se b_re k62_bk k62_va k62_su k62_ce k62_ho k62_wy k62_bt k62_ps b_pt k62_tg k62_sn b_ip u_ic b_ah b_be b_me u_wd b_tr b_ld u_st b_wn u_id)), (b_ro, (arI G 5740 v_ro)), (b_se, (arJ G 13 k62_se)), (b_re, (arJ G 400 k62_re)), (b_pt, (arI G 200 k62_pt)), (b_tr, (arZ G 1536 k62_tr)), (b_ld, (arZ G 1536 (upd k253_ld ((64 * k234_5) + k243_6).toNatClampNeg 0)))] hP hD (fun hP hD => ?_)
                  refine lv_iinc (v := (k253_7 + 1)) (lv' := [(7, .int (k253_7 + 1)), (8, .int k243_6), (6, .int k243_6), (5, .int k234_5), (4, .int k62_4), (0, .ref b_o), (1, .int p_1), (2, .int p_2), (3, .int p_3)]) hx hb dX12_findSoonest_362 hl (k := 1) rfl rfl (by decide) rfl (fun ls hl => ?_)
                  have t_60 : (k253_7 + 1).toInt = k253_7.toInt + 1 := g5_iadd (a := k253_7.toInt) (b := 1) rfl (by decide) (by omega) (by omega)
                  refine lv_goto (tgt := 253) hx hb dX12_findSoonest_365 (by decide) ?_
                  exact ih_253_25 ((k253_7 + 1), (upd k253_ld ((64 * k234_5) + k243_6).toNatClampNeg 0)) ls H locs (show Int.toNat (5 - (k253_7 + 1).toInt) < Int.toNat (5 - k253_7.toInt) from g_up (show k253_7.toInt < (k253_7 + 1).toInt by omega) (show k253_7.toInt < 5 by omega)) ⟨lv_sub hl [0, 2, 3, 4, 5, 6, 7, 8] rfl, hP, hD, hS, ⟨by omega, by omega⟩⟩
                ·
                  have n_59 : gNe ((k62_tr ((64 * k234_5) + k243_6).toNatClampNeg).toInt) (0) := by have z := g5_eqN (a := (k62_tr ((64 * k234_5) + k243_6).toNatClampNeg).toInt) (b := 0) (by rfl) (by decide) c_59; unfold gNe; omega
                  refine lv_iload hx hb dX12_findSoonest_323 (lv_at hl 0 rfl) ?_
                  refine lv_iconst (v := (-1)) hx hb dX12_findSoonest_325 (by decide) ?_
                  refine lv_icmp_eq (tgt := 360) hx hb dX12_findSoonest_326 (by decide) (fun c_61 => ?_) (fun c_61 => ?_)
                  ·
                    have i_61 : k243_6.toInt = (-1) := by have z := g5_eq (a := k243_6.toInt) (b := (-1)) (by rfl) (by decide) c_61; omega
                    omega
                  ·
                    have n_61 : gNe (k243_6.toInt) ((-1)) := by have z := g5_eqN (a := k243_6.toInt) (b := (-1)) (by rfl) (by decide) c_61; unfold gNe; omega
                    refine lv_aload_n hx hb dX12_findSoonest_329 rfl (lv_at hl 5 rfl) ?_
                    refine va_get (D := G.1) (ci := 12) (v := .ref b_ld) (C := RX12) (T := TX12) (N := 52) hx hb hts inG_X12 hown hK hP 0 rfl rfl 48 (by decide) (hts _ fl_X12_101) (fun _ h9 => h9) rfl dX12_findSoonest_330 ?_
                    refine lv_bipush (v := 64) hx hb dX12_findSoonest_333 (by decide) ?_
                    refine lv_iload hx hb dX12_findSoonest_335 (lv_at hl 3 rfl) ?_
                    refine lv_iconst (v := 1) hx hb dX12_findSoonest_337 (by decide) ?_
                    refine lv_iadd hx hb dX12_findSoonest_338 ?_
                    have t_62 : (k234_5 + 1).toInt = k234_5.toInt + 1 := g5_iadd (a := k234_5.toInt) (b := 1) (by rfl) (by decide) (by omega) (by omega)
                    refine lv_imul hx hb dX12_findSoonest_339 ?_
                    have t_63 : (64 * (k234_5 + 1)).toInt = 64 * (k234_5 + 1).toInt := g5_imul (a := 64) (b := (k234_5 + 1).toInt) (by decide) (by rfl) (by omega) (by omega)
                    refine lv_iload hx hb dX12_findSoonest_340 (lv_at hl 0 rfl) ?_
                    refine lv_if_ge (tgt := 349) hx hb dX12_findSoonest_342 (by decide) (fun c_64 => ?_) (fun c_64 => ?_)
                    ·
                      have i_64 : k243_6.toInt ≥ 0 := by have z := g5_ge (a := k243_6.toInt) (b := 0) (by rfl) (by decide) c_64; omega
                      refine lv_iload hx hb dX12_findSoonest_349 (lv_at hl 0 rfl) ?_
                      refine lv_iadd hx hb dX12_findSoonest_351 ?_
                      have t_65 : ((64 * (k234_5 + 1)) + k243_6).toInt = (64 * (k234_5 + 1)).toInt + k243_6.toInt := g5_iadd (a := (64 * (k234_5 + 1)).toInt) (b := k243_6.toInt) (by rfl) (by rfl) (by omega) (by omega)
                      refine va_zald hx hb hK hP 6 2 rfl rfl (i := ((64 * (k234_5 + 1)) + k243_6)) (vp_in_iff.mpr ⟨by omega, by omega⟩) dX12_findSoonest_352 ?_
                      refine lv_if_eq (tgt := 360) hx hb dX12_findSoonest_353 (by decide) (fun c_66 => ?_) (fun c_66 => ?_)
                      ·
                        have i_66 : (k253_ld ((64 * (k234_5 + 1)) + k243_6).toNatClampNeg).toInt = 0 := by have z := g5_eq (a := (k253_ld ((64 * (k234_5 + 1)) + k243_6).toNatClampNeg).toInt) (b := 0) (by rfl) (by decide) c_66; omega
                        refine lv_iconst (v := 0) hx hb dX12_findSoonest_360 (by decide) ?_
                        refine va_zast hx hb hK hP hD hS 6 2 rfl rfl (i := ((64 * k234_5) + k243_6)) (x := 0) (vp_in_iff.mpr ⟨by omega, by omega⟩) dX12_findSoonest_361 (fun H locs hP hD hS => ?_)
                        refine g5_rs [(b_o, (oc12 u_th u_sa b_rf b_ro b_im b_ke u_fd b_tp u_td u_fr u_to u_so u_wo u_fa u_bd u_nc b_nl u_co b_op b_ar u_le b_pi b_pa u_pd u_od b_ws b_hw k62_la b_se b_re k62_bk k62_va k62_su k62_ce k62_ho k62_wy k62_bt k62_ps b_pt k62_tg k62_sn b_ip u_ic b_ah b_be b_me u_wd b_tr b_ld u_st b_wn u_id)), (b_ro, (arI G 5740 v_ro)), (b_se, (arJ G 13 k62_se)), (b_re, (arJ G 400 k62_re)), (b_pt, (arI G 200 k62_pt)), (b_tr, (arZ G 1536 k62_tr)), (b_ld, (arZ G 1536 (upd k253_ld ((64 * k234_5) + k243_6).toNatClampNeg 0)))] hP hD (fun hP hD => ?_)
                        refine lv_iinc (v := (k253_7 + 1)) (lv' := [(7, .int (k253_7 + 1)), (8, .int k243_6), (6, .int k243_6), (5, .int k234_5), (4, .int k62_4), (0, .ref b_o), (1, .int p_1), (2, .int p_2), (3, .int p_3)]) hx hb dX12_findSoonest_362 hl (k := 1) rfl rfl (by decide) rfl (fun ls hl => ?_)
                        have t_67 : (k253_7 + 1).toInt = k253_7.toInt + 1 := g5_iadd (a := k253_7.toInt) (b := 1) rfl (by decide) (by omega) (by omega)
                        refine lv_goto (tgt := 253) hx hb dX12_findSoonest_365 (by decide) ?_
                        exact ih_253_25 ((k253_7 + 1), (upd k253_ld ((64 * k234_5) + k243_6).toNatClampNeg 0)) ls H locs (show Int.toNat (5 - (k253_7 + 1).toInt) < Int.toNat (5 - k253_7.toInt) from g_up (show k253_7.toInt < (k253_7 + 1).toInt by omega) (show k253_7.toInt < 5 by omega)) ⟨lv_sub hl [0, 2, 3, 4, 5, 6, 7, 8] rfl, hP, hD, hS, ⟨by omega, by omega⟩⟩
                      ·
                        have n_66 : gNe ((k253_ld ((64 * (k234_5 + 1)) + k243_6).toNatClampNeg).toInt) (0) := by have z := g5_eqN (a := (k253_ld ((64 * (k234_5 + 1)) + k243_6).toNatClampNeg).toInt) (b := 0) (by rfl) (by decide) c_66; unfold gNe; omega
                        refine lv_iconst (v := 1) hx hb dX12_findSoonest_356 (by decide) ?_
                        refine lv_goto (tgt := 361) hx hb dX12_findSoonest_357 (by decide) ?_
                        refine va_zast hx hb hK hP hD hS 6 2 rfl rfl (i := ((64 * k234_5) + k243_6)) (x := 1) (vp_in_iff.mpr ⟨by omega, by omega⟩) dX12_findSoonest_361 (fun H locs hP hD hS => ?_)
                        refine g5_rs [(b_o, (oc12 u_th u_sa b_rf b_ro b_im b_ke u_fd b_tp u_td u_fr u_to u_so u_wo u_fa u_bd u_nc b_nl u_co b_op b_ar u_le b_pi b_pa u_pd u_od b_ws b_hw k62_la b_se b_re k62_bk k62_va k62_su k62_ce k62_ho k62_wy k62_bt k62_ps b_pt k62_tg k62_sn b_ip u_ic b_ah b_be b_me u_wd b_tr b_ld u_st b_wn u_id)), (b_ro, (arI G 5740 v_ro)), (b_se, (arJ G 13 k62_se)), (b_re, (arJ G 400 k62_re)), (b_pt, (arI G 200 k62_pt)), (b_tr, (arZ G 1536 k62_tr)), (b_ld, (arZ G 1536 (upd k253_ld ((64 * k234_5) + k243_6).toNatClampNeg 1)))] hP hD (fun hP hD => ?_)
                        refine lv_iinc (v := (k253_7 + 1)) (lv' := [(7, .int (k253_7 + 1)), (8, .int k243_6), (6, .int k243_6), (5, .int k234_5), (4, .int k62_4), (0, .ref b_o), (1, .int p_1), (2, .int p_2), (3, .int p_3)]) hx hb dX12_findSoonest_362 hl (k := 1) rfl rfl (by decide) rfl (fun ls hl => ?_)
                        have t_68 : (k253_7 + 1).toInt = k253_7.toInt + 1 := g5_iadd (a := k253_7.toInt) (b := 1) rfl (by decide) (by omega) (by omega)
                        refine lv_goto (tgt := 253) hx hb dX12_findSoonest_365 (by decide) ?_
                        exact ih_253_25 ((k253_7 + 1), (upd k253_ld ((64 * k234_5) + k243_6).toNatClampNeg 1)) ls H locs (show Int.toNat (5 - (k253_7 + 1).toInt) < Int.toNat (5 - k253_7.toInt) from g_up (show k253_7.toInt < (k253_7 + 1).toInt by omega) (show k253_7.toInt < 5 by omega)) ⟨lv_sub hl [0, 2, 3, 4, 5, 6, 7, 8] rfl, hP, hD, hS, ⟨by omega, by omega⟩⟩
                    ·
                      have i_64 : k243_6.toInt < 0 := by have z := g5_geN (a := k243_6.toInt) (b := 0) (by rfl) (by decide) c_64; omega
                      omega
    ·
      have i_15 : k62_5.toInt < 24 := by have z := g5_geN (a := k62_5.toInt) (b := 24) (by rfl) (by decide) c_15; omega
      refine lv_iload hx hb dX12_findSoonest_69 (lv_at hl 0 rfl) ?_
      refine lv_iconst (v := (-1)) hx hb dX12_findSoonest_71 (by decide) ?_
      refine lv_icmp_ne (tgt := 228) hx hb dX12_findSoonest_72 (by decide) (fun c_69 => ?_) (fun c_69 => ?_)
      ·
        have n_69 : gNe (k62_4.toInt) ((-1)) := by have z := g5_ne (a := k62_4.toInt) (b := (-1)) (by rfl) (by decide) c_69; unfold gNe; omega
        have i_69 : k62_4.toInt ≥ 0 := by have z := g5_ne (a := k62_4.toInt) (b := (-1)) (by rfl) (by decide) c_69; omega
        refine lv_iload hx hb dX12_findSoonest_228 (lv_at hl 0 rfl) ?_
        refine lv_iconst (v := 1) hx hb dX12_findSoonest_230 (by decide) ?_
        refine lv_isub hx hb dX12_findSoonest_231 ?_
        have t_70 : (k62_4 - 1).toInt = k62_4.toInt - 1 := g5_isub (a := k62_4.toInt) (b := 1) (by rfl) (by decide) (by omega) (by omega)
        refine lv_istore (lv' := [(5, .int (k62_4 - 1)), (4, .int k62_4), (0, .ref b_o), (1, .int p_1), (2, .int p_2), (3, .int p_3)]) hx hb dX12_findSoonest_232 hl (by decide) rfl (fun ls hl => ?_)
        refine g5_loop (α := (Int32) × (Nat → Int32)) (fun (q : (Int32) × (Nat → Int32)) (ls : Array Slot) (H : Heap) (locs : List Loc) => match q with | (k234_5, k234_ld) => lv_has ls 9 [(5, .int k234_5), (4, .int k62_4), (0, .ref b_o), (1, .int p_1), (2, .int p_2), (3, .int p_3)] ∧ va_P G.1 vwCl [(b_o, (oc12 u_th u_sa b_rf b_ro b_im b_ke u_fd b_tp u_td u_fr u_to u_so u_wo u_fa u_bd u_nc b_nl u_co b_op b_ar u_le b_pi b_pa u_pd u_od b_ws b_hw k62_la b_se b_re k62_bk k62_va k62_su k62_ce k62_ho k62_wy k62_bt k62_ps b_pt k62_tg k62_sn b_ip u_ic b_ah b_be b_me u_wd b_tr b_ld u_st b_wn u_id)), (b_ro, (arI G 5740 v_ro)), (b_se, (arJ G 13 k62_se)), (b_re, (arJ G 400 k62_re)), (b_pt, (arI G 200 k62_pt)), (b_tr, (arZ G 1536 k62_tr)), (b_ld, (arZ G 1536 k234_ld))] H ∧ va_D A [(b_o, (oc12 u_th u_sa b_rf b_ro b_im b_ke u_fd b_tp u_td u_fr u_to u_so u_wo u_fa u_bd u_nc b_nl u_co b_op b_ar u_le b_pi b_pa u_pd u_od b_ws b_hw k62_la b_se b_re k62_bk k62_va k62_su k62_ce k62_ho k62_wy k62_bt k62_ps b_pt k62_tg k62_sn b_ip u_ic b_ah b_be b_me u_wd b_tr b_ld u_st b_wn u_id)), (b_ro, (arI G 5740 v_ro)), (b_se, (arJ G 13 k62_se)), (b_re, (arJ G 400 k62_re)), (b_pt, (arI G 200 k62_pt)), (b_tr, (arZ G 1536 k62_tr)), (b_ld, (arZ G 1536 k234_ld))] ∧ va_S A s.heap H locs ∧ ((-2) ≤ k234_5.toInt ∧ k234_5.toInt ≤ 22)) (fun (q : (Int32) × (Nat → Int32)) => match q with | (k234_5, k234_ld) => Int.toNat (k234_5.toInt + 1)) ((k62_4 - 1), k62_ld) ⟨lv_sub hl [0, 1, 2, 3, 4, 5] rfl, hP, hD, hS, ⟨by omega, by omega⟩⟩ ?_
        rintro ⟨k234_5, k234_ld⟩ ls H locs ⟨hl, hP, hD, hS, i_71⟩ ih_234_72
        have hl : lv_has ls 9 [(5, .int k234_5), (4, .int k62_4), (0, .ref b_o), (1, .int p_1), (2, .int p_2), (3, .int p_3)] := hl
        have i_71 : (-2) ≤ k234_5.toInt ∧ k234_5.toInt ≤ 22 := i_71
        refine g5_rs [(b_o, (oc12 u_th u_sa b_rf b_ro b_im b_ke u_fd b_tp u_td u_fr u_to u_so u_wo u_fa u_bd u_nc b_nl u_co b_op b_ar u_le b_pi b_pa u_pd u_od b_ws b_hw k62_la b_se b_re k62_bk k62_va k62_su k62_ce k62_ho k62_wy k62_bt k62_ps b_pt k62_tg k62_sn b_ip u_ic b_ah b_be b_me u_wd b_tr b_ld u_st b_wn u_id)), (b_ro, (arI G 5740 v_ro)), (b_se, (arJ G 13 k62_se)), (b_re, (arJ G 400 k62_re)), (b_pt, (arI G 200 k62_pt)), (b_tr, (arZ G 1536 k62_tr)), (b_ld, (arZ G 1536 k234_ld))] hP hD (fun hP hD => ?_)
        refine lv_iload hx hb dX12_findSoonest_234 (lv_at hl 0 rfl) ?_
        refine lv_iload_n hx hb dX12_findSoonest_236 rfl (lv_at hl 5 rfl) ?_
        refine lv_icmp_lt (tgt := 380) hx hb dX12_findSoonest_237 (by decide) (fun c_73 => ?_) (fun c_73 => ?_)
        ·
          have i_73 : k234_5.toInt < p_3.toInt := by have z := g5_lt (a := k234_5.toInt) (b := p_3.toInt) (by rfl) (by rfl) c_73; omega
          refine lv_iload hx hb dX12_findSoonest_380 (lv_at hl 1 rfl) ?_
          exact W.iret (v := k62_4) hx hb hr (fun t ht hW => ⟨⟨k62_4, [(b_o, (oc12 u_th u_sa b_rf b_ro b_im b_ke u_fd b_tp u_td u_fr u_to u_so u_wo u_fa u_bd u_nc b_nl u_co b_op b_ar u_le b_pi b_pa u_pd u_od b_ws b_hw k62_la b_se b_re k62_bk k62_va k62_su k62_ce k62_ho k62_wy k62_bt k62_ps b_pt k62_tg k62_sn b_ip u_ic b_ah b_be b_me u_wd b_tr b_ld u_st b_wn u_id)), (b_ro, (arI G 5740 v_ro)), (b_se, (arJ G 13 k62_se)), (b_re, (arJ G 400 k62_re)), (b_pt, (arI G 200 k62_pt)), (b_tr, (arZ G 1536 k62_tr)), (b_ld, (arZ G 1536 k234_ld))], rfl, ⟨k62_4, k62_la, k62_bk, k62_va, k62_su, k62_ce, k62_ho, k62_wy, k62_bt, k62_ps, k62_tg, k62_sn, k62_se, k62_re, k62_pt, k62_tr, k234_ld, i_5, i_6, i_7, i_8, i_9, i_10, i_11, i_12, i_13, rfl, rfl⟩, by rw [ht]; exact hP.sub [0, 1, 2, 3, 4, 5, 6] rfl, hD.sub [0, 1, 2, 3, 4, 5, 6] (by decide) rfl⟩, hS.F ht⟩) hS.2.2 dX12_findSoonest_382
        ·
          have i_73 : k234_5.toInt ≥ p_3.toInt := by have z := g5_ltN (a := k234_5.toInt) (b := p_3.toInt) (by rfl) (by rfl) c_73; omega
          refine lv_iconst (v := 0) hx hb dX12_findSoonest_240 (by decide) ?_
          refine lv_istore (lv' := [(6, .int 0), (5, .int k234_5), (4, .int k62_4), (0, .ref b_o), (1, .int p_1), (2, .int p_2), (3, .int p_3)]) hx hb dX12_findSoonest_241 hl (by decide) rfl (fun ls hl => ?_)
          refine g5_loop (α := (Int32) × (Nat → Int32)) (fun (q : (Int32) × (Nat → Int32)) (ls : Array Slot) (H : Heap) (locs : List Loc) => match q with | (k243_6, k243_ld) => lv_has ls 9 [(6, .int k243_6), (5, .int k234_5), (4, .int k62_4), (0, .ref b_o), (1, .int p_1), (2, .int p_2), (3, .int p_3)] ∧ va_P G.1 vwCl [(b_o, (oc12 u_th u_sa b_rf b_ro b_im b_ke u_fd b_tp u_td u_fr u_to u_so u_wo u_fa u_bd u_nc b_nl u_co b_op b_ar u_le b_pi b_pa u_pd u_od b_ws b_hw k62_la b_se b_re k62_bk k62_va k62_su k62_ce k62_ho k62_wy k62_bt k62_ps b_pt k62_tg k62_sn b_ip u_ic b_ah b_be b_me u_wd b_tr b_ld u_st b_wn u_id)), (b_ro, (arI G 5740 v_ro)), (b_se, (arJ G 13 k62_se)), (b_re, (arJ G 400 k62_re)), (b_pt, (arI G 200 k62_pt)), (b_tr, (arZ G 1536 k62_tr)), (b_ld, (arZ G 1536 k243_ld))] H ∧ va_D A [(b_o, (oc12 u_th u_sa b_rf b_ro b_im b_ke u_fd b_tp u_td u_fr u_to u_so u_wo u_fa u_bd u_nc b_nl u_co b_op b_ar u_le b_pi b_pa u_pd u_od b_ws b_hw k62_la b_se b_re k62_bk k62_va k62_su k62_ce k62_ho k62_wy k62_bt k62_ps b_pt k62_tg k62_sn b_ip u_ic b_ah b_be b_me u_wd b_tr b_ld u_st b_wn u_id)), (b_ro, (arI G 5740 v_ro)), (b_se, (arJ G 13 k62_se)), (b_re, (arJ G 400 k62_re)), (b_pt, (arI G 200 k62_pt)), (b_tr, (arZ G 1536 k62_tr)), (b_ld, (arZ G 1536 k243_ld))] ∧ va_S A s.heap H locs ∧ (0 ≤ k243_6.toInt ∧ k243_6.toInt ≤ 64)) (fun (q : (Int32) × (Nat → Int32)) => match q with | (k243_6, k243_ld) => Int.toNat (64 - k243_6.toInt)) (0, k234_ld) ⟨lv_sub hl [0, 1, 2, 3, 4, 5, 6] rfl, hP, hD, hS, ⟨by decide, by decide⟩⟩ ?_
          rintro ⟨k243_6, k243_ld⟩ ls H locs ⟨hl, hP, hD, hS, i_74⟩ ih_243_75
          have hl : lv_has ls 9 [(6, .int k243_6), (5, .int k234_5), (4, .int k62_4), (0, .ref b_o), (1, .int p_1), (2, .int p_2), (3, .int p_3)] := hl
          have i_74 : 0 ≤ k243_6.toInt ∧ k243_6.toInt ≤ 64 := i_74
          refine g5_rs [(b_o, (oc12 u_th u_sa b_rf b_ro b_im b_ke u_fd b_tp u_td u_fr u_to u_so u_wo u_fa u_bd u_nc b_nl u_co b_op b_ar u_le b_pi b_pa u_pd u_od b_ws b_hw k62_la b_se b_re k62_bk k62_va k62_su k62_ce k62_ho k62_wy k62_bt k62_ps b_pt k62_tg k62_sn b_ip u_ic b_ah b_be b_me u_wd b_tr b_ld u_st b_wn u_id)), (b_ro, (arI G 5740 v_ro)), (b_se, (arJ G 13 k62_se)), (b_re, (arJ G 400 k62_re)), (b_pt, (arI G 200 k62_pt)), (b_tr, (arZ G 1536 k62_tr)), (b_ld, (arZ G 1536 k243_ld))] hP hD (fun hP hD => ?_)
          refine lv_iload hx hb dX12_findSoonest_243 (lv_at hl 0 rfl) ?_
          refine lv_bipush (v := 64) hx hb dX12_findSoonest_245 (by decide) ?_
          refine lv_icmp_ge (tgt := 374) hx hb dX12_findSoonest_247 (by decide) (fun c_76 => ?_) (fun c_76 => ?_)
          ·
            have i_76 : k243_6.toInt ≥ 64 := by have z := g5_ge (a := k243_6.toInt) (b := 64) (by rfl) (by decide) c_76; omega
            obtain ⟨y77, hy_77, t_77⟩ := g_incN k234_5 (-1) (by decide) (by omega) (by omega)
            have t_77 : y77.toInt = k234_5.toInt + (-1) := t_77
            refine lv_iinc (v := y77) (lv' := [(5, .int y77), (6, .int k243_6), (4, .int k62_4), (0, .ref b_o), (1, .int p_1), (2, .int p_2), (3, .int p_3)]) hx hb dX12_findSoonest_374 hl (k := 1) rfl hy_77 (by decide) rfl (fun ls hl => ?_)
            refine lv_goto (tgt := 234) hx hb dX12_findSoonest_377 (by decide) ?_
            exact ih_234_72 (y77, k243_ld) ls H locs (show Int.toNat (y77.toInt + 1) < Int.toNat (k234_5.toInt + 1) from g_dn (show y77.toInt < k234_5.toInt by omega) (show 0 ≤ k234_5.toInt by omega)) ⟨lv_sub hl [0, 2, 3, 4, 5, 6] rfl, hP, hD, hS, ⟨by omega, by omega⟩⟩
          ·
            have i_76 : k243_6.toInt < 64 := by have z := g5_geN (a := k243_6.toInt) (b := 64) (by rfl) (by decide) c_76; omega
            refine lv_iconst (v := 0) hx hb dX12_findSoonest_250 (by decide) ?_
            refine lv_istore (lv' := [(7, .int 0), (6, .int k243_6), (5, .int k234_5), (4, .int k62_4), (0, .ref b_o), (1, .int p_1), (2, .int p_2), (3, .int p_3)]) hx hb dX12_findSoonest_251 hl (by decide) rfl (fun ls hl => ?_)
            refine g5_loop (α := (Int32) × (Nat → Int32)) (fun (q : (Int32) × (Nat → Int32)) (ls : Array Slot) (H : Heap) (locs : List Loc) => match q with | (k253_7, k253_ld) => lv_has ls 9 [(7, .int k253_7), (6, .int k243_6), (5, .int k234_5), (4, .int k62_4), (0, .ref b_o), (1, .int p_1), (2, .int p_2), (3, .int p_3)] ∧ va_P G.1 vwCl [(b_o, (oc12 u_th u_sa b_rf b_ro b_im b_ke u_fd b_tp u_td u_fr u_to u_so u_wo u_fa u_bd u_nc b_nl u_co b_op b_ar u_le b_pi b_pa u_pd u_od b_ws b_hw k62_la b_se b_re k62_bk k62_va k62_su k62_ce k62_ho k62_wy k62_bt k62_ps b_pt k62_tg k62_sn b_ip u_ic b_ah b_be b_me u_wd b_tr b_ld u_st b_wn u_id)), (b_ro, (arI G 5740 v_ro)), (b_se, (arJ G 13 k62_se)), (b_re, (arJ G 400 k62_re)), (b_pt, (arI G 200 k62_pt)), (b_tr, (arZ G 1536 k62_tr)), (b_ld, (arZ G 1536 k253_ld))] H ∧ va_D A [(b_o, (oc12 u_th u_sa b_rf b_ro b_im b_ke u_fd b_tp u_td u_fr u_to u_so u_wo u_fa u_bd u_nc b_nl u_co b_op b_ar u_le b_pi b_pa u_pd u_od b_ws b_hw k62_la b_se b_re k62_bk k62_va k62_su k62_ce k62_ho k62_wy k62_bt k62_ps b_pt k62_tg k62_sn b_ip u_ic b_ah b_be b_me u_wd b_tr b_ld u_st b_wn u_id)), (b_ro, (arI G 5740 v_ro)), (b_se, (arJ G 13 k62_se)), (b_re, (arJ G 400 k62_re)), (b_pt, (arI G 200 k62_pt)), (b_tr, (arZ G 1536 k62_tr)), (b_ld, (arZ G 1536 k253_ld))] ∧ va_S A s.heap H locs ∧ (0 ≤ k253_7.toInt ∧ k253_7.toInt ≤ 5)) (fun (q : (Int32) × (Nat → Int32)) => match q with | (k253_7, k253_ld) => Int.toNat (5 - k253_7.toInt)) (0, k243_ld) ⟨lv_sub hl [0, 1, 2, 3, 4, 5, 6, 7] rfl, hP, hD, hS, ⟨by decide, by decide⟩⟩ ?_
            rintro ⟨k253_7, k253_ld⟩ ls H locs ⟨hl, hP, hD, hS, i_78⟩ ih_253_79
            have hl : lv_has ls 9 [(7, .int k253_7), (6, .int k243_6), (5, .int k234_5), (4, .int k62_4), (0, .ref b_o), (1, .int p_1), (2, .int p_2), (3, .int p_3)] := hl
            have i_78 : 0 ≤ k253_7.toInt ∧ k253_7.toInt ≤ 5 := i_78
            refine g5_rs [(b_o, (oc12 u_th u_sa b_rf b_ro b_im b_ke u_fd b_tp u_td u_fr u_to u_so u_wo u_fa u_bd u_nc b_nl u_co b_op b_ar u_le b_pi b_pa u_pd u_od b_ws b_hw k62_la b_se b_re k62_bk k62_va k62_su k62_ce k62_ho k62_wy k62_bt k62_ps b_pt k62_tg k62_sn b_ip u_ic b_ah b_be b_me u_wd b_tr b_ld u_st b_wn u_id)), (b_ro, (arI G 5740 v_ro)), (b_se, (arJ G 13 k62_se)), (b_re, (arJ G 400 k62_re)), (b_pt, (arI G 200 k62_pt)), (b_tr, (arZ G 1536 k62_tr)), (b_ld, (arZ G 1536 k253_ld))] hP hD (fun hP hD => ?_)
            refine lv_iload hx hb dX12_findSoonest_253 (lv_at hl 0 rfl) ?_
            refine lv_iconst (v := 5) hx hb dX12_findSoonest_255 (by decide) ?_
            refine lv_icmp_ge (tgt := 368) hx hb dX12_findSoonest_256 (by decide) (fun c_80 => ?_) (fun c_80 => ?_)
            ·
              have i_80 : k253_7.toInt ≥ 5 := by have z := g5_ge (a := k253_7.toInt) (b := 5) (by rfl) (by decide) c_80; omega
              refine lv_iinc (v := (k243_6 + 1)) (lv' := [(6, .int (k243_6 + 1)), (7, .int k253_7), (5, .int k234_5), (4, .int k62_4), (0, .ref b_o), (1, .int p_1), (2, .int p_2), (3, .int p_3)]) hx hb dX12_findSoonest_368 hl (k := 1) rfl rfl (by decide) rfl (fun ls hl => ?_)
              have t_81 : (k243_6 + 1).toInt = k243_6.toInt + 1 := g5_iadd (a := k243_6.toInt) (b := 1) rfl (by decide) (by omega) (by omega)
              refine lv_goto (tgt := 243) hx hb dX12_findSoonest_371 (by decide) ?_
              exact ih_243_75 ((k243_6 + 1), k253_ld) ls H locs (show Int.toNat (64 - (k243_6 + 1).toInt) < Int.toNat (64 - k243_6.toInt) from g_up (show k243_6.toInt < (k243_6 + 1).toInt by omega) (show k243_6.toInt < 64 by omega)) ⟨lv_sub hl [0, 2, 3, 4, 5, 6, 7] rfl, hP, hD, hS, ⟨by omega, by omega⟩⟩
            ·
              have i_80 : k253_7.toInt < 5 := by have z := g5_geN (a := k253_7.toInt) (b := 5) (by rfl) (by decide) c_80; omega
              refine lv_iload hx hb dX12_findSoonest_259 (lv_at hl 0 rfl) ?_
              refine lv_iconst (v := 4) hx hb dX12_findSoonest_261 (by decide) ?_
              refine lv_icmp_ne (tgt := 270) hx hb dX12_findSoonest_262 (by decide) (fun c_82 => ?_) (fun c_82 => ?_)
              ·
                have n_82 : gNe (k253_7.toInt) (4) := by have z := g5_ne (a := k253_7.toInt) (b := 4) (by rfl) (by decide) c_82; unfold gNe; omega
                have i_82 : k253_7.toInt ≤ 3 := by have z := g5_ne (a := k253_7.toInt) (b := 4) (by rfl) (by decide) c_82; omega
                refine lv_iload hx hb dX12_findSoonest_270 (lv_at hl 1 rfl) ?_
                refine lv_iload hx hb dX12_findSoonest_272 (lv_at hl 0 rfl) ?_
                obtain ⟨hPc, hDc, hFc⟩ := g5_sub3 (wc := []) hP hD hS hA [] (by decide) rfl
                refine va_calli (va_runS (As := [.int k243_6, .int k253_7]) (rest := []) ⟨hx, hb, hml, hown, hts⟩ (n_beside l G H.size k243_6 k253_7 ⟨by omega, by omega⟩) (va_cwS 2 hts gS_X12_374 rfl rfl rfl hs_X12_beside ⟨Nat.le_of_ble_eq_true rfl, Nat.le_of_ble_eq_true rfl⟩) (g5_preS hPc hK hDc hN hT hS hFc) rfl rfl hl.1 rfl (lv_room (Nat.le_of_ble_eq_true rfl)) dX12_findSoonest_274 ⟨Nat.le_of_ble_eq_true rfl, Nat.le_of_ble_eq_true rfl⟩) hS (fun q _ h => hFc q h) hFc (fun r u t H1 locs ht hvm hw hB hz1 hk1 hS => ?_)
                obtain ⟨hP1, hD1⟩ := hB
                rw [ht] at hP1
                obtain ⟨z84, i_83, y85, rfl⟩ := hw
                have i_83 : -1 ≤ z84.toInt ∧ z84.toInt ≤ 63 := i_83
                have hP := g5_same hP hk1
                generalize H1 = H at hP hS ⊢
                refine g5_ti (v := z84) y85 ?_
                refine lv_istore (lv' := [(8, .int z84), (7, .int k253_7), (6, .int k243_6), (5, .int k234_5), (4, .int k62_4), (0, .ref b_o), (1, .int p_1), (2, .int p_2), (3, .int p_3)]) hx hb dX12_findSoonest_277 hl (by decide) rfl (fun ls hl => ?_)
                refine lv_aload_n hx hb dX12_findSoonest_279 rfl (lv_at hl 5 rfl) ?_
                refine va_get (D := G.1) (ci := 12) (v := .ref b_ld) (C := RX12) (T := TX12) (N := 52) hx hb hts inG_X12 hown hK hP 0 rfl rfl 48 (by decide) (hts _ fl_X12_101) (fun _ h9 => h9) rfl dX12_findSoonest_280 ?_
                refine lv_bipush (v := 64) hx hb dX12_findSoonest_283 (by decide) ?_
                refine lv_iload hx hb dX12_findSoonest_285 (lv_at hl 3 rfl) ?_
                refine lv_imul hx hb dX12_findSoonest_287 ?_
                have t_86 : (64 * k234_5).toInt = 64 * k234_5.toInt := g5_imul (a := 64) (b := k234_5.toInt) (by decide) (by rfl) (by omega) (by omega)
                refine lv_iload hx hb dX12_findSoonest_288 (lv_at hl 2 rfl) ?_
                refine lv_iadd hx hb dX12_findSoonest_290 ?_
                have t_87 : ((64 * k234_5) + k243_6).toInt = (64 * k234_5).toInt + k243_6.toInt := g5_iadd (a := (64 * k234_5).toInt) (b := k243_6.toInt) (by rfl) (by rfl) (by omega) (by omega)
                refine lv_aload_n hx hb dX12_findSoonest_291 rfl (lv_at hl 5 rfl) ?_
                refine va_get (D := G.1) (ci := 12) (v := .ref b_ld) (C := RX12) (T := TX12) (N := 52) hx hb hts inG_X12 hown hK hP 0 rfl rfl 48 (by decide) (hts _ fl_X12_101) (fun _ h9 => h9) rfl dX12_findSoonest_292 ?_
                refine lv_bipush (v := 64) hx hb dX12_findSoonest_295 (by decide) ?_
                refine lv_iload hx hb dX12_findSoonest_297 (lv_at hl 3 rfl) ?_
                refine lv_imul hx hb dX12_findSoonest_299 ?_
                have t_88 : (64 * k234_5).toInt = 64 * k234_5.toInt := g5_imul (a := 64) (b := k234_5.toInt) (by decide) (by rfl) (by omega) (by omega)
                refine lv_iload hx hb dX12_findSoonest_300 (lv_at hl 2 rfl) ?_
                refine lv_iadd hx hb dX12_findSoonest_302 ?_
                have t_89 : ((64 * k234_5) + k243_6).toInt = (64 * k234_5).toInt + k243_6.toInt := g5_iadd (a := (64 * k234_5).toInt) (b := k243_6.toInt) (by rfl) (by rfl) (by omega) (by omega)
                refine va_zald hx hb hK hP 6 2 rfl rfl (i := ((64 * k234_5) + k243_6)) (vp_in_iff.mpr ⟨by omega, by omega⟩) dX12_findSoonest_303 ?_
                refine lv_if_ne (tgt := 356) hx hb dX12_findSoonest_304 (by decide) (fun c_90 => ?_) (fun c_90 => ?_)
                ·
                  have n_90 : gNe ((k253_ld ((64 * k234_5) + k243_6).toNatClampNeg).toInt) (0) := by have z := g5_ne (a := (k253_ld ((64 * k234_5) + k243_6).toNatClampNeg).toInt) (b := 0) (by rfl) (by decide) c_90; unfold gNe; omega
                  refine lv_iconst (v := 1) hx hb dX12_findSoonest_356 (by decide) ?_
                  refine lv_goto (tgt := 361) hx hb dX12_findSoonest_357 (by decide) ?_
                  refine va_zast hx hb hK hP hD hS 6 2 rfl rfl (i := ((64 * k234_5) + k243_6)) (x := 1) (vp_in_iff.mpr ⟨by omega, by omega⟩) dX12_findSoonest_361 (fun H locs hP hD hS => ?_)
                  refine g5_rs [(b_o, (oc12 u_th u_sa b_rf b_ro b_im b_ke u_fd b_tp u_td u_fr u_to u_so u_wo u_fa u_bd u_nc b_nl u_co b_op b_ar u_le b_pi b_pa u_pd u_od b_ws b_hw k62_la b_se b_re k62_bk k62_va k62_su k62_ce k62_ho k62_wy k62_bt k62_ps b_pt k62_tg k62_sn b_ip u_ic b_ah b_be b_me u_wd b_tr b_ld u_st b_wn u_id)), (b_ro, (arI G 5740 v_ro)), (b_se, (arJ G 13 k62_se)), (b_re, (arJ G 400 k62_re)), (b_pt, (arI G 200 k62_pt)), (b_tr, (arZ G 1536 k62_tr)), (b_ld, (arZ G 1536 (upd k253_ld ((64 * k234_5) + k243_6).toNatClampNeg 1)))] hP hD (fun hP hD => ?_)
                  refine lv_iinc (v := (k253_7 + 1)) (lv' := [(7, .int (k253_7 + 1)), (8, .int z84), (6, .int k243_6), (5, .int k234_5), (4, .int k62_4), (0, .ref b_o), (1, .int p_1), (2, .int p_2), (3, .int p_3)]) hx hb dX12_findSoonest_362 hl (k := 1) rfl rfl (by decide) rfl (fun ls hl => ?_)
                  have t_91 : (k253_7 + 1).toInt = k253_7.toInt + 1 := g5_iadd (a := k253_7.toInt) (b := 1) rfl (by decide) (by omega) (by omega)
                  refine lv_goto (tgt := 253) hx hb dX12_findSoonest_365 (by decide) ?_
                  exact ih_253_79 ((k253_7 + 1), (upd k253_ld ((64 * k234_5) + k243_6).toNatClampNeg 1)) ls H locs (show Int.toNat (5 - (k253_7 + 1).toInt) < Int.toNat (5 - k253_7.toInt) from g_up (show k253_7.toInt < (k253_7 + 1).toInt by omega) (show k253_7.toInt < 5 by omega)) ⟨lv_sub hl [0, 2, 3, 4, 5, 6, 7, 8] rfl, hP, hD, hS, ⟨by omega, by omega⟩⟩
                ·
                  have i_90 : (k253_ld ((64 * k234_5) + k243_6).toNatClampNeg).toInt = 0 := by have z := g5_neN (a := (k253_ld ((64 * k234_5) + k243_6).toNatClampNeg).toInt) (b := 0) (by rfl) (by decide) c_90; omega
                  refine lv_aload_n hx hb dX12_findSoonest_307 rfl (lv_at hl 5 rfl) ?_
                  refine va_get (D := G.1) (ci := 12) (v := .ref b_tr) (C := RX12) (T := TX12) (N := 52) hx hb hts inG_X12 hown hK hP 0 rfl rfl 47 (by decide) (hts _ fl_X12_98) (fun _ h9 => h9) rfl dX12_findSoonest_308 ?_
                  refine lv_bipush (v := 64) hx hb dX12_findSoonest_311 (by decide) ?_
                  refine lv_iload hx hb dX12_findSoonest_313 (lv_at hl 3 rfl) ?_
                  refine lv_imul hx hb dX12_findSoonest_315 ?_
                  have t_92 : (64 * k234_5).toInt = 64 * k234_5.toInt := g5_imul (a := 64) (b := k234_5.toInt) (by decide) (by rfl) (by omega) (by omega)
                  refine lv_iload hx hb dX12_findSoonest_316 (lv_at hl 2 rfl) ?_
                  refine lv_iadd hx hb dX12_findSoonest_318 ?_
                  have t_93 : ((64 * k234_5) + k243_6).toInt = (64 * k234_5).toInt + k243_6.toInt := g5_iadd (a := (64 * k234_5).toInt) (b := k243_6.toInt) (by rfl) (by rfl) (by omega) (by omega)
                  refine va_zald hx hb hK hP 5 2 rfl rfl (i := ((64 * k234_5) + k243_6)) (vp_in_iff.mpr ⟨by omega, by omega⟩) dX12_findSoonest_319 ?_
                  refine lv_if_eq (tgt := 360) hx hb dX12_findSoonest_320 (by decide) (fun c_94 => ?_) (fun c_94 => ?_)
                  ·
                    have i_94 : (k62_tr ((64 * k234_5) + k243_6).toNatClampNeg).toInt = 0 := by have z := g5_eq (a := (k62_tr ((64 * k234_5) + k243_6).toNatClampNeg).toInt) (b := 0) (by rfl) (by decide) c_94; omega
                    refine lv_iconst (v := 0) hx hb dX12_findSoonest_360 (by decide) ?_
                    refine va_zast hx hb hK hP hD hS 6 2 rfl rfl (i := ((64 * k234_5) + k243_6)) (x := 0) (vp_in_iff.mpr ⟨by omega, by omega⟩) dX12_findSoonest_361 (fun H locs hP hD hS => ?_)
                    refine g5_rs [(b_o, (oc12 u_th u_sa b_rf b_ro b_im b_ke u_fd b_tp u_td u_fr u_to u_so u_wo u_fa u_bd u_nc b_nl u_co b_op b_ar u_le b_pi b_pa u_pd u_od b_ws b_hw k62_la b_se b_re k62_bk k62_va k62_su k62_ce k62_ho k62_wy k62_bt k62_ps b_pt k62_tg k62_sn b_ip u_ic b_ah b_be b_me u_wd b_tr b_ld u_st b_wn u_id)), (b_ro, (arI G 5740 v_ro)), (b_se, (arJ G 13 k62_se)), (b_re, (arJ G 400 k62_re)), (b_pt, (arI G 200 k62_pt)), (b_tr, (arZ G 1536 k62_tr)), (b_ld, (arZ G 1536 (upd k253_ld ((64 * k234_5) + k243_6).toNatClampNeg 0)))] hP hD (fun hP hD => ?_)
                    refine lv_iinc (v := (k253_7 + 1)) (lv' := [(7, .int (k253_7 + 1)), (8, .int z84), (6, .int k243_6), (5, .int k234_5), (4, .int k62_4), (0, .ref b_o), (1, .int p_1), (2, .int p_2), (3, .int p_3)]) hx hb dX12_findSoonest_362 hl (k := 1) rfl rfl (by decide) rfl (fun ls hl => ?_)
                    have t_95 : (k253_7 + 1).toInt = k253_7.toInt + 1 := g5_iadd (a := k253_7.toInt) (b := 1) rfl (by decide) (by omega) (by omega)
                    refine lv_goto (tgt := 253) hx hb dX12_findSoonest_365 (by decide) ?_
                    exact ih_253_79 ((k253_7 + 1), (upd k253_ld ((64 * k234_5) + k243_6).toNatClampNeg 0)) ls H locs (show Int.toNat (5 - (k253_7 + 1).toInt) < Int.toNat (5 - k253_7.toInt) from g_up (show k253_7.toInt < (k253_7 + 1).toInt by omega) (show k253_7.toInt < 5 by omega)) ⟨lv_sub hl [0, 2, 3, 4, 5, 6, 7, 8] rfl, hP, hD, hS, ⟨by omega, by omega⟩⟩
                  ·
                    have n_94 : gNe ((k62_tr ((64 * k234_5) + k243_6).toNatClampNeg).toInt) (0) := by have z := g5_eqN (a := (k62_tr ((64 * k234_5) + k243_6).toNatClampNeg).toInt) (b := 0) (by rfl) (by decide) c_94; unfold gNe; omega
                    refine lv_iload hx hb dX12_findSoonest_323 (lv_at hl 0 rfl) ?_
                    refine lv_iconst (v := (-1)) hx hb dX12_findSoonest_325 (by decide) ?_
                    refine lv_icmp_eq (tgt := 360) hx hb dX12_findSoonest_326 (by decide) (fun c_96 => ?_) (fun c_96 => ?_)
                    ·
                      have i_96 : z84.toInt = (-1) := by have z := g5_eq (a := z84.toInt) (b := (-1)) (by rfl) (by decide) c_96; omega
                      refine lv_iconst (v := 0) hx hb dX12_findSoonest_360 (by decide) ?_
                      refine va_zast hx hb hK hP hD hS 6 2 rfl rfl (i := ((64 * k234_5) + k243_6)) (x := 0) (vp_in_iff.mpr ⟨by omega, by omega⟩) dX12_findSoonest_361 (fun H locs hP hD hS => ?_)
                      refine g5_rs [(b_o, (oc12 u_th u_sa b_rf b_ro b_im b_ke u_fd b_tp u_td u_fr u_to u_so u_wo u_fa u_bd u_nc b_nl u_co b_op b_ar u_le b_pi b_pa u_pd u_od b_ws b_hw k62_la b_se b_re k62_bk k62_va k62_su k62_ce k62_ho k62_wy k62_bt k62_ps b_pt k62_tg k62_sn b_ip u_ic b_ah b_be b_me u_wd b_tr b_ld u_st b_wn u_id)), (b_ro, (arI G 5740 v_ro)), (b_se, (arJ G 13 k62_se)), (b_re, (arJ G 400 k62_re)), (b_pt, (arI G 200 k62_pt)), (b_tr, (arZ G 1536 k62_tr)), (b_ld, (arZ G 1536 (upd k253_ld ((64 * k234_5) + k243_6).toNatClampNeg 0)))] hP hD (fun hP hD => ?_)
                      refine lv_iinc (v := (k253_7 + 1)) (lv' := [(7, .int (k253_7 + 1)), (8, .int z84), (6, .int k243_6), (5, .int k234_5), (4, .int k62_4), (0, .ref b_o), (1, .int p_1), (2, .int p_2), (3, .int p_3)]) hx hb dX12_findSoonest_362 hl (k := 1) rfl rfl (by decide) rfl (fun ls hl => ?_)
                      have t_97 : (k253_7 + 1).toInt = k253_7.toInt + 1 := g5_iadd (a := k253_7.toInt) (b := 1) rfl (by decide) (by omega) (by omega)
                      refine lv_goto (tgt := 253) hx hb dX12_findSoonest_365 (by decide) ?_
                      exact ih_253_79 ((k253_7 + 1), (upd k253_ld ((64 * k234_5) + k243_6).toNatClampNeg 0)) ls H locs (show Int.toNat (5 - (k253_7 + 1).toInt) < Int.toNat (5 - k253_7.toInt) from g_up (show k253_7.toInt < (k253_7 + 1).toInt by omega) (show k253_7.toInt < 5 by omega)) ⟨lv_sub hl [0, 2, 3, 4, 5, 6, 7, 8] rfl, hP, hD, hS, ⟨by omega, by omega⟩⟩
                    ·
                      have n_96 : gNe (z84.toInt) ((-1)) := by have z := g5_eqN (a := z84.toInt) (b := (-1)) (by rfl) (by decide) c_96; unfold gNe; omega
                      have i_96 : z84.toInt ≥ 0 := by have z := g5_eqN (a := z84.toInt) (b := (-1)) (by rfl) (by decide) c_96; omega
                      refine lv_aload_n hx hb dX12_findSoonest_329 rfl (lv_at hl 5 rfl) ?_
                      refine va_get (D := G.1) (ci := 12) (v := .ref b_ld) (C := RX12) (T := TX12) (N := 52) hx hb hts inG_X12 hown hK hP 0 rfl rfl 48 (by decide) (hts _ fl_X12_101) (fun _ h9 => h9) rfl dX12_findSoonest_330 ?_
                      refine lv_bipush (v := 64) hx hb dX12_findSoonest_333 (by decide) ?_
                      refine lv_iload hx hb dX12_findSoonest_335 (lv_at hl 3 rfl) ?_
                      refine lv_iconst (v := 1) hx hb dX12_findSoonest_337 (by decide) ?_
                      refine lv_iadd hx hb dX12_findSoonest_338 ?_
                      have t_98 : (k234_5 + 1).toInt = k234_5.toInt + 1 := g5_iadd (a := k234_5.toInt) (b := 1) (by rfl) (by decide) (by omega) (by omega)
                      refine lv_imul hx hb dX12_findSoonest_339 ?_
                      have t_99 : (64 * (k234_5 + 1)).toInt = 64 * (k234_5 + 1).toInt := g5_imul (a := 64) (b := (k234_5 + 1).toInt) (by decide) (by rfl) (by omega) (by omega)
                      refine lv_iload hx hb dX12_findSoonest_340 (lv_at hl 0 rfl) ?_
                      refine lv_if_ge (tgt := 349) hx hb dX12_findSoonest_342 (by decide) (fun c_100 => ?_) (fun c_100 => ?_)
                      ·
                        have i_100 : z84.toInt ≥ 0 := by have z := g5_ge (a := z84.toInt) (b := 0) (by rfl) (by decide) c_100; omega
                        refine lv_iload hx hb dX12_findSoonest_349 (lv_at hl 0 rfl) ?_
                        refine lv_iadd hx hb dX12_findSoonest_351 ?_
                        have t_101 : ((64 * (k234_5 + 1)) + z84).toInt = (64 * (k234_5 + 1)).toInt + z84.toInt := g5_iadd (a := (64 * (k234_5 + 1)).toInt) (b := z84.toInt) (by rfl) (by rfl) (by omega) (by omega)
                        refine va_zald hx hb hK hP 6 2 rfl rfl (i := ((64 * (k234_5 + 1)) + z84)) (vp_in_iff.mpr ⟨by omega, by omega⟩) dX12_findSoonest_352 ?_
                        refine lv_if_eq (tgt := 360) hx hb dX12_findSoonest_353 (by decide) (fun c_102 => ?_) (fun c_102 => ?_)
                        ·
                          have i_102 : (k253_ld ((64 * (k234_5 + 1)) + z84).toNatClampNeg).toInt = 0 := by have z := g5_eq (a := (k253_ld ((64 * (k234_5 + 1)) + z84).toNatClampNeg).toInt) (b := 0) (by rfl) (by decide) c_102; omega
                          refine lv_iconst (v := 0) hx hb dX12_findSoonest_360 (by decide) ?_
                          refine va_zast hx hb hK hP hD hS 6 2 rfl rfl (i := ((64 * k234_5) + k243_6)) (x := 0) (vp_in_iff.mpr ⟨by omega, by omega⟩) dX12_findSoonest_361 (fun H locs hP hD hS => ?_)
                          refine g5_rs [(b_o, (oc12 u_th u_sa b_rf b_ro b_im b_ke u_fd b_tp u_td u_fr u_to u_so u_wo u_fa u_bd u_nc b_nl u_co b_op b_ar u_le b_pi b_pa u_pd u_od b_ws b_hw k62_la b_se b_re k62_bk k62_va k62_su k62_ce k62_ho k62_wy k62_bt k62_ps b_pt k62_tg k62_sn b_ip u_ic b_ah b_be b_me u_wd b_tr b_ld u_st b_wn u_id)), (b_ro, (arI G 5740 v_ro)), (b_se, (arJ G 13 k62_se)), (b_re, (arJ G 400 k62_re)), (b_pt, (arI G 200 k62_pt)), (b_tr, (arZ G 1536 k62_tr)), (b_ld, (arZ G 1536 (upd k253_ld ((64 * k234_5) + k243_6).toNatClampNeg 0)))] hP hD (fun hP hD => ?_)
                          refine lv_iinc (v := (k253_7 + 1)) (lv' := [(7, .int (k253_7 + 1)), (8, .int z84), (6, .int k243_6), (5, .int k234_5), (4, .int k62_4), (0, .ref b_o), (1, .int p_1), (2, .int p_2), (3, .int p_3)]) hx hb dX12_findSoonest_362 hl (k := 1) rfl rfl (by decide) rfl (fun ls hl => ?_)
                          have t_103 : (k253_7 + 1).toInt = k253_7.toInt + 1 := g5_iadd (a := k253_7.toInt) (b := 1) rfl (by decide) (by omega) (by omega)
                          refine lv_goto (tgt := 253) hx hb dX12_findSoonest_365 (by decide) ?_
                          exact ih_253_79 ((k253_7 + 1), (upd k253_ld ((64 * k234_5) + k243_6).toNatClampNeg 0)) ls H locs (show Int.toNat (5 - (k253_7 + 1).toInt) < Int.toNat (5 - k253_7.toInt) from g_up (show k253_7.toInt < (k253_7 + 1).toInt by omega) (show k253_7.toInt < 5 by omega)) ⟨lv_sub hl [0, 2, 3, 4, 5, 6, 7, 8] rfl, hP, hD, hS, ⟨by omega, by omega⟩⟩
                        ·
                          have n_102 : gNe ((k253_ld ((64 * (k234_5 + 1)) + z84).toNatClampNeg).toInt) (0) := by have z := g5_eqN (a := (k253_ld ((64 * (k234_5 + 1)) + z84).toNatClampNeg).toInt) (b := 0) (by rfl) (by decide) c_102; unfold gNe; omega
                          refine lv_iconst (v := 1) hx hb dX12_findSoonest_356 (by decide) ?_
                          refine lv_goto (tgt := 361) hx hb dX12_findSoonest_357 (by decide) ?_
                          refine va_zast hx hb hK hP hD hS 6 2 rfl rfl (i := ((64 * k234_5) + k243_6)) (x := 1) (vp_in_iff.mpr ⟨by omega, by omega⟩) dX12_findSoonest_361 (fun H locs hP hD hS => ?_)
                          refine g5_rs [(b_o, (oc12 u_th u_sa b_rf b_ro b_im b_ke u_fd b_tp u_td u_fr u_to u_so u_wo u_fa u_bd u_nc b_nl u_co b_op b_ar u_le b_pi b_pa u_pd u_od b_ws b_hw k62_la b_se b_re k62_bk k62_va k62_su k62_ce k62_ho k62_wy k62_bt k62_ps b_pt k62_tg k62_sn b_ip u_ic b_ah b_be b_me u_wd b_tr b_ld u_st b_wn u_id)), (b_ro, (arI G 5740 v_ro)), (b_se, (arJ G 13 k62_se)), (b_re, (arJ G 400 k62_re)), (b_pt, (arI G 200 k62_pt)), (b_tr, (arZ G 1536 k62_tr)), (b_ld, (arZ G 1536 (upd k253_ld ((64 * k234_5) + k243_6).toNatClampNeg 1)))] hP hD (fun hP hD => ?_)
                          refine lv_iinc (v := (k253_7 + 1)) (lv' := [(7, .int (k253_7 + 1)), (8, .int z84), (6, .int k243_6), (5, .int k234_5), (4, .int k62_4), (0, .ref b_o), (1, .int p_1), (2, .int p_2), (3, .int p_3)]) hx hb dX12_findSoonest_362 hl (k := 1) rfl rfl (by decide) rfl (fun ls hl => ?_)
                          have t_104 : (k253_7 + 1).toInt = k253_7.toInt + 1 := g5_iadd (a := k253_7.toInt) (b := 1) rfl (by decide) (by omega) (by omega)
                          refine lv_goto (tgt := 253) hx hb dX12_findSoonest_365 (by decide) ?_
                          exact ih_253_79 ((k253_7 + 1), (upd k253_ld ((64 * k234_5) + k243_6).toNatClampNeg 1)) ls H locs (show Int.toNat (5 - (k253_7 + 1).toInt) < Int.toNat (5 - k253_7.toInt) from g_up (show k253_7.toInt < (k253_7 + 1).toInt by omega) (show k253_7.toInt < 5 by omega)) ⟨lv_sub hl [0, 2, 3, 4, 5, 6, 7, 8] rfl, hP, hD, hS, ⟨by omega, by omega⟩⟩
                      ·
                        have i_100 : z84.toInt < 0 := by have z := g5_geN (a := z84.toInt) (b := 0) (by rfl) (by decide) c_100; omega
                        omega
              ·
                have i_82 : k253_7.toInt = 4 := by have z := g5_neN (a := k253_7.toInt) (b := 4) (by rfl) (by decide) c_82; omega
                refine lv_iload hx hb dX12_findSoonest_265 (lv_at hl 1 rfl) ?_
                refine lv_goto (tgt := 277) hx hb dX12_findSoonest_267 (by decide) ?_
                refine lv_istore (lv' := [(8, .int k243_6), (7, .int k253_7), (6, .int k243_6), (5, .int k234_5), (4, .int k62_4), (0, .ref b_o), (1, .int p_1), (2, .int p_2), (3, .int p_3)]) hx hb dX12_findSoonest_277 hl (by decide) rfl (fun ls hl => ?_)
                refine lv_aload_n hx hb dX12_findSoonest_279 rfl (lv_at hl 5 rfl) ?_
                refine va_get (D := G.1) (ci := 12) (v := .ref b_ld) (C := RX12) (T := TX12) (N := 52) hx hb hts inG_X12 hown hK hP 0 rfl rfl 48 (by decide) (hts _ fl_X12_101) (fun _ h9 => h9) rfl dX12_findSoonest_280 ?_
                refine lv_bipush (v := 64) hx hb dX12_findSoonest_283 (by decide) ?_
                refine lv_iload hx hb dX12_findSoonest_285 (lv_at hl 3 rfl) ?_
                refine lv_imul hx hb dX12_findSoonest_287 ?_
                have t_105 : (64 * k234_5).toInt = 64 * k234_5.toInt := g5_imul (a := 64) (b := k234_5.toInt) (by decide) (by rfl) (by omega) (by omega)
                refine lv_iload hx hb dX12_findSoonest_288 (lv_at hl 2 rfl) ?_
                refine lv_iadd hx hb dX12_findSoonest_290 ?_
                have t_106 : ((64 * k234_5) + k243_6).toInt = (64 * k234_5).toInt + k243_6.toInt := g5_iadd (a := (64 * k234_5).toInt) (b := k243_6.toInt) (by rfl) (by rfl) (by omega) (by omega)
                refine lv_aload_n hx hb dX12_findSoonest_291 rfl (lv_at hl 5 rfl) ?_
                refine va_get (D := G.1) (ci := 12) (v := .ref b_ld) (C := RX12) (T := TX12) (N := 52) hx hb hts inG_X12 hown hK hP 0 rfl rfl 48 (by decide) (hts _ fl_X12_101) (fun _ h9 => h9) rfl dX12_findSoonest_292 ?_
                refine lv_bipush (v := 64) hx hb dX12_findSoonest_295 (by decide) ?_
                refine lv_iload hx hb dX12_findSoonest_297 (lv_at hl 3 rfl) ?_
                refine lv_imul hx hb dX12_findSoonest_299 ?_
                have t_107 : (64 * k234_5).toInt = 64 * k234_5.toInt := g5_imul (a := 64) (b := k234_5.toInt) (by decide) (by rfl) (by omega) (by omega)
                refine lv_iload hx hb dX12_findSoonest_300 (lv_at hl 2 rfl) ?_
                refine lv_iadd hx hb dX12_findSoonest_302 ?_
                have t_108 : ((64 * k234_5) + k243_6).toInt = (64 * k234_5).toInt + k243_6.toInt := g5_iadd (a := (64 * k234_5).toInt) (b := k243_6.toInt) (by rfl) (by rfl) (by omega) (by omega)
                refine va_zald hx hb hK hP 6 2 rfl rfl (i := ((64 * k234_5) + k243_6)) (vp_in_iff.mpr ⟨by omega, by omega⟩) dX12_findSoonest_303 ?_
                refine lv_if_ne (tgt := 356) hx hb dX12_findSoonest_304 (by decide) (fun c_109 => ?_) (fun c_109 => ?_)
                ·
                  have n_109 : gNe ((k253_ld ((64 * k234_5) + k243_6).toNatClampNeg).toInt) (0) := by have z := g5_ne (a := (k253_ld ((64 * k234_5) + k243_6).toNatClampNeg).toInt) (b := 0) (by rfl) (by decide) c_109; unfold gNe; omega
                  refine lv_iconst (v := 1) hx hb dX12_findSoonest_356 (by decide) ?_
                  refine lv_goto (tgt := 361) hx hb dX12_findSoonest_357 (by decide) ?_
                  refine va_zast hx hb hK hP hD hS 6 2 rfl rfl (i := ((64 * k234_5) + k243_6)) (x := 1) (vp_in_iff.mpr ⟨by omega, by omega⟩) dX12_findSoonest_361 (fun H locs hP hD hS => ?_)
                  refine g5_rs [(b_o, (oc12 u_th u_sa b_rf b_ro b_im b_ke u_fd b_tp u_td u_fr u_to u_so u_wo u_fa u_bd u_nc b_nl u_co b_op b_ar u_le b_pi b_pa u_pd u_od b_ws b_hw k62_la b_se b_re k62_bk k62_va k62_su k62_ce k62_ho k62_wy k62_bt k62_ps b_pt k62_tg k62_sn b_ip u_ic b_ah b_be b_me u_wd b_tr b_ld u_st b_wn u_id)), (b_ro, (arI G 5740 v_ro)), (b_se, (arJ G 13 k62_se)), (b_re, (arJ G 400 k62_re)), (b_pt, (arI G 200 k62_pt)), (b_tr, (arZ G 1536 k62_tr)), (b_ld, (arZ G 1536 (upd k253_ld ((64 * k234_5) + k243_6).toNatClampNeg 1)))] hP hD (fun hP hD => ?_)
                  refine lv_iinc (v := (k253_7 + 1)) (lv' := [(7, .int (k253_7 + 1)), (8, .int k243_6), (6, .int k243_6), (5, .int k234_5), (4, .int k62_4), (0, .ref b_o), (1, .int p_1), (2, .int p_2), (3, .int p_3)]) hx hb dX12_findSoonest_362 hl (k := 1) rfl rfl (by decide) rfl (fun ls hl => ?_)
                  have t_110 : (k253_7 + 1).toInt = k253_7.toInt + 1 := g5_iadd (a := k253_7.toInt) (b := 1) rfl (by decide) (by omega) (by omega)
                  refine lv_goto (tgt := 253) hx hb dX12_findSoonest_365 (by decide) ?_
                  exact ih_253_79 ((k253_7 + 1), (upd k253_ld ((64 * k234_5) + k243_6).toNatClampNeg 1)) ls H locs (show Int.toNat (5 - (k253_7 + 1).toInt) < Int.toNat (5 - k253_7.toInt) from g_up (show k253_7.toInt < (k253_7 + 1).toInt by omega) (show k253_7.toInt < 5 by omega)) ⟨lv_sub hl [0, 2, 3, 4, 5, 6, 7, 8] rfl, hP, hD, hS, ⟨by omega, by omega⟩⟩
                ·
                  have i_109 : (k253_ld ((64 * k234_5) + k243_6).toNatClampNeg).toInt = 0 := by have z := g5_neN (a := (k253_ld ((64 * k234_5) + k243_6).toNatClampNeg).toInt) (b := 0) (by rfl) (by decide) c_109; omega
                  refine lv_aload_n hx hb dX12_findSoonest_307 rfl (lv_at hl 5 rfl) ?_
                  refine va_get (D := G.1) (ci := 12) (v := .ref b_tr) (C := RX12) (T := TX12) (N := 52) hx hb hts inG_X12 hown hK hP 0 rfl rfl 47 (by decide) (hts _ fl_X12_98) (fun _ h9 => h9) rfl dX12_findSoonest_308 ?_
                  refine lv_bipush (v := 64) hx hb dX12_findSoonest_311 (by decide) ?_
                  refine lv_iload hx hb dX12_findSoonest_313 (lv_at hl 3 rfl) ?_
                  refine lv_imul hx hb dX12_findSoonest_315 ?_
                  have t_111 : (64 * k234_5).toInt = 64 * k234_5.toInt := g5_imul (a := 64) (b := k234_5.toInt) (by decide) (by rfl) (by omega) (by omega)
                  refine lv_iload hx hb dX12_findSoonest_316 (lv_at hl 2 rfl) ?_
                  refine lv_iadd hx hb dX12_findSoonest_318 ?_
                  have t_112 : ((64 * k234_5) + k243_6).toInt = (64 * k234_5).toInt + k243_6.toInt := g5_iadd (a := (64 * k234_5).toInt) (b := k243_6.toInt) (by rfl) (by rfl) (by omega) (by omega)
                  refine va_zald hx hb hK hP 5 2 rfl rfl (i := ((64 * k234_5) + k243_6)) (vp_in_iff.mpr ⟨by omega, by omega⟩) dX12_findSoonest_319 ?_
                  refine lv_if_eq (tgt := 360) hx hb dX12_findSoonest_320 (by decide) (fun c_113 => ?_) (fun c_113 => ?_)
                  ·
                    have i_113 : (k62_tr ((64 * k234_5) + k243_6).toNatClampNeg).toInt = 0 := by have z := g5_eq (a := (k62_tr ((64 * k234_5) + k243_6).toNatClampNeg).toInt) (b := 0) (by rfl) (by decide) c_113; omega
                    refine lv_iconst (v := 0) hx hb dX12_findSoonest_360 (by decide) ?_
                    refine va_zast hx hb hK hP hD hS 6 2 rfl rfl (i := ((64 * k234_5) + k243_6)) (x := 0) (vp_in_iff.mpr ⟨by omega, by omega⟩) dX12_findSoonest_361 (fun H locs hP hD hS => ?_)
                    refine g5_rs [(b_o, (oc12 u_th u_sa b_rf b_ro b_im b_ke u_fd b_tp u_td u_fr u_to u_so u_wo u_fa u_bd u_nc b_nl u_co b_op b_ar u_le b_pi b_pa u_pd u_od b_ws b_hw k62_la b_se b_re k62_bk k62_va k62_su k62_ce k62_ho k62_wy k62_bt k62_ps b_pt k62_tg k62_sn b_ip u_ic b_ah b_be b_me u_wd b_tr b_ld u_st b_wn u_id)), (b_ro, (arI G 5740 v_ro)), (b_se, (arJ G 13 k62_se)), (b_re, (arJ G 400 k62_re)), (b_pt, (arI G 200 k62_pt)), (b_tr, (arZ G 1536 k62_tr)), (b_ld, (arZ G 1536 (upd k253_ld ((64 * k234_5) + k243_6).toNatClampNeg 0)))] hP hD (fun hP hD => ?_)
                    refine lv_iinc (v := (k253_7 + 1)) (lv' := [(7, .int (k253_7 + 1)), (8, .int k243_6), (6, .int k243_6), (5, .int k234_5), (4, .int k62_4), (0, .ref b_o), (1, .int p_1), (2, .int p_2), (3, .int p_3)]) hx hb dX12_findSoonest_362 hl (k := 1) rfl rfl (by decide) rfl (fun ls hl => ?_)
                    have t_114 : (k253_7 + 1).toInt = k253_7.toInt + 1 := g5_iadd (a := k253_7.toInt) (b := 1) rfl (by decide) (by omega) (by omega)
                    refine lv_goto (tgt := 253) hx hb dX12_findSoonest_365 (by decide) ?_
                    exact ih_253_79 ((k253_7 + 1), (upd k253_ld ((64 * k234_5) + k243_6).toNatClampNeg 0)) ls H locs (show Int.toNat (5 - (k253_7 + 1).toInt) < Int.toNat (5 - k253_7.toInt) from g_up (show k253_7.toInt < (k253_7 + 1).toInt by omega) (show k253_7.toInt < 5 by omega)) ⟨lv_sub hl [0, 2, 3, 4, 5, 6, 7, 8] rfl, hP, hD, hS, ⟨by omega, by omega⟩⟩
                  ·
                    have n_113 : gNe ((k62_tr ((64 * k234_5) + k243_6).toNatClampNeg).toInt) (0) := by have z := g5_eqN (a := (k62_tr ((64 * k234_5) + k243_6).toNatClampNeg).toInt) (b := 0) (by rfl) (by decide) c_113; unfold gNe; omega
                    refine lv_iload hx hb dX12_findSoonest_323 (lv_at hl 0 rfl) ?_
                    refine lv_iconst (v := (-1)) hx hb dX12_findSoonest_325 (by decide) ?_
                    refine lv_icmp_eq (tgt := 360) hx hb dX12_findSoonest_326 (by decide) (fun c_115 => ?_) (fun c_115 => ?_)
                    ·
                      have i_115 : k243_6.toInt = (-1) := by have z := g5_eq (a := k243_6.toInt) (b := (-1)) (by rfl) (by decide) c_115; omega
                      omega
                    ·
                      have n_115 : gNe (k243_6.toInt) ((-1)) := by have z := g5_eqN (a := k243_6.toInt) (b := (-1)) (by rfl) (by decide) c_115; unfold gNe; omega
                      refine lv_aload_n hx hb dX12_findSoonest_329 rfl (lv_at hl 5 rfl) ?_
                      refine va_get (D := G.1) (ci := 12) (v := .ref b_ld) (C := RX12) (T := TX12) (N := 52) hx hb hts inG_X12 hown hK hP 0 rfl rfl 48 (by decide) (hts _ fl_X12_101) (fun _ h9 => h9) rfl dX12_findSoonest_330 ?_
                      refine lv_bipush (v := 64) hx hb dX12_findSoonest_333 (by decide) ?_
                      refine lv_iload hx hb dX12_findSoonest_335 (lv_at hl 3 rfl) ?_
                      refine lv_iconst (v := 1) hx hb dX12_findSoonest_337 (by decide) ?_
                      refine lv_iadd hx hb dX12_findSoonest_338 ?_
                      have t_116 : (k234_5 + 1).toInt = k234_5.toInt + 1 := g5_iadd (a := k234_5.toInt) (b := 1) (by rfl) (by decide) (by omega) (by omega)
                      refine lv_imul hx hb dX12_findSoonest_339 ?_
                      have t_117 : (64 * (k234_5 + 1)).toInt = 64 * (k234_5 + 1).toInt := g5_imul (a := 64) (b := (k234_5 + 1).toInt) (by decide) (by rfl) (by omega) (by omega)
                      refine lv_iload hx hb dX12_findSoonest_340 (lv_at hl 0 rfl) ?_
                      refine lv_if_ge (tgt := 349) hx hb dX12_findSoonest_342 (by decide) (fun c_118 => ?_) (fun c_118 => ?_)
                      ·
                        have i_118 : k243_6.toInt ≥ 0 := by have z := g5_ge (a := k243_6.toInt) (b := 0) (by rfl) (by decide) c_118; omega
                        refine lv_iload hx hb dX12_findSoonest_349 (lv_at hl 0 rfl) ?_
                        refine lv_iadd hx hb dX12_findSoonest_351 ?_
                        have t_119 : ((64 * (k234_5 + 1)) + k243_6).toInt = (64 * (k234_5 + 1)).toInt + k243_6.toInt := g5_iadd (a := (64 * (k234_5 + 1)).toInt) (b := k243_6.toInt) (by rfl) (by rfl) (by omega) (by omega)
                        refine va_zald hx hb hK hP 6 2 rfl rfl (i := ((64 * (k234_5 + 1)) + k243_6)) (vp_in_iff.mpr ⟨by omega, by omega⟩) dX12_findSoonest_352 ?_
                        refine lv_if_eq (tgt := 360) hx hb dX12_findSoonest_353 (by decide) (fun c_120 => ?_) (fun c_120 => ?_)
                        ·
                          have i_120 : (k253_ld ((64 * (k234_5 + 1)) + k243_6).toNatClampNeg).toInt = 0 := by have z := g5_eq (a := (k253_ld ((64 * (k234_5 + 1)) + k243_6).toNatClampNeg).toInt) (b := 0) (by rfl) (by decide) c_120; omega
                          refine lv_iconst (v := 0) hx hb dX12_findSoonest_360 (by decide) ?_
                          refine va_zast hx hb hK hP hD hS 6 2 rfl rfl (i := ((64 * k234_5) + k243_6)) (x := 0) (vp_in_iff.mpr ⟨by omega, by omega⟩) dX12_findSoonest_361 (fun H locs hP hD hS => ?_)
                          refine g5_rs [(b_o, (oc12 u_th u_sa b_rf b_ro b_im b_ke u_fd b_tp u_td u_fr u_to u_so u_wo u_fa u_bd u_nc b_nl u_co b_op b_ar u_le b_pi b_pa u_pd u_od b_ws b_hw k62_la b_se b_re k62_bk k62_va k62_su k62_ce k62_ho k62_wy k62_bt k62_ps b_pt k62_tg k62_sn b_ip u_ic b_ah b_be b_me u_wd b_tr b_ld u_st b_wn u_id)), (b_ro, (arI G 5740 v_ro)), (b_se, (arJ G 13 k62_se)), (b_re, (arJ G 400 k62_re)), (b_pt, (arI G 200 k62_pt)), (b_tr, (arZ G 1536 k62_tr)), (b_ld, (arZ G 1536 (upd k253_ld ((64 * k234_5) + k243_6).toNatClampNeg 0)))] hP hD (fun hP hD => ?_)
                          refine lv_iinc (v := (k253_7 + 1)) (lv' := [(7, .int (k253_7 + 1)), (8, .int k243_6), (6, .int k243_6), (5, .int k234_5), (4, .int k62_4), (0, .ref b_o), (1, .int p_1), (2, .int p_2), (3, .int p_3)]) hx hb dX12_findSoonest_362 hl (k := 1) rfl rfl (by decide) rfl (fun ls hl => ?_)
                          have t_121 : (k253_7 + 1).toInt = k253_7.toInt + 1 := g5_iadd (a := k253_7.toInt) (b := 1) rfl (by decide) (by omega) (by omega)
                          refine lv_goto (tgt := 253) hx hb dX12_findSoonest_365 (by decide) ?_
                          exact ih_253_79 ((k253_7 + 1), (upd k253_ld ((64 * k234_5) + k243_6).toNatClampNeg 0)) ls H locs (show Int.toNat (5 - (k253_7 + 1).toInt) < Int.toNat (5 - k253_7.toInt) from g_up (show k253_7.toInt < (k253_7 + 1).toInt by omega) (show k253_7.toInt < 5 by omega)) ⟨lv_sub hl [0, 2, 3, 4, 5, 6, 7, 8] rfl, hP, hD, hS, ⟨by omega, by omega⟩⟩
                        ·
                          have n_120 : gNe ((k253_ld ((64 * (k234_5 + 1)) + k243_6).toNatClampNeg).toInt) (0) := by have z := g5_eqN (a := (k253_ld ((64 * (k234_5 + 1)) + k243_6).toNatClampNeg).toInt) (b := 0) (by rfl) (by decide) c_120; unfold gNe; omega
                          refine lv_iconst (v := 1) hx hb dX12_findSoonest_356 (by decide) ?_
                          refine lv_goto (tgt := 361) hx hb dX12_findSoonest_357 (by decide) ?_
                          refine va_zast hx hb hK hP hD hS 6 2 rfl rfl (i := ((64 * k234_5) + k243_6)) (x := 1) (vp_in_iff.mpr ⟨by omega, by omega⟩) dX12_findSoonest_361 (fun H locs hP hD hS => ?_)
                          refine g5_rs [(b_o, (oc12 u_th u_sa b_rf b_ro b_im b_ke u_fd b_tp u_td u_fr u_to u_so u_wo u_fa u_bd u_nc b_nl u_co b_op b_ar u_le b_pi b_pa u_pd u_od b_ws b_hw k62_la b_se b_re k62_bk k62_va k62_su k62_ce k62_ho k62_wy k62_bt k62_ps b_pt k62_tg k62_sn b_ip u_ic b_ah b_be b_me u_wd b_tr b_ld u_st b_wn u_id)), (b_ro, (arI G 5740 v_ro)), (b_se, (arJ G 13 k62_se)), (b_re, (arJ G 400 k62_re)), (b_pt, (arI G 200 k62_pt)), (b_tr, (arZ G 1536 k62_tr)), (b_ld, (arZ G 1536 (upd k253_ld ((64 * k234_5) + k243_6).toNatClampNeg 1)))] hP hD (fun hP hD => ?_)
                          refine lv_iinc (v := (k253_7 + 1)) (lv' := [(7, .int (k253_7 + 1)), (8, .int k243_6), (6, .int k243_6), (5, .int k234_5), (4, .int k62_4), (0, .ref b_o), (1, .int p_1), (2, .int p_2), (3, .int p_3)]) hx hb dX12_findSoonest_362 hl (k := 1) rfl rfl (by decide) rfl (fun ls hl => ?_)
                          have t_122 : (k253_7 + 1).toInt = k253_7.toInt + 1 := g5_iadd (a := k253_7.toInt) (b := 1) rfl (by decide) (by omega) (by omega)
                          refine lv_goto (tgt := 253) hx hb dX12_findSoonest_365 (by decide) ?_
                          exact ih_253_79 ((k253_7 + 1), (upd k253_ld ((64 * k234_5) + k243_6).toNatClampNeg 1)) ls H locs (show Int.toNat (5 - (k253_7 + 1).toInt) < Int.toNat (5 - k253_7.toInt) from g_up (show k253_7.toInt < (k253_7 + 1).toInt by omega) (show k253_7.toInt < 5 by omega)) ⟨lv_sub hl [0, 2, 3, 4, 5, 6, 7, 8] rfl, hP, hD, hS, ⟨by omega, by omega⟩⟩
                      ·
                        have i_118 : k243_6.toInt < 0 := by have z := g5_geN (a := k243_6.toInt) (b := 0) (by rfl) (by decide) c_118; omega
                        omega
      ·
        have i_69 : k62_4.toInt = (-1) := by have z := g5_neN (a := k62_4.toInt) (b := (-1)) (by rfl) (by decide) c_69; omega
        refine lv_iconst (v := 0) hx hb dX12_findSoonest_75 (by decide) ?_
        refine lv_istore (lv' := [(6, .int 0), (4, .int k62_4), (5, .int k62_5), (0, .ref b_o), (1, .int p_1), (2, .int p_2), (3, .int p_3)]) hx hb dX12_findSoonest_76 hl (by decide) rfl (fun ls hl => ?_)
        refine g5_loop (α := (Int32) × (Int32) × (Int32) × (Int32) × (Int64) × (Int64) × (Int32) × (Int32) × (Int32) × (Int32) × (Int32) × (Int32) × (Int32) × (Nat → Int64) × (Nat → Int64) × (Nat → Int32) × (Nat → Int32) × (Nat → Int32)) (fun (q : (Int32) × (Int32) × (Int32) × (Int32) × (Int64) × (Int64) × (Int32) × (Int32) × (Int32) × (Int32) × (Int32) × (Int32) × (Int32) × (Nat → Int64) × (Nat → Int64) × (Nat → Int32) × (Nat → Int32) × (Nat → Int32)) (ls : Array Slot) (H : Heap) (locs : List Loc) => match q with | (k78_6, k78_4, k78_la, k78_bk, k78_va, k78_su, k78_ce, k78_ho, k78_wy, k78_bt, k78_ps, k78_tg, k78_sn, k78_se, k78_re, k78_pt, k78_tr, k78_ld) => lv_has ls 9 [(4, .int k78_4), (6, .int k78_6), (5, .int k62_5), (0, .ref b_o), (1, .int p_1), (2, .int p_2), (3, .int p_3)] ∧ va_P G.1 vwCl [(b_o, (oc12 u_th u_sa b_rf b_ro b_im b_ke u_fd b_tp u_td u_fr u_to u_so u_wo u_fa u_bd u_nc b_nl u_co b_op b_ar u_le b_pi b_pa u_pd u_od b_ws b_hw k78_la b_se b_re k78_bk k78_va k78_su k78_ce k78_ho k78_wy k78_bt k78_ps b_pt k78_tg k78_sn b_ip u_ic b_ah b_be b_me u_wd b_tr b_ld u_st b_wn u_id)), (b_ro, (arI G 5740 v_ro)), (b_se, (arJ G 13 k78_se)), (b_re, (arJ G 400 k78_re)), (b_pt, (arI G 200 k78_pt)), (b_tr, (arZ G 1536 k78_tr)), (b_ld, (arZ G 1536 k78_ld))] H ∧ va_D A [(b_o, (oc12 u_th u_sa b_rf b_ro b_im b_ke u_fd b_tp u_td u_fr u_to u_so u_wo u_fa u_bd u_nc b_nl u_co b_op b_ar u_le b_pi b_pa u_pd u_od b_ws b_hw k78_la b_se b_re k78_bk k78_va k78_su k78_ce k78_ho k78_wy k78_bt k78_ps b_pt k78_tg k78_sn b_ip u_ic b_ah b_be b_me u_wd b_tr b_ld u_st b_wn u_id)), (b_ro, (arI G 5740 v_ro)), (b_se, (arJ G 13 k78_se)), (b_re, (arJ G 400 k78_re)), (b_pt, (arI G 200 k78_pt)), (b_tr, (arZ G 1536 k78_tr)), (b_ld, (arZ G 1536 k78_ld))] ∧ va_S A s.heap H locs ∧ (0 ≤ k78_6.toInt ∧ k78_6.toInt ≤ 64) ∧ ((-1) ≤ k78_4.toInt ∧ k78_4.toInt ≤ 23) ∧ (0 ≤ k78_la.toInt ∧ k78_la.toInt ≤ 4840) ∧ (0 ≤ k78_bk.toInt ∧ k78_bk.toInt ≤ 1) ∧ (0 ≤ k78_ce.toInt ∧ k78_ce.toInt ≤ 63) ∧ (0 ≤ k78_ho.toInt ∧ k78_ho.toInt ≤ 23) ∧ (0 ≤ k78_wy.toInt ∧ k78_wy.toInt ≤ 3) ∧ (0 ≤ k78_bt.toInt ∧ k78_bt.toInt ≤ 1000000) ∧ (0 ≤ k78_ps.toInt ∧ k78_ps.toInt ≤ 200) ∧ (PTI k78_pt)) (fun (q : (Int32) × (Int32) × (Int32) × (Int32) × (Int64) × (Int64) × (Int32) × (Int32) × (Int32) × (Int32) × (Int32) × (Int32) × (Int32) × (Nat → Int64) × (Nat → Int64) × (Nat → Int32) × (Nat → Int32) × (Nat → Int32)) => match q with | (k78_6, k78_4, k78_la, k78_bk, k78_va, k78_su, k78_ce, k78_ho, k78_wy, k78_bt, k78_ps, k78_tg, k78_sn, k78_se, k78_re, k78_pt, k78_tr, k78_ld) => Int.toNat (64 - k78_6.toInt)) (0, k62_4, k62_la, k62_bk, k62_va, k62_su, k62_ce, k62_ho, k62_wy, k62_bt, k62_ps, k62_tg, k62_sn, k62_se, k62_re, k62_pt, k62_tr, k62_ld) ⟨lv_sub hl [1, 0, 2, 3, 4, 5, 6] rfl, hP, hD, hS, ⟨by decide, by decide⟩, i_5, i_6, i_7, i_8, i_9, i_10, i_11, i_12, i_13⟩ ?_
        rintro ⟨k78_6, k78_4, k78_la, k78_bk, k78_va, k78_su, k78_ce, k78_ho, k78_wy, k78_bt, k78_ps, k78_tg, k78_sn, k78_se, k78_re, k78_pt, k78_tr, k78_ld⟩ ls H locs ⟨hl, hP, hD, hS, i_123, i_124, i_125, i_126, i_127, i_128, i_129, i_130, i_131, i_132⟩ ih_78_133
        have hl : lv_has ls 9 [(4, .int k78_4), (6, .int k78_6), (5, .int k62_5), (0, .ref b_o), (1, .int p_1), (2, .int p_2), (3, .int p_3)] := hl
        have i_123 : 0 ≤ k78_6.toInt ∧ k78_6.toInt ≤ 64 := i_123
        have i_124 : (-1) ≤ k78_4.toInt ∧ k78_4.toInt ≤ 23 := i_124
        have i_125 : 0 ≤ k78_la.toInt ∧ k78_la.toInt ≤ 4840 := i_125
        have i_126 : 0 ≤ k78_bk.toInt ∧ k78_bk.toInt ≤ 1 := i_126
        have i_127 : 0 ≤ k78_ce.toInt ∧ k78_ce.toInt ≤ 63 := i_127
        have i_128 : 0 ≤ k78_ho.toInt ∧ k78_ho.toInt ≤ 23 := i_128
        have i_129 : 0 ≤ k78_wy.toInt ∧ k78_wy.toInt ≤ 3 := i_129
        have i_130 : 0 ≤ k78_bt.toInt ∧ k78_bt.toInt ≤ 1000000 := i_130
        have i_131 : 0 ≤ k78_ps.toInt ∧ k78_ps.toInt ≤ 200 := i_131
        have i_132 : PTI k78_pt := i_132
        refine g5_rs [(b_o, (oc12 u_th u_sa b_rf b_ro b_im b_ke u_fd b_tp u_td u_fr u_to u_so u_wo u_fa u_bd u_nc b_nl u_co b_op b_ar u_le b_pi b_pa u_pd u_od b_ws b_hw k78_la b_se b_re k78_bk k78_va k78_su k78_ce k78_ho k78_wy k78_bt k78_ps b_pt k78_tg k78_sn b_ip u_ic b_ah b_be b_me u_wd b_tr b_ld u_st b_wn u_id)), (b_ro, (arI G 5740 v_ro)), (b_se, (arJ G 13 k78_se)), (b_re, (arJ G 400 k78_re)), (b_pt, (arI G 200 k78_pt)), (b_tr, (arZ G 1536 k78_tr)), (b_ld, (arZ G 1536 k78_ld))] hP hD (fun hP hD => ?_)
        refine lv_iload hx hb dX12_findSoonest_78 (lv_at hl 1 rfl) ?_
        refine lv_bipush (v := 64) hx hb dX12_findSoonest_80 (by decide) ?_
        refine lv_icmp_ge (tgt := 222) hx hb dX12_findSoonest_82 (by decide) (fun c_134 => ?_) (fun c_134 => ?_)
        ·
          have i_134 : k78_6.toInt ≥ 64 := by have z := g5_ge (a := k78_6.toInt) (b := 64) (by rfl) (by decide) c_134; omega
          refine lv_iinc (v := (k62_5 + 1)) (lv' := [(5, .int (k62_5 + 1)), (4, .int k78_4), (6, .int k78_6), (0, .ref b_o), (1, .int p_1), (2, .int p_2), (3, .int p_3)]) hx hb dX12_findSoonest_222 hl (k := 2) rfl rfl (by decide) rfl (fun ls hl => ?_)
          have t_135 : (k62_5 + 1).toInt = k62_5.toInt + 1 := g5_iadd (a := k62_5.toInt) (b := 1) rfl (by decide) (by omega) (by omega)
          refine lv_goto (tgt := 62) hx hb dX12_findSoonest_225 (by decide) ?_
          exact ih_62_14 ((k62_5 + 1), k78_4, k78_la, k78_bk, k78_va, k78_su, k78_ce, k78_ho, k78_wy, k78_bt, k78_ps, k78_tg, k78_sn, k78_se, k78_re, k78_pt, k78_tr, k78_ld) ls H locs (show Int.toNat (24 - (k62_5 + 1).toInt) < Int.toNat (24 - k62_5.toInt) from g_up (show k62_5.toInt < (k62_5 + 1).toInt by omega) (show k62_5.toInt < 24 by omega)) ⟨lv_sub hl [1, 0, 3, 4, 5, 6] rfl, hP, hD, hS, ⟨by omega, by omega⟩, i_124, i_125, i_126, i_127, i_128, i_129, i_130, i_131, i_132⟩
        ·
          have i_134 : k78_6.toInt < 64 := by have z := g5_geN (a := k78_6.toInt) (b := 64) (by rfl) (by decide) c_134; omega
          refine lv_aload_n hx hb dX12_findSoonest_85 rfl (lv_at hl 3 rfl) ?_
          refine va_get (D := G.1) (ci := 12) (v := .ref b_tr) (C := RX12) (T := TX12) (N := 52) hx hb hts inG_X12 hown hK hP 0 rfl rfl 47 (by decide) (hts _ fl_X12_98) (fun _ h9 => h9) rfl dX12_findSoonest_86 ?_
          refine lv_bipush (v := 64) hx hb dX12_findSoonest_89 (by decide) ?_
          refine lv_iload hx hb dX12_findSoonest_91 (lv_at hl 2 rfl) ?_
          refine lv_imul hx hb dX12_findSoonest_93 ?_
          have t_136 : (64 * k62_5).toInt = 64 * k62_5.toInt := g5_imul (a := 64) (b := k62_5.toInt) (by decide) (by rfl) (by omega) (by omega)
          refine lv_iload hx hb dX12_findSoonest_94 (lv_at hl 1 rfl) ?_
          refine lv_iadd hx hb dX12_findSoonest_96 ?_
          have t_137 : ((64 * k62_5) + k78_6).toInt = (64 * k62_5).toInt + k78_6.toInt := g5_iadd (a := (64 * k62_5).toInt) (b := k78_6.toInt) (by rfl) (by rfl) (by omega) (by omega)
          refine va_zald hx hb hK hP 5 2 rfl rfl (i := ((64 * k62_5) + k78_6)) (vp_in_iff.mpr ⟨by omega, by omega⟩) dX12_findSoonest_97 ?_
          refine lv_if_eq (tgt := 216) hx hb dX12_findSoonest_98 (by decide) (fun c_138 => ?_) (fun c_138 => ?_)
          ·
            have i_138 : (k78_tr ((64 * k62_5) + k78_6).toNatClampNeg).toInt = 0 := by have z := g5_eq (a := (k78_tr ((64 * k62_5) + k78_6).toNatClampNeg).toInt) (b := 0) (by rfl) (by decide) c_138; omega
            refine lv_iinc (v := (k78_6 + 1)) (lv' := [(6, .int (k78_6 + 1)), (4, .int k78_4), (5, .int k62_5), (0, .ref b_o), (1, .int p_1), (2, .int p_2), (3, .int p_3)]) hx hb dX12_findSoonest_216 hl (k := 1) rfl rfl (by decide) rfl (fun ls hl => ?_)
            have t_139 : (k78_6 + 1).toInt = k78_6.toInt + 1 := g5_iadd (a := k78_6.toInt) (b := 1) rfl (by decide) (by omega) (by omega)
            refine lv_goto (tgt := 78) hx hb dX12_findSoonest_219 (by decide) ?_
            exact ih_78_133 ((k78_6 + 1), k78_4, k78_la, k78_bk, k78_va, k78_su, k78_ce, k78_ho, k78_wy, k78_bt, k78_ps, k78_tg, k78_sn, k78_se, k78_re, k78_pt, k78_tr, k78_ld) ls H locs (show Int.toNat (64 - (k78_6 + 1).toInt) < Int.toNat (64 - k78_6.toInt) from g_up (show k78_6.toInt < (k78_6 + 1).toInt by omega) (show k78_6.toInt < 64 by omega)) ⟨lv_sub hl [1, 0, 2, 3, 4, 5, 6] rfl, hP, hD, hS, ⟨by omega, by omega⟩, i_124, i_125, i_126, i_127, i_128, i_129, i_130, i_131, i_132⟩
          ·
            have n_138 : gNe ((k78_tr ((64 * k62_5) + k78_6).toNatClampNeg).toInt) (0) := by have z := g5_eqN (a := (k78_tr ((64 * k62_5) + k78_6).toNatClampNeg).toInt) (b := 0) (by rfl) (by decide) c_138; unfold gNe; omega
            refine lv_aload_n hx hb dX12_findSoonest_101 rfl (lv_at hl 3 rfl) ?_
            refine lv_iload hx hb dX12_findSoonest_102 (lv_at hl 1 rfl) ?_
            refine lv_iload hx hb dX12_findSoonest_104 (lv_at hl 2 rfl) ?_
            obtain ⟨hPc, hDc, hFc⟩ := g5_sub3 (wc := [(b_o, (oc12 u_th u_sa b_rf b_ro b_im b_ke u_fd b_tp u_td u_fr u_to u_so u_wo u_fa u_bd u_nc b_nl u_co b_op b_ar u_le b_pi b_pa u_pd u_od b_ws b_hw k78_la b_se b_re k78_bk k78_va k78_su k78_ce k78_ho k78_wy k78_bt k78_ps b_pt k78_tg k78_sn b_ip u_ic b_ah b_be b_me u_wd b_tr b_ld u_st b_wn u_id)), (b_ro, (arI G 5740 v_ro)), (b_se, (arJ G 13 k78_se)), (b_re, (arJ G 400 k78_re)), (b_pt, (arI G 200 k78_pt))]) hP hD hS hA [0, 1, 2, 3, 4] (by decide) rfl
            refine va_calli (va_runV (As := [.int k78_6, .int k62_5]) (rest := []) ⟨hx, hb, hml, hown, hts⟩ (n_seenFrom l G b_o b_ro b_se b_re b_pt b_rf b_im b_ke b_tp b_nl b_op b_ar b_pi b_pa b_ws b_hw b_ip b_ah b_be b_me b_tr b_ld b_wn H.size u_th u_sa u_fd u_td u_fr u_to u_so u_fa u_bd u_nc u_co u_le u_pd u_od k78_la k78_bk k78_ce k78_ho k78_wy k78_bt k78_ps k78_tg k78_sn u_ic u_wd u_id k78_6 k62_5 u_wo k78_va k78_su u_st v_ro k78_se k78_re k78_pt h_u_td h_u_fr h_u_to h_u_bd h_u_nc h_u_co h_u_pd i_125 i_126 i_127 i_128 i_129 i_130 i_131 h_u_ic h_u_id ⟨by omega, by omega⟩ ⟨by omega, by omega⟩ (r_ro) (i_132)) (cwV 2 hts gV_X12_404 rfl rfl rfl hv_X12_seenFrom ⟨Nat.le_of_ble_eq_true rfl, Nat.le_of_ble_eq_true rfl⟩) (g5_preV hPc hK hDc hN hT hS hFc (ci := 12) (q0 := 0) rfl rfl) rfl rfl hl.1 rfl (lv_room (Nat.le_of_ble_eq_true rfl)) dX12_findSoonest_106 ⟨Nat.le_of_ble_eq_true rfl, Nat.le_of_ble_eq_true rfl⟩) hS (fun q _ h => hFc q h) hFc (fun r u t H1 locs ht hvm hw hB hz1 hk1 hS => ?_)
            obtain ⟨hP1, hD1⟩ := hB
            rw [ht] at hP1
            obtain ⟨z148, z149, z150, z151, z152, z153, z154, z155, z156, z157, z158, z159, z160, z161, z162, i_140, i_141, i_142, i_143, i_144, i_145, i_146, i_147, y163, rfl⟩ := hw
            have i_140 : 0 ≤ z149.toInt ∧ z149.toInt ≤ 4840 := i_140
            have i_141 : 0 ≤ z150.toInt ∧ z150.toInt ≤ 1 := i_141
            have i_142 : 0 ≤ z153.toInt ∧ z153.toInt ≤ 63 := i_142
            have i_143 : 0 ≤ z154.toInt ∧ z154.toInt ≤ 23 := i_143
            have i_144 : 0 ≤ z155.toInt ∧ z155.toInt ≤ 3 := i_144
            have i_145 : 0 ≤ z156.toInt ∧ z156.toInt ≤ 1000000 := i_145
            have i_146 : 0 ≤ z157.toInt ∧ z157.toInt ≤ 200 := i_146
            have i_147 : PTI z162 := i_147
            obtain ⟨hP, hD⟩ := va_join (wr := [(b_tr, (arZ G 1536 k78_tr)), (b_ld, (arZ G 1536 k78_ld))]) hP hD [0, 1, 2, 3, 4] [5, 6] rfl rfl (by decide) (by decide) hk1 hFc hP1 hD1
            generalize H1 = H at hP hS ⊢
            refine g5_rs [(b_tr, (arZ G 1536 k78_tr)), (b_ld, (arZ G 1536 k78_ld)), (b_o, (oc12 u_th u_sa b_rf b_ro b_im b_ke u_fd b_tp u_td u_fr u_to u_so u_wo u_fa u_bd u_nc b_nl u_co b_op b_ar u_le b_pi b_pa u_pd u_od b_ws b_hw z149 b_se b_re z150 z151 z152 z153 z154 z155 z156 z157 b_pt z158 z159 b_ip u_ic b_ah b_be b_me u_wd b_tr b_ld u_st b_wn u_id)), (b_ro, (arI G 5740 v_ro)), (b_se, (arJ G 13 z160)), (b_re, (arJ G 400 z161)), (b_pt, (arI G 200 z162))] hP hD (fun hP hD => ?_)
            refine g5_ti (v := z148) y163 ?_
            refine lv_iload_n hx hb dX12_findSoonest_109 rfl (lv_at hl 4 rfl) ?_
            obtain ⟨hPc, hDc, hFc⟩ := g5_sub3 (wc := []) hP hD hS hA [] (by decide) rfl
            refine va_calli (va_runS (As := [.int z148, .int p_1]) (rest := []) ⟨hx, hb, hml, hown, hts⟩ (n_is l G H.size z148 p_1) (va_cwS 2 hts gS_X12_387 rfl rfl rfl hs_X12_is ⟨Nat.le_of_ble_eq_true rfl, Nat.le_of_ble_eq_true rfl⟩) (g5_preS hPc hK hDc hN hT hS hFc) rfl rfl hl.1 rfl (lv_room (Nat.le_of_ble_eq_true rfl)) dX12_findSoonest_110 ⟨Nat.le_of_ble_eq_true rfl, Nat.le_of_ble_eq_true rfl⟩) hS (fun q _ h => hFc q h) hFc (fun r u t H1 locs ht hvm hw hB hz1 hk1 hS => ?_)
            obtain ⟨hP1, hD1⟩ := hB
            rw [ht] at hP1
            obtain ⟨z165, i_164, y166, rfl⟩ := hw
            have i_164 : 0 ≤ z165.toInt ∧ z165.toInt ≤ 1 := i_164
            have hP := g5_same hP hk1
            generalize H1 = H at hP hS ⊢
            refine g5_ti (v := z165) y166 ?_
            refine lv_if_eq (tgt := 134) hx hb dX12_findSoonest_113 (by decide) (fun c_167 => ?_) (fun c_167 => ?_)
            ·
              have i_167 : z165.toInt = 0 := by have z := g5_eq (a := z165.toInt) (b := 0) (by rfl) (by decide) c_167; omega
              refine lv_iconst (v := 0) hx hb dX12_findSoonest_134 (by decide) ?_
              refine lv_istore (lv' := [(7, .int 0), (4, .int k78_4), (6, .int k78_6), (5, .int k62_5), (0, .ref b_o), (1, .int p_1), (2, .int p_2), (3, .int p_3)]) hx hb dX12_findSoonest_135 hl (by decide) rfl (fun ls hl => ?_)
              refine g5_loop (α := (Int32) × (Nat → Int32)) (fun (q : (Int32) × (Nat → Int32)) (ls : Array Slot) (H : Heap) (locs : List Loc) => match q with | (k137_7, k137_tr) => lv_has ls 9 [(7, .int k137_7), (4, .int k78_4), (6, .int k78_6), (5, .int k62_5), (0, .ref b_o), (1, .int p_1), (2, .int p_2), (3, .int p_3)] ∧ va_P G.1 vwCl [(b_tr, (arZ G 1536 k137_tr)), (b_ld, (arZ G 1536 k78_ld)), (b_o, (oc12 u_th u_sa b_rf b_ro b_im b_ke u_fd b_tp u_td u_fr u_to u_so u_wo u_fa u_bd u_nc b_nl u_co b_op b_ar u_le b_pi b_pa u_pd u_od b_ws b_hw z149 b_se b_re z150 z151 z152 z153 z154 z155 z156 z157 b_pt z158 z159 b_ip u_ic b_ah b_be b_me u_wd b_tr b_ld u_st b_wn u_id)), (b_ro, (arI G 5740 v_ro)), (b_se, (arJ G 13 z160)), (b_re, (arJ G 400 z161)), (b_pt, (arI G 200 z162))] H ∧ va_D A [(b_tr, (arZ G 1536 k137_tr)), (b_ld, (arZ G 1536 k78_ld)), (b_o, (oc12 u_th u_sa b_rf b_ro b_im b_ke u_fd b_tp u_td u_fr u_to u_so u_wo u_fa u_bd u_nc b_nl u_co b_op b_ar u_le b_pi b_pa u_pd u_od b_ws b_hw z149 b_se b_re z150 z151 z152 z153 z154 z155 z156 z157 b_pt z158 z159 b_ip u_ic b_ah b_be b_me u_wd b_tr b_ld u_st b_wn u_id)), (b_ro, (arI G 5740 v_ro)), (b_se, (arJ G 13 z160)), (b_re, (arJ G 400 z161)), (b_pt, (arI G 200 z162))] ∧ va_S A s.heap H locs ∧ (0 ≤ k137_7.toInt ∧ k137_7.toInt ≤ 5)) (fun (q : (Int32) × (Nat → Int32)) => match q with | (k137_7, k137_tr) => Int.toNat (5 - k137_7.toInt)) (0, k78_tr) ⟨lv_sub hl [0, 1, 2, 3, 4, 5, 6, 7] rfl, hP, hD, hS, ⟨by decide, by decide⟩⟩ ?_
              rintro ⟨k137_7, k137_tr⟩ ls H locs ⟨hl, hP, hD, hS, i_168⟩ ih_137_169
              have hl : lv_has ls 9 [(7, .int k137_7), (4, .int k78_4), (6, .int k78_6), (5, .int k62_5), (0, .ref b_o), (1, .int p_1), (2, .int p_2), (3, .int p_3)] := hl
              have i_168 : 0 ≤ k137_7.toInt ∧ k137_7.toInt ≤ 5 := i_168
              refine g5_rs [(b_tr, (arZ G 1536 k137_tr)), (b_ld, (arZ G 1536 k78_ld)), (b_o, (oc12 u_th u_sa b_rf b_ro b_im b_ke u_fd b_tp u_td u_fr u_to u_so u_wo u_fa u_bd u_nc b_nl u_co b_op b_ar u_le b_pi b_pa u_pd u_od b_ws b_hw z149 b_se b_re z150 z151 z152 z153 z154 z155 z156 z157 b_pt z158 z159 b_ip u_ic b_ah b_be b_me u_wd b_tr b_ld u_st b_wn u_id)), (b_ro, (arI G 5740 v_ro)), (b_se, (arJ G 13 z160)), (b_re, (arJ G 400 z161)), (b_pt, (arI G 200 z162))] hP hD (fun hP hD => ?_)
              refine lv_iload hx hb dX12_findSoonest_137 (lv_at hl 0 rfl) ?_
              refine lv_iconst (v := 5) hx hb dX12_findSoonest_139 (by decide) ?_
              refine lv_icmp_ge (tgt := 216) hx hb dX12_findSoonest_140 (by decide) (fun c_170 => ?_) (fun c_170 => ?_)
              ·
                have i_170 : k137_7.toInt ≥ 5 := by have z := g5_ge (a := k137_7.toInt) (b := 5) (by rfl) (by decide) c_170; omega
                refine lv_iinc (v := (k78_6 + 1)) (lv' := [(6, .int (k78_6 + 1)), (7, .int k137_7), (4, .int k78_4), (5, .int k62_5), (0, .ref b_o), (1, .int p_1), (2, .int p_2), (3, .int p_3)]) hx hb dX12_findSoonest_216 hl (k := 2) rfl rfl (by decide) rfl (fun ls hl => ?_)
                have t_171 : (k78_6 + 1).toInt = k78_6.toInt + 1 := g5_iadd (a := k78_6.toInt) (b := 1) rfl (by decide) (by omega) (by omega)
                refine lv_goto (tgt := 78) hx hb dX12_findSoonest_219 (by decide) ?_
                exact ih_78_133 ((k78_6 + 1), k78_4, z149, z150, z151, z152, z153, z154, z155, z156, z157, z158, z159, z160, z161, z162, k137_tr, k78_ld) ls H locs (show Int.toNat (64 - (k78_6 + 1).toInt) < Int.toNat (64 - k78_6.toInt) from g_up (show k78_6.toInt < (k78_6 + 1).toInt by omega) (show k78_6.toInt < 64 by omega)) ⟨lv_sub hl [2, 0, 3, 4, 5, 6, 7] rfl, hP.sub [2, 3, 4, 5, 6, 0, 1] rfl, hD.sub [2, 3, 4, 5, 6, 0, 1] (by decide) rfl, hS, ⟨by omega, by omega⟩, i_124, i_140, i_141, i_142, i_143, i_144, i_145, i_146, i_147⟩
              ·
                have i_170 : k137_7.toInt < 5 := by have z := g5_geN (a := k137_7.toInt) (b := 5) (by rfl) (by decide) c_170; omega
                refine lv_iload hx hb dX12_findSoonest_143 (lv_at hl 3 rfl) ?_
                refine lv_bipush (v := 23) hx hb dX12_findSoonest_145 (by decide) ?_
                refine lv_icmp_ge (tgt := 216) hx hb dX12_findSoonest_147 (by decide) (fun c_172 => ?_) (fun c_172 => ?_)
                ·
                  have i_172 : k62_5.toInt ≥ 23 := by have z := g5_ge (a := k62_5.toInt) (b := 23) (by rfl) (by decide) c_172; omega
                  refine lv_iinc (v := (k78_6 + 1)) (lv' := [(6, .int (k78_6 + 1)), (7, .int k137_7), (4, .int k78_4), (5, .int k62_5), (0, .ref b_o), (1, .int p_1), (2, .int p_2), (3, .int p_3)]) hx hb dX12_findSoonest_216 hl (k := 2) rfl rfl (by decide) rfl (fun ls hl => ?_)
                  have t_173 : (k78_6 + 1).toInt = k78_6.toInt + 1 := g5_iadd (a := k78_6.toInt) (b := 1) rfl (by decide) (by omega) (by omega)
                  refine lv_goto (tgt := 78) hx hb dX12_findSoonest_219 (by decide) ?_
                  exact ih_78_133 ((k78_6 + 1), k78_4, z149, z150, z151, z152, z153, z154, z155, z156, z157, z158, z159, z160, z161, z162, k137_tr, k78_ld) ls H locs (show Int.toNat (64 - (k78_6 + 1).toInt) < Int.toNat (64 - k78_6.toInt) from g_up (show k78_6.toInt < (k78_6 + 1).toInt by omega) (show k78_6.toInt < 64 by omega)) ⟨lv_sub hl [2, 0, 3, 4, 5, 6, 7] rfl, hP.sub [2, 3, 4, 5, 6, 0, 1] rfl, hD.sub [2, 3, 4, 5, 6, 0, 1] (by decide) rfl, hS, ⟨by omega, by omega⟩, i_124, i_140, i_141, i_142, i_143, i_144, i_145, i_146, i_147⟩
                ·
                  have i_172 : k62_5.toInt < 23 := by have z := g5_geN (a := k62_5.toInt) (b := 23) (by rfl) (by decide) c_172; omega
                  refine lv_iload hx hb dX12_findSoonest_150 (lv_at hl 0 rfl) ?_
                  refine lv_iconst (v := 4) hx hb dX12_findSoonest_152 (by decide) ?_
                  refine lv_icmp_ne (tgt := 161) hx hb dX12_findSoonest_153 (by decide) (fun c_174 => ?_) (fun c_174 => ?_)
                  ·
                    have n_174 : gNe (k137_7.toInt) (4) := by have z := g5_ne (a := k137_7.toInt) (b := 4) (by rfl) (by decide) c_174; unfold gNe; omega
                    have i_174 : k137_7.toInt ≤ 3 := by have z := g5_ne (a := k137_7.toInt) (b := 4) (by rfl) (by decide) c_174; omega
                    refine lv_iload hx hb dX12_findSoonest_161 (lv_at hl 2 rfl) ?_
                    refine lv_iload hx hb dX12_findSoonest_163 (lv_at hl 0 rfl) ?_
                    obtain ⟨hPc, hDc, hFc⟩ := g5_sub3 (wc := []) hP hD hS hA [] (by decide) rfl
                    refine va_calli (va_runS (As := [.int k78_6, .int k137_7]) (rest := []) ⟨hx, hb, hml, hown, hts⟩ (n_beside l G H.size k78_6 k137_7 ⟨by omega, by omega⟩) (va_cwS 2 hts gS_X12_374 rfl rfl rfl hs_X12_beside ⟨Nat.le_of_ble_eq_true rfl, Nat.le_of_ble_eq_true rfl⟩) (g5_preS hPc hK hDc hN hT hS hFc) rfl rfl hl.1 rfl (lv_room (Nat.le_of_ble_eq_true rfl)) dX12_findSoonest_165 ⟨Nat.le_of_ble_eq_true rfl, Nat.le_of_ble_eq_true rfl⟩) hS (fun q _ h => hFc q h) hFc (fun r u t H1 locs ht hvm hw hB hz1 hk1 hS => ?_)
                    obtain ⟨hP1, hD1⟩ := hB
                    rw [ht] at hP1
                    obtain ⟨z176, i_175, y177, rfl⟩ := hw
                    have i_175 : -1 ≤ z176.toInt ∧ z176.toInt ≤ 63 := i_175
                    have hP := g5_same hP hk1
                    generalize H1 = H at hP hS ⊢
                    refine g5_ti (v := z176) y177 ?_
                    refine lv_istore (lv' := [(8, .int z176), (7, .int k137_7), (4, .int k78_4), (6, .int k78_6), (5, .int k62_5), (0, .ref b_o), (1, .int p_1), (2, .int p_2), (3, .int p_3)]) hx hb dX12_findSoonest_168 hl (by decide) rfl (fun ls hl => ?_)
                    refine lv_iload hx hb dX12_findSoonest_170 (lv_at hl 0 rfl) ?_
                    refine lv_iconst (v := (-1)) hx hb dX12_findSoonest_172 (by decide) ?_
                    refine lv_icmp_eq (tgt := 210) hx hb dX12_findSoonest_173 (by decide) (fun c_178 => ?_) (fun c_178 => ?_)
                    ·
                      have i_178 : z176.toInt = (-1) := by have z := g5_eq (a := z176.toInt) (b := (-1)) (by rfl) (by decide) c_178; omega
                      refine lv_iinc (v := (k137_7 + 1)) (lv' := [(7, .int (k137_7 + 1)), (8, .int z176), (4, .int k78_4), (6, .int k78_6), (5, .int k62_5), (0, .ref b_o), (1, .int p_1), (2, .int p_2), (3, .int p_3)]) hx hb dX12_findSoonest_210 hl (k := 1) rfl rfl (by decide) rfl (fun ls hl => ?_)
                      have t_179 : (k137_7 + 1).toInt = k137_7.toInt + 1 := g5_iadd (a := k137_7.toInt) (b := 1) rfl (by decide) (by omega) (by omega)
                      refine lv_goto (tgt := 137) hx hb dX12_findSoonest_213 (by decide) ?_
                      exact ih_137_169 ((k137_7 + 1), k137_tr) ls H locs (show Int.toNat (5 - (k137_7 + 1).toInt) < Int.toNat (5 - k137_7.toInt) from g_up (show k137_7.toInt < (k137_7 + 1).toInt by omega) (show k137_7.toInt < 5 by omega)) ⟨lv_sub hl [0, 2, 3, 4, 5, 6, 7, 8] rfl, hP, hD, hS, ⟨by omega, by omega⟩⟩
                    ·
                      have n_178 : gNe (z176.toInt) ((-1)) := by have z := g5_eqN (a := z176.toInt) (b := (-1)) (by rfl) (by decide) c_178; unfold gNe; omega
                      have i_178 : z176.toInt ≥ 0 := by have z := g5_eqN (a := z176.toInt) (b := (-1)) (by rfl) (by decide) c_178; omega
                      refine lv_aload_n hx hb dX12_findSoonest_176 rfl (lv_at hl 5 rfl) ?_
                      refine lv_iload hx hb dX12_findSoonest_177 (lv_at hl 0 rfl) ?_
                      refine lv_if_ge (tgt := 186) hx hb dX12_findSoonest_179 (by decide) (fun c_180 => ?_) (fun c_180 => ?_)
                      ·
                        have i_180 : z176.toInt ≥ 0 := by have z := g5_ge (a := z176.toInt) (b := 0) (by rfl) (by decide) c_180; omega
                        refine lv_iload hx hb dX12_findSoonest_186 (lv_at hl 0 rfl) ?_
                        obtain ⟨hPc, hDc, hFc⟩ := g5_sub3 (wc := [(b_o, (oc12 u_th u_sa b_rf b_ro b_im b_ke u_fd b_tp u_td u_fr u_to u_so u_wo u_fa u_bd u_nc b_nl u_co b_op b_ar u_le b_pi b_pa u_pd u_od b_ws b_hw z149 b_se b_re z150 z151 z152 z153 z154 z155 z156 z157 b_pt z158 z159 b_ip u_ic b_ah b_be b_me u_wd b_tr b_ld u_st b_wn u_id)), (b_ro, (arI G 5740 v_ro))]) hP hD hS hA [2, 3] (by decide) rfl
                        refine va_calli (va_runV (As := [.int z176]) (rest := []) ⟨hx, hb, hml, hown, hts⟩ (n_isWall l G b_o b_ro b_rf b_im b_ke b_tp b_nl b_op b_ar b_pi b_pa b_ws b_hw b_se b_re b_pt b_ip b_ah b_be b_me b_tr b_ld b_wn H.size u_th u_sa u_fd u_td u_fr u_to u_so u_fa u_bd u_nc u_co u_le u_pd u_od z149 z150 z153 z154 z155 z156 z157 z158 z159 u_ic u_wd u_id z176 u_wo z151 z152 u_st v_ro h_u_td h_u_fr h_u_to h_u_bd h_u_nc h_u_co h_u_pd i_140 i_141 i_142 i_143 i_144 i_145 i_146 h_u_ic h_u_id ⟨by omega, by omega⟩ (r_ro)) (cwV 1 hts gV_X12_160 rfl rfl rfl hv_X12_isWall ⟨Nat.le_of_ble_eq_true rfl, Nat.le_of_ble_eq_true rfl⟩) (g5_preV hPc hK hDc hN hT hS hFc (ci := 12) (q0 := 0) rfl rfl) rfl rfl hl.1 rfl (lv_room (Nat.le_of_ble_eq_true rfl)) dX12_findSoonest_188 ⟨Nat.le_of_ble_eq_true rfl, Nat.le_of_ble_eq_true rfl⟩) hS (fun q _ h => hFc q h) hFc (fun r u t H1 locs ht hvm hw hB hz1 hk1 hS => ?_)
                        obtain ⟨hP1, hD1⟩ := hB
                        rw [ht] at hP1
                        obtain ⟨z182, i_181, y183, rfl⟩ := hw
                        have i_181 : 0 ≤ z182.toInt ∧ z182.toInt ≤ 1 := i_181
                        obtain ⟨hP, hD⟩ := va_join (wr := [(b_tr, (arZ G 1536 k137_tr)), (b_ld, (arZ G 1536 k78_ld)), (b_se, (arJ G 13 z160)), (b_re, (arJ G 400 z161)), (b_pt, (arI G 200 z162))]) hP hD [2, 3] [0, 1, 4, 5, 6] rfl rfl (by decide) (by decide) hk1 hFc hP1 hD1
                        generalize H1 = H at hP hS ⊢
                        refine g5_rs [(b_tr, (arZ G 1536 k137_tr)), (b_ld, (arZ G 1536 k78_ld)), (b_se, (arJ G 13 z160)), (b_re, (arJ G 400 z161)), (b_pt, (arI G 200 z162)), (b_o, (oc12 u_th u_sa b_rf b_ro b_im b_ke u_fd b_tp u_td u_fr u_to u_so u_wo u_fa u_bd u_nc b_nl u_co b_op b_ar u_le b_pi b_pa u_pd u_od b_ws b_hw z149 b_se b_re z150 z151 z152 z153 z154 z155 z156 z157 b_pt z158 z159 b_ip u_ic b_ah b_be b_me u_wd b_tr b_ld u_st b_wn u_id)), (b_ro, (arI G 5740 v_ro))] hP hD (fun hP hD => ?_)
                        refine g5_ti (v := z182) y183 ?_
                        refine lv_if_ne (tgt := 210) hx hb dX12_findSoonest_191 (by decide) (fun c_184 => ?_) (fun c_184 => ?_)
                        ·
                          have n_184 : gNe (z182.toInt) (0) := by have z := g5_ne (a := z182.toInt) (b := 0) (by rfl) (by decide) c_184; unfold gNe; omega
                          have i_184 : z182.toInt ≥ 1 := by have z := g5_ne (a := z182.toInt) (b := 0) (by rfl) (by decide) c_184; omega
                          refine lv_iinc (v := (k137_7 + 1)) (lv' := [(7, .int (k137_7 + 1)), (8, .int z176), (4, .int k78_4), (6, .int k78_6), (5, .int k62_5), (0, .ref b_o), (1, .int p_1), (2, .int p_2), (3, .int p_3)]) hx hb dX12_findSoonest_210 hl (k := 1) rfl rfl (by decide) rfl (fun ls hl => ?_)
                          have t_185 : (k137_7 + 1).toInt = k137_7.toInt + 1 := g5_iadd (a := k137_7.toInt) (b := 1) rfl (by decide) (by omega) (by omega)
                          refine lv_goto (tgt := 137) hx hb dX12_findSoonest_213 (by decide) ?_
                          exact ih_137_169 ((k137_7 + 1), k137_tr) ls H locs (show Int.toNat (5 - (k137_7 + 1).toInt) < Int.toNat (5 - k137_7.toInt) from g_up (show k137_7.toInt < (k137_7 + 1).toInt by omega) (show k137_7.toInt < 5 by omega)) ⟨lv_sub hl [0, 2, 3, 4, 5, 6, 7, 8] rfl, hP.sub [0, 1, 5, 6, 2, 3, 4] rfl, hD.sub [0, 1, 5, 6, 2, 3, 4] (by decide) rfl, hS, ⟨by omega, by omega⟩⟩
                        ·
                          have i_184 : z182.toInt = 0 := by have z := g5_neN (a := z182.toInt) (b := 0) (by rfl) (by decide) c_184; omega
                          refine lv_aload_n hx hb dX12_findSoonest_194 rfl (lv_at hl 5 rfl) ?_
                          refine va_get (D := G.1) (ci := 12) (v := .ref b_tr) (C := RX12) (T := TX12) (N := 52) hx hb hts inG_X12 hown hK hP 5 rfl rfl 47 (by decide) (hts _ fl_X12_98) (fun _ h9 => h9) rfl dX12_findSoonest_195 ?_
                          refine lv_bipush (v := 64) hx hb dX12_findSoonest_198 (by decide) ?_
                          refine lv_iload hx hb dX12_findSoonest_200 (lv_at hl 4 rfl) ?_
                          refine lv_iconst (v := 1) hx hb dX12_findSoonest_202 (by decide) ?_
                          refine lv_iadd hx hb dX12_findSoonest_203 ?_
                          have t_186 : (k62_5 + 1).toInt = k62_5.toInt + 1 := g5_iadd (a := k62_5.toInt) (b := 1) (by rfl) (by decide) (by omega) (by omega)
                          refine lv_imul hx hb dX12_findSoonest_204 ?_
                          have t_187 : (64 * (k62_5 + 1)).toInt = 64 * (k62_5 + 1).toInt := g5_imul (a := 64) (b := (k62_5 + 1).toInt) (by decide) (by rfl) (by omega) (by omega)
                          refine lv_iload hx hb dX12_findSoonest_205 (lv_at hl 0 rfl) ?_
                          refine lv_iadd hx hb dX12_findSoonest_207 ?_
                          have t_188 : ((64 * (k62_5 + 1)) + z176).toInt = (64 * (k62_5 + 1)).toInt + z176.toInt := g5_iadd (a := (64 * (k62_5 + 1)).toInt) (b := z176.toInt) (by rfl) (by rfl) (by omega) (by omega)
                          refine lv_iconst (v := 1) hx hb dX12_findSoonest_208 (by decide) ?_
                          refine va_zast hx hb hK hP hD hS 0 2 rfl rfl (i := ((64 * (k62_5 + 1)) + z176)) (x := 1) (vp_in_iff.mpr ⟨by omega, by omega⟩) dX12_findSoonest_209 (fun H locs hP hD hS => ?_)
                          refine g5_rs [(b_tr, (arZ G 1536 (upd k137_tr ((64 * (k62_5 + 1)) + z176).toNatClampNeg 1))), (b_ld, (arZ G 1536 k78_ld)), (b_se, (arJ G 13 z160)), (b_re, (arJ G 400 z161)), (b_pt, (arI G 200 z162)), (b_o, (oc12 u_th u_sa b_rf b_ro b_im b_ke u_fd b_tp u_td u_fr u_to u_so u_wo u_fa u_bd u_nc b_nl u_co b_op b_ar u_le b_pi b_pa u_pd u_od b_ws b_hw z149 b_se b_re z150 z151 z152 z153 z154 z155 z156 z157 b_pt z158 z159 b_ip u_ic b_ah b_be b_me u_wd b_tr b_ld u_st b_wn u_id)), (b_ro, (arI G 5740 v_ro))] hP hD (fun hP hD => ?_)
                          refine lv_iinc (v := (k137_7 + 1)) (lv' := [(7, .int (k137_7 + 1)), (8, .int z176), (4, .int k78_4), (6, .int k78_6), (5, .int k62_5), (0, .ref b_o), (1, .int p_1), (2, .int p_2), (3, .int p_3)]) hx hb dX12_findSoonest_210 hl (k := 1) rfl rfl (by decide) rfl (fun ls hl => ?_)
                          have t_189 : (k137_7 + 1).toInt = k137_7.toInt + 1 := g5_iadd (a := k137_7.toInt) (b := 1) rfl (by decide) (by omega) (by omega)
                          refine lv_goto (tgt := 137) hx hb dX12_findSoonest_213 (by decide) ?_
                          exact ih_137_169 ((k137_7 + 1), (upd k137_tr ((64 * (k62_5 + 1)) + z176).toNatClampNeg 1)) ls H locs (show Int.toNat (5 - (k137_7 + 1).toInt) < Int.toNat (5 - k137_7.toInt) from g_up (show k137_7.toInt < (k137_7 + 1).toInt by omega) (show k137_7.toInt < 5 by omega)) ⟨lv_sub hl [0, 2, 3, 4, 5, 6, 7, 8] rfl, hP.sub [0, 1, 5, 6, 2, 3, 4] rfl, hD.sub [0, 1, 5, 6, 2, 3, 4] (by decide) rfl, hS, ⟨by omega, by omega⟩⟩
                      ·
                        have i_180 : z176.toInt < 0 := by have z := g5_geN (a := z176.toInt) (b := 0) (by rfl) (by decide) c_180; omega
                        omega
                  ·
                    have i_174 : k137_7.toInt = 4 := by have z := g5_neN (a := k137_7.toInt) (b := 4) (by rfl) (by decide) c_174; omega
                    refine lv_iload hx hb dX12_findSoonest_156 (lv_at hl 2 rfl) ?_
                    refine lv_goto (tgt := 168) hx hb dX12_findSoonest_158 (by decide) ?_
                    refine lv_istore (lv' := [(8, .int k78_6), (7, .int k137_7), (4, .int k78_4), (6, .int k78_6), (5, .int k62_5), (0, .ref b_o), (1, .int p_1), (2, .int p_2), (3, .int p_3)]) hx hb dX12_findSoonest_168 hl (by decide) rfl (fun ls hl => ?_)
                    refine lv_iload hx hb dX12_findSoonest_170 (lv_at hl 0 rfl) ?_
                    refine lv_iconst (v := (-1)) hx hb dX12_findSoonest_172 (by decide) ?_
                    refine lv_icmp_eq (tgt := 210) hx hb dX12_findSoonest_173 (by decide) (fun c_190 => ?_) (fun c_190 => ?_)
                    ·
                      have i_190 : k78_6.toInt = (-1) := by have z := g5_eq (a := k78_6.toInt) (b := (-1)) (by rfl) (by decide) c_190; omega
                      omega
                    ·
                      have n_190 : gNe (k78_6.toInt) ((-1)) := by have z := g5_eqN (a := k78_6.toInt) (b := (-1)) (by rfl) (by decide) c_190; unfold gNe; omega
                      refine lv_aload_n hx hb dX12_findSoonest_176 rfl (lv_at hl 5 rfl) ?_
                      refine lv_iload hx hb dX12_findSoonest_177 (lv_at hl 0 rfl) ?_
                      refine lv_if_ge (tgt := 186) hx hb dX12_findSoonest_179 (by decide) (fun c_191 => ?_) (fun c_191 => ?_)
                      ·
                        have i_191 : k78_6.toInt ≥ 0 := by have z := g5_ge (a := k78_6.toInt) (b := 0) (by rfl) (by decide) c_191; omega
                        refine lv_iload hx hb dX12_findSoonest_186 (lv_at hl 0 rfl) ?_
                        obtain ⟨hPc, hDc, hFc⟩ := g5_sub3 (wc := [(b_o, (oc12 u_th u_sa b_rf b_ro b_im b_ke u_fd b_tp u_td u_fr u_to u_so u_wo u_fa u_bd u_nc b_nl u_co b_op b_ar u_le b_pi b_pa u_pd u_od b_ws b_hw z149 b_se b_re z150 z151 z152 z153 z154 z155 z156 z157 b_pt z158 z159 b_ip u_ic b_ah b_be b_me u_wd b_tr b_ld u_st b_wn u_id)), (b_ro, (arI G 5740 v_ro))]) hP hD hS hA [2, 3] (by decide) rfl
                        refine va_calli (va_runV (As := [.int k78_6]) (rest := []) ⟨hx, hb, hml, hown, hts⟩ (n_isWall l G b_o b_ro b_rf b_im b_ke b_tp b_nl b_op b_ar b_pi b_pa b_ws b_hw b_se b_re b_pt b_ip b_ah b_be b_me b_tr b_ld b_wn H.size u_th u_sa u_fd u_td u_fr u_to u_so u_fa u_bd u_nc u_co u_le u_pd u_od z149 z150 z153 z154 z155 z156 z157 z158 z159 u_ic u_wd u_id k78_6 u_wo z151 z152 u_st v_ro h_u_td h_u_fr h_u_to h_u_bd h_u_nc h_u_co h_u_pd i_140 i_141 i_142 i_143 i_144 i_145 i_146 h_u_ic h_u_id ⟨by omega, by omega⟩ (r_ro)) (cwV 1 hts gV_X12_160 rfl rfl rfl hv_X12_isWall ⟨Nat.le_of_ble_eq_true rfl, Nat.le_of_ble_eq_true rfl⟩) (g5_preV hPc hK hDc hN hT hS hFc (ci := 12) (q0 := 0) rfl rfl) rfl rfl hl.1 rfl (lv_room (Nat.le_of_ble_eq_true rfl)) dX12_findSoonest_188 ⟨Nat.le_of_ble_eq_true rfl, Nat.le_of_ble_eq_true rfl⟩) hS (fun q _ h => hFc q h) hFc (fun r u t H1 locs ht hvm hw hB hz1 hk1 hS => ?_)
                        obtain ⟨hP1, hD1⟩ := hB
                        rw [ht] at hP1
                        obtain ⟨z193, i_192, y194, rfl⟩ := hw
                        have i_192 : 0 ≤ z193.toInt ∧ z193.toInt ≤ 1 := i_192
                        obtain ⟨hP, hD⟩ := va_join (wr := [(b_tr, (arZ G 1536 k137_tr)), (b_ld, (arZ G 1536 k78_ld)), (b_se, (arJ G 13 z160)), (b_re, (arJ G 400 z161)), (b_pt, (arI G 200 z162))]) hP hD [2, 3] [0, 1, 4, 5, 6] rfl rfl (by decide) (by decide) hk1 hFc hP1 hD1
                        generalize H1 = H at hP hS ⊢
                        refine g5_rs [(b_tr, (arZ G 1536 k137_tr)), (b_ld, (arZ G 1536 k78_ld)), (b_se, (arJ G 13 z160)), (b_re, (arJ G 400 z161)), (b_pt, (arI G 200 z162)), (b_o, (oc12 u_th u_sa b_rf b_ro b_im b_ke u_fd b_tp u_td u_fr u_to u_so u_wo u_fa u_bd u_nc b_nl u_co b_op b_ar u_le b_pi b_pa u_pd u_od b_ws b_hw z149 b_se b_re z150 z151 z152 z153 z154 z155 z156 z157 b_pt z158 z159 b_ip u_ic b_ah b_be b_me u_wd b_tr b_ld u_st b_wn u_id)), (b_ro, (arI G 5740 v_ro))] hP hD (fun hP hD => ?_)
                        refine g5_ti (v := z193) y194 ?_
                        refine lv_if_ne (tgt := 210) hx hb dX12_findSoonest_191 (by decide) (fun c_195 => ?_) (fun c_195 => ?_)
                        ·
                          have n_195 : gNe (z193.toInt) (0) := by have z := g5_ne (a := z193.toInt) (b := 0) (by rfl) (by decide) c_195; unfold gNe; omega
                          have i_195 : z193.toInt ≥ 1 := by have z := g5_ne (a := z193.toInt) (b := 0) (by rfl) (by decide) c_195; omega
                          refine lv_iinc (v := (k137_7 + 1)) (lv' := [(7, .int (k137_7 + 1)), (8, .int k78_6), (4, .int k78_4), (6, .int k78_6), (5, .int k62_5), (0, .ref b_o), (1, .int p_1), (2, .int p_2), (3, .int p_3)]) hx hb dX12_findSoonest_210 hl (k := 1) rfl rfl (by decide) rfl (fun ls hl => ?_)
                          have t_196 : (k137_7 + 1).toInt = k137_7.toInt + 1 := g5_iadd (a := k137_7.toInt) (b := 1) rfl (by decide) (by omega) (by omega)
                          refine lv_goto (tgt := 137) hx hb dX12_findSoonest_213 (by decide) ?_
                          exact ih_137_169 ((k137_7 + 1), k137_tr) ls H locs (show Int.toNat (5 - (k137_7 + 1).toInt) < Int.toNat (5 - k137_7.toInt) from g_up (show k137_7.toInt < (k137_7 + 1).toInt by omega) (show k137_7.toInt < 5 by omega)) ⟨lv_sub hl [0, 2, 3, 4, 5, 6, 7, 8] rfl, hP.sub [0, 1, 5, 6, 2, 3, 4] rfl, hD.sub [0, 1, 5, 6, 2, 3, 4] (by decide) rfl, hS, ⟨by omega, by omega⟩⟩
                        ·
                          have i_195 : z193.toInt = 0 := by have z := g5_neN (a := z193.toInt) (b := 0) (by rfl) (by decide) c_195; omega
                          refine lv_aload_n hx hb dX12_findSoonest_194 rfl (lv_at hl 5 rfl) ?_
                          refine va_get (D := G.1) (ci := 12) (v := .ref b_tr) (C := RX12) (T := TX12) (N := 52) hx hb hts inG_X12 hown hK hP 5 rfl rfl 47 (by decide) (hts _ fl_X12_98) (fun _ h9 => h9) rfl dX12_findSoonest_195 ?_
                          refine lv_bipush (v := 64) hx hb dX12_findSoonest_198 (by decide) ?_
                          refine lv_iload hx hb dX12_findSoonest_200 (lv_at hl 4 rfl) ?_
                          refine lv_iconst (v := 1) hx hb dX12_findSoonest_202 (by decide) ?_
                          refine lv_iadd hx hb dX12_findSoonest_203 ?_
                          have t_197 : (k62_5 + 1).toInt = k62_5.toInt + 1 := g5_iadd (a := k62_5.toInt) (b := 1) (by rfl) (by decide) (by omega) (by omega)
                          refine lv_imul hx hb dX12_findSoonest_204 ?_
                          have t_198 : (64 * (k62_5 + 1)).toInt = 64 * (k62_5 + 1).toInt := g5_imul (a := 64) (b := (k62_5 + 1).toInt) (by decide) (by rfl) (by omega) (by omega)
                          refine lv_iload hx hb dX12_findSoonest_205 (lv_at hl 0 rfl) ?_
                          refine lv_iadd hx hb dX12_findSoonest_207 ?_
                          have t_199 : ((64 * (k62_5 + 1)) + k78_6).toInt = (64 * (k62_5 + 1)).toInt + k78_6.toInt := g5_iadd (a := (64 * (k62_5 + 1)).toInt) (b := k78_6.toInt) (by rfl) (by rfl) (by omega) (by omega)
                          refine lv_iconst (v := 1) hx hb dX12_findSoonest_208 (by decide) ?_
                          refine va_zast hx hb hK hP hD hS 0 2 rfl rfl (i := ((64 * (k62_5 + 1)) + k78_6)) (x := 1) (vp_in_iff.mpr ⟨by omega, by omega⟩) dX12_findSoonest_209 (fun H locs hP hD hS => ?_)
                          refine g5_rs [(b_tr, (arZ G 1536 (upd k137_tr ((64 * (k62_5 + 1)) + k78_6).toNatClampNeg 1))), (b_ld, (arZ G 1536 k78_ld)), (b_se, (arJ G 13 z160)), (b_re, (arJ G 400 z161)), (b_pt, (arI G 200 z162)), (b_o, (oc12 u_th u_sa b_rf b_ro b_im b_ke u_fd b_tp u_td u_fr u_to u_so u_wo u_fa u_bd u_nc b_nl u_co b_op b_ar u_le b_pi b_pa u_pd u_od b_ws b_hw z149 b_se b_re z150 z151 z152 z153 z154 z155 z156 z157 b_pt z158 z159 b_ip u_ic b_ah b_be b_me u_wd b_tr b_ld u_st b_wn u_id)), (b_ro, (arI G 5740 v_ro))] hP hD (fun hP hD => ?_)
                          refine lv_iinc (v := (k137_7 + 1)) (lv' := [(7, .int (k137_7 + 1)), (8, .int k78_6), (4, .int k78_4), (6, .int k78_6), (5, .int k62_5), (0, .ref b_o), (1, .int p_1), (2, .int p_2), (3, .int p_3)]) hx hb dX12_findSoonest_210 hl (k := 1) rfl rfl (by decide) rfl (fun ls hl => ?_)
                          have t_200 : (k137_7 + 1).toInt = k137_7.toInt + 1 := g5_iadd (a := k137_7.toInt) (b := 1) rfl (by decide) (by omega) (by omega)
                          refine lv_goto (tgt := 137) hx hb dX12_findSoonest_213 (by decide) ?_
                          exact ih_137_169 ((k137_7 + 1), (upd k137_tr ((64 * (k62_5 + 1)) + k78_6).toNatClampNeg 1)) ls H locs (show Int.toNat (5 - (k137_7 + 1).toInt) < Int.toNat (5 - k137_7.toInt) from g_up (show k137_7.toInt < (k137_7 + 1).toInt by omega) (show k137_7.toInt < 5 by omega)) ⟨lv_sub hl [0, 2, 3, 4, 5, 6, 7, 8] rfl, hP.sub [0, 1, 5, 6, 2, 3, 4] rfl, hD.sub [0, 1, 5, 6, 2, 3, 4] (by decide) rfl, hS, ⟨by omega, by omega⟩⟩
                      ·
                        have i_191 : k78_6.toInt < 0 := by have z := g5_geN (a := k78_6.toInt) (b := 0) (by rfl) (by decide) c_191; omega
                        omega
            ·
              have n_167 : gNe (z165.toInt) (0) := by have z := g5_eqN (a := z165.toInt) (b := 0) (by rfl) (by decide) c_167; unfold gNe; omega
              have i_167 : z165.toInt ≥ 1 := by have z := g5_eqN (a := z165.toInt) (b := 0) (by rfl) (by decide) c_167; omega
              refine lv_aload_n hx hb dX12_findSoonest_116 rfl (lv_at hl 3 rfl) ?_
              refine va_get (D := G.1) (ci := 12) (v := .ref b_ld) (C := RX12) (T := TX12) (N := 52) hx hb hts inG_X12 hown hK hP 2 rfl rfl 48 (by decide) (hts _ fl_X12_101) (fun _ h9 => h9) rfl dX12_findSoonest_117 ?_
              refine lv_bipush (v := 64) hx hb dX12_findSoonest_120 (by decide) ?_
              refine lv_iload hx hb dX12_findSoonest_122 (lv_at hl 2 rfl) ?_
              refine lv_imul hx hb dX12_findSoonest_124 ?_
              have t_201 : (64 * k62_5).toInt = 64 * k62_5.toInt := g5_imul (a := 64) (b := k62_5.toInt) (by decide) (by rfl) (by omega) (by omega)
              refine lv_iload hx hb dX12_findSoonest_125 (lv_at hl 1 rfl) ?_
              refine lv_iadd hx hb dX12_findSoonest_127 ?_
              have t_202 : ((64 * k62_5) + k78_6).toInt = (64 * k62_5).toInt + k78_6.toInt := g5_iadd (a := (64 * k62_5).toInt) (b := k78_6.toInt) (by rfl) (by rfl) (by omega) (by omega)
              refine lv_iconst (v := 1) hx hb dX12_findSoonest_128 (by decide) ?_
              refine va_zast hx hb hK hP hD hS 1 2 rfl rfl (i := ((64 * k62_5) + k78_6)) (x := 1) (vp_in_iff.mpr ⟨by omega, by omega⟩) dX12_findSoonest_129 (fun H locs hP hD hS => ?_)
              refine g5_rs [(b_tr, (arZ G 1536 k78_tr)), (b_ld, (arZ G 1536 (upd k78_ld ((64 * k62_5) + k78_6).toNatClampNeg 1))), (b_o, (oc12 u_th u_sa b_rf b_ro b_im b_ke u_fd b_tp u_td u_fr u_to u_so u_wo u_fa u_bd u_nc b_nl u_co b_op b_ar u_le b_pi b_pa u_pd u_od b_ws b_hw z149 b_se b_re z150 z151 z152 z153 z154 z155 z156 z157 b_pt z158 z159 b_ip u_ic b_ah b_be b_me u_wd b_tr b_ld u_st b_wn u_id)), (b_ro, (arI G 5740 v_ro)), (b_se, (arJ G 13 z160)), (b_re, (arJ G 400 z161)), (b_pt, (arI G 200 z162))] hP hD (fun hP hD => ?_)
              refine lv_iload hx hb dX12_findSoonest_130 (lv_at hl 2 rfl) ?_
              refine lv_istore (lv' := [(4, .int k62_5), (6, .int k78_6), (5, .int k62_5), (0, .ref b_o), (1, .int p_1), (2, .int p_2), (3, .int p_3)]) hx hb dX12_findSoonest_132 hl (by decide) rfl (fun ls hl => ?_)
              refine lv_iconst (v := 0) hx hb dX12_findSoonest_134 (by decide) ?_
              refine lv_istore (lv' := [(7, .int 0), (4, .int k62_5), (6, .int k78_6), (5, .int k62_5), (0, .ref b_o), (1, .int p_1), (2, .int p_2), (3, .int p_3)]) hx hb dX12_findSoonest_135 hl (by decide) rfl (fun ls hl => ?_)
              refine g5_loop (α := (Int32) × (Nat → Int32)) (fun (q : (Int32) × (Nat → Int32)) (ls : Array Slot) (H : Heap) (locs : List Loc) => match q with | (k137_7, k137_tr) => lv_has ls 9 [(7, .int k137_7), (4, .int k62_5), (6, .int k78_6), (5, .int k62_5), (0, .ref b_o), (1, .int p_1), (2, .int p_2), (3, .int p_3)] ∧ va_P G.1 vwCl [(b_tr, (arZ G 1536 k137_tr)), (b_ld, (arZ G 1536 (upd k78_ld ((64 * k62_5) + k78_6).toNatClampNeg 1))), (b_o, (oc12 u_th u_sa b_rf b_ro b_im b_ke u_fd b_tp u_td u_fr u_to u_so u_wo u_fa u_bd u_nc b_nl u_co b_op b_ar u_le b_pi b_pa u_pd u_od b_ws b_hw z149 b_se b_re z150 z151 z152 z153 z154 z155 z156 z157 b_pt z158 z159 b_ip u_ic b_ah b_be b_me u_wd b_tr b_ld u_st b_wn u_id)), (b_ro, (arI G 5740 v_ro)), (b_se, (arJ G 13 z160)), (b_re, (arJ G 400 z161)), (b_pt, (arI G 200 z162))] H ∧ va_D A [(b_tr, (arZ G 1536 k137_tr)), (b_ld, (arZ G 1536 (upd k78_ld ((64 * k62_5) + k78_6).toNatClampNeg 1))), (b_o, (oc12 u_th u_sa b_rf b_ro b_im b_ke u_fd b_tp u_td u_fr u_to u_so u_wo u_fa u_bd u_nc b_nl u_co b_op b_ar u_le b_pi b_pa u_pd u_od b_ws b_hw z149 b_se b_re z150 z151 z152 z153 z154 z155 z156 z157 b_pt z158 z159 b_ip u_ic b_ah b_be b_me u_wd b_tr b_ld u_st b_wn u_id)), (b_ro, (arI G 5740 v_ro)), (b_se, (arJ G 13 z160)), (b_re, (arJ G 400 z161)), (b_pt, (arI G 200 z162))] ∧ va_S A s.heap H locs ∧ (0 ≤ k137_7.toInt ∧ k137_7.toInt ≤ 5)) (fun (q : (Int32) × (Nat → Int32)) => match q with | (k137_7, k137_tr) => Int.toNat (5 - k137_7.toInt)) (0, k78_tr) ⟨lv_sub hl [0, 1, 2, 3, 4, 5, 6, 7] rfl, hP, hD, hS, ⟨by decide, by decide⟩⟩ ?_
              rintro ⟨k137_7, k137_tr⟩ ls H locs ⟨hl, hP, hD, hS, i_203⟩ ih_137_204
              have hl : lv_has ls 9 [(7, .int k137_7), (4, .int k62_5), (6, .int k78_6), (5, .int k62_5), (0, .ref b_o), (1, .int p_1), (2, .int p_2), (3, .int p_3)] := hl
              have i_203 : 0 ≤ k137_7.toInt ∧ k137_7.toInt ≤ 5 := i_203
              refine g5_rs [(b_tr, (arZ G 1536 k137_tr)), (b_ld, (arZ G 1536 (upd k78_ld ((64 * k62_5) + k78_6).toNatClampNeg 1))), (b_o, (oc12 u_th u_sa b_rf b_ro b_im b_ke u_fd b_tp u_td u_fr u_to u_so u_wo u_fa u_bd u_nc b_nl u_co b_op b_ar u_le b_pi b_pa u_pd u_od b_ws b_hw z149 b_se b_re z150 z151 z152 z153 z154 z155 z156 z157 b_pt z158 z159 b_ip u_ic b_ah b_be b_me u_wd b_tr b_ld u_st b_wn u_id)), (b_ro, (arI G 5740 v_ro)), (b_se, (arJ G 13 z160)), (b_re, (arJ G 400 z161)), (b_pt, (arI G 200 z162))] hP hD (fun hP hD => ?_)
              refine lv_iload hx hb dX12_findSoonest_137 (lv_at hl 0 rfl) ?_
              refine lv_iconst (v := 5) hx hb dX12_findSoonest_139 (by decide) ?_
              refine lv_icmp_ge (tgt := 216) hx hb dX12_findSoonest_140 (by decide) (fun c_205 => ?_) (fun c_205 => ?_)
              ·
                have i_205 : k137_7.toInt ≥ 5 := by have z := g5_ge (a := k137_7.toInt) (b := 5) (by rfl) (by decide) c_205; omega
                refine lv_iinc (v := (k78_6 + 1)) (lv' := [(6, .int (k78_6 + 1)), (7, .int k137_7), (4, .int k62_5), (5, .int k62_5), (0, .ref b_o), (1, .int p_1), (2, .int p_2), (3, .int p_3)]) hx hb dX12_findSoonest_216 hl (k := 2) rfl rfl (by decide) rfl (fun ls hl => ?_)
                have t_206 : (k78_6 + 1).toInt = k78_6.toInt + 1 := g5_iadd (a := k78_6.toInt) (b := 1) rfl (by decide) (by omega) (by omega)
                refine lv_goto (tgt := 78) hx hb dX12_findSoonest_219 (by decide) ?_
                exact ih_78_133 ((k78_6 + 1), k62_5, z149, z150, z151, z152, z153, z154, z155, z156, z157, z158, z159, z160, z161, z162, k137_tr, (upd k78_ld ((64 * k62_5) + k78_6).toNatClampNeg 1)) ls H locs (show Int.toNat (64 - (k78_6 + 1).toInt) < Int.toNat (64 - k78_6.toInt) from g_up (show k78_6.toInt < (k78_6 + 1).toInt by omega) (show k78_6.toInt < 64 by omega)) ⟨lv_sub hl [2, 0, 3, 4, 5, 6, 7] rfl, hP.sub [2, 3, 4, 5, 6, 0, 1] rfl, hD.sub [2, 3, 4, 5, 6, 0, 1] (by decide) rfl, hS, ⟨by omega, by omega⟩, ⟨by omega, by omega⟩, i_140, i_141, i_142, i_143, i_144, i_145, i_146, i_147⟩
              ·
                have i_205 : k137_7.toInt < 5 := by have z := g5_geN (a := k137_7.toInt) (b := 5) (by rfl) (by decide) c_205; omega
                refine lv_iload hx hb dX12_findSoonest_143 (lv_at hl 3 rfl) ?_
                refine lv_bipush (v := 23) hx hb dX12_findSoonest_145 (by decide) ?_
                refine lv_icmp_ge (tgt := 216) hx hb dX12_findSoonest_147 (by decide) (fun c_207 => ?_) (fun c_207 => ?_)
                ·
                  have i_207 : k62_5.toInt ≥ 23 := by have z := g5_ge (a := k62_5.toInt) (b := 23) (by rfl) (by decide) c_207; omega
                  refine lv_iinc (v := (k78_6 + 1)) (lv' := [(6, .int (k78_6 + 1)), (7, .int k137_7), (4, .int k62_5), (5, .int k62_5), (0, .ref b_o), (1, .int p_1), (2, .int p_2), (3, .int p_3)]) hx hb dX12_findSoonest_216 hl (k := 2) rfl rfl (by decide) rfl (fun ls hl => ?_)
                  have t_208 : (k78_6 + 1).toInt = k78_6.toInt + 1 := g5_iadd (a := k78_6.toInt) (b := 1) rfl (by decide) (by omega) (by omega)
                  refine lv_goto (tgt := 78) hx hb dX12_findSoonest_219 (by decide) ?_
                  exact ih_78_133 ((k78_6 + 1), k62_5, z149, z150, z151, z152, z153, z154, z155, z156, z157, z158, z159, z160, z161, z162, k137_tr, (upd k78_ld ((64 * k62_5) + k78_6).toNatClampNeg 1)) ls H locs (show Int.toNat (64 - (k78_6 + 1).toInt) < Int.toNat (64 - k78_6.toInt) from g_up (show k78_6.toInt < (k78_6 + 1).toInt by omega) (show k78_6.toInt < 64 by omega)) ⟨lv_sub hl [2, 0, 3, 4, 5, 6, 7] rfl, hP.sub [2, 3, 4, 5, 6, 0, 1] rfl, hD.sub [2, 3, 4, 5, 6, 0, 1] (by decide) rfl, hS, ⟨by omega, by omega⟩, ⟨by omega, by omega⟩, i_140, i_141, i_142, i_143, i_144, i_145, i_146, i_147⟩
                ·
                  have i_207 : k62_5.toInt < 23 := by have z := g5_geN (a := k62_5.toInt) (b := 23) (by rfl) (by decide) c_207; omega
                  refine lv_iload hx hb dX12_findSoonest_150 (lv_at hl 0 rfl) ?_
                  refine lv_iconst (v := 4) hx hb dX12_findSoonest_152 (by decide) ?_
                  refine lv_icmp_ne (tgt := 161) hx hb dX12_findSoonest_153 (by decide) (fun c_209 => ?_) (fun c_209 => ?_)
                  ·
                    have n_209 : gNe (k137_7.toInt) (4) := by have z := g5_ne (a := k137_7.toInt) (b := 4) (by rfl) (by decide) c_209; unfold gNe; omega
                    have i_209 : k137_7.toInt ≤ 3 := by have z := g5_ne (a := k137_7.toInt) (b := 4) (by rfl) (by decide) c_209; omega
                    refine lv_iload hx hb dX12_findSoonest_161 (lv_at hl 2 rfl) ?_
                    refine lv_iload hx hb dX12_findSoonest_163 (lv_at hl 0 rfl) ?_
                    obtain ⟨hPc, hDc, hFc⟩ := g5_sub3 (wc := []) hP hD hS hA [] (by decide) rfl
                    refine va_calli (va_runS (As := [.int k78_6, .int k137_7]) (rest := []) ⟨hx, hb, hml, hown, hts⟩ (n_beside l G H.size k78_6 k137_7 ⟨by omega, by omega⟩) (va_cwS 2 hts gS_X12_374 rfl rfl rfl hs_X12_beside ⟨Nat.le_of_ble_eq_true rfl, Nat.le_of_ble_eq_true rfl⟩) (g5_preS hPc hK hDc hN hT hS hFc) rfl rfl hl.1 rfl (lv_room (Nat.le_of_ble_eq_true rfl)) dX12_findSoonest_165 ⟨Nat.le_of_ble_eq_true rfl, Nat.le_of_ble_eq_true rfl⟩) hS (fun q _ h => hFc q h) hFc (fun r u t H1 locs ht hvm hw hB hz1 hk1 hS => ?_)
                    obtain ⟨hP1, hD1⟩ := hB
                    rw [ht] at hP1
                    obtain ⟨z211, i_210, y212, rfl⟩ := hw
                    have i_210 : -1 ≤ z211.toInt ∧ z211.toInt ≤ 63 := i_210
                    have hP := g5_same hP hk1
                    generalize H1 = H at hP hS ⊢
                    refine g5_ti (v := z211) y212 ?_
                    refine lv_istore (lv' := [(8, .int z211), (7, .int k137_7), (4, .int k62_5), (6, .int k78_6), (5, .int k62_5), (0, .ref b_o), (1, .int p_1), (2, .int p_2), (3, .int p_3)]) hx hb dX12_findSoonest_168 hl (by decide) rfl (fun ls hl => ?_)
                    refine lv_iload hx hb dX12_findSoonest_170 (lv_at hl 0 rfl) ?_
                    refine lv_iconst (v := (-1)) hx hb dX12_findSoonest_172 (by decide) ?_
                    refine lv_icmp_eq (tgt := 210) hx hb dX12_findSoonest_173 (by decide) (fun c_213 => ?_) (fun c_213 => ?_)
                    ·
                      have i_213 : z211.toInt = (-1) := by have z := g5_eq (a := z211.toInt) (b := (-1)) (by rfl) (by decide) c_213; omega
                      refine lv_iinc (v := (k137_7 + 1)) (lv' := [(7, .int (k137_7 + 1)), (8, .int z211), (4, .int k62_5), (6, .int k78_6), (5, .int k62_5), (0, .ref b_o), (1, .int p_1), (2, .int p_2), (3, .int p_3)]) hx hb dX12_findSoonest_210 hl (k := 1) rfl rfl (by decide) rfl (fun ls hl => ?_)
                      have t_214 : (k137_7 + 1).toInt = k137_7.toInt + 1 := g5_iadd (a := k137_7.toInt) (b := 1) rfl (by decide) (by omega) (by omega)
                      refine lv_goto (tgt := 137) hx hb dX12_findSoonest_213 (by decide) ?_
                      exact ih_137_204 ((k137_7 + 1), k137_tr) ls H locs (show Int.toNat (5 - (k137_7 + 1).toInt) < Int.toNat (5 - k137_7.toInt) from g_up (show k137_7.toInt < (k137_7 + 1).toInt by omega) (show k137_7.toInt < 5 by omega)) ⟨lv_sub hl [0, 2, 3, 4, 5, 6, 7, 8] rfl, hP, hD, hS, ⟨by omega, by omega⟩⟩
                    ·
                      have n_213 : gNe (z211.toInt) ((-1)) := by have z := g5_eqN (a := z211.toInt) (b := (-1)) (by rfl) (by decide) c_213; unfold gNe; omega
                      have i_213 : z211.toInt ≥ 0 := by have z := g5_eqN (a := z211.toInt) (b := (-1)) (by rfl) (by decide) c_213; omega
                      refine lv_aload_n hx hb dX12_findSoonest_176 rfl (lv_at hl 5 rfl) ?_
                      refine lv_iload hx hb dX12_findSoonest_177 (lv_at hl 0 rfl) ?_
                      refine lv_if_ge (tgt := 186) hx hb dX12_findSoonest_179 (by decide) (fun c_215 => ?_) (fun c_215 => ?_)
                      ·
                        have i_215 : z211.toInt ≥ 0 := by have z := g5_ge (a := z211.toInt) (b := 0) (by rfl) (by decide) c_215; omega
                        refine lv_iload hx hb dX12_findSoonest_186 (lv_at hl 0 rfl) ?_
                        obtain ⟨hPc, hDc, hFc⟩ := g5_sub3 (wc := [(b_o, (oc12 u_th u_sa b_rf b_ro b_im b_ke u_fd b_tp u_td u_fr u_to u_so u_wo u_fa u_bd u_nc b_nl u_co b_op b_ar u_le b_pi b_pa u_pd u_od b_ws b_hw z149 b_se b_re z150 z151 z152 z153 z154 z155 z156 z157 b_pt z158 z159 b_ip u_ic b_ah b_be b_me u_wd b_tr b_ld u_st b_wn u_id)), (b_ro, (arI G 5740 v_ro))]) hP hD hS hA [2, 3] (by decide) rfl
                        refine va_calli (va_runV (As := [.int z211]) (rest := []) ⟨hx, hb, hml, hown, hts⟩ (n_isWall l G b_o b_ro b_rf b_im b_ke b_tp b_nl b_op b_ar b_pi b_pa b_ws b_hw b_se b_re b_pt b_ip b_ah b_be b_me b_tr b_ld b_wn H.size u_th u_sa u_fd u_td u_fr u_to u_so u_fa u_bd u_nc u_co u_le u_pd u_od z149 z150 z153 z154 z155 z156 z157 z158 z159 u_ic u_wd u_id z211 u_wo z151 z152 u_st v_ro h_u_td h_u_fr h_u_to h_u_bd h_u_nc h_u_co h_u_pd i_140 i_141 i_142 i_143 i_144 i_145 i_146 h_u_ic h_u_id ⟨by omega, by omega⟩ (r_ro)) (cwV 1 hts gV_X12_160 rfl rfl rfl hv_X12_isWall ⟨Nat.le_of_ble_eq_true rfl, Nat.le_of_ble_eq_true rfl⟩) (g5_preV hPc hK hDc hN hT hS hFc (ci := 12) (q0 := 0) rfl rfl) rfl rfl hl.1 rfl (lv_room (Nat.le_of_ble_eq_true rfl)) dX12_findSoonest_188 ⟨Nat.le_of_ble_eq_true rfl, Nat.le_of_ble_eq_true rfl⟩) hS (fun q _ h => hFc q h) hFc (fun r u t H1 locs ht hvm hw hB hz1 hk1 hS => ?_)
                        obtain ⟨hP1, hD1⟩ := hB
                        rw [ht] at hP1
                        obtain ⟨z217, i_216, y218, rfl⟩ := hw
                        have i_216 : 0 ≤ z217.toInt ∧ z217.toInt ≤ 1 := i_216
                        obtain ⟨hP, hD⟩ := va_join (wr := [(b_tr, (arZ G 1536 k137_tr)), (b_ld, (arZ G 1536 (upd k78_ld ((64 * k62_5) + k78_6).toNatClampNeg 1))), (b_se, (arJ G 13 z160)), (b_re, (arJ G 400 z161)), (b_pt, (arI G 200 z162))]) hP hD [2, 3] [0, 1, 4, 5, 6] rfl rfl (by decide) (by decide) hk1 hFc hP1 hD1
                        generalize H1 = H at hP hS ⊢
                        refine g5_rs [(b_tr, (arZ G 1536 k137_tr)), (b_ld, (arZ G 1536 (upd k78_ld ((64 * k62_5) + k78_6).toNatClampNeg 1))), (b_se, (arJ G 13 z160)), (b_re, (arJ G 400 z161)), (b_pt, (arI G 200 z162)), (b_o, (oc12 u_th u_sa b_rf b_ro b_im b_ke u_fd b_tp u_td u_fr u_to u_so u_wo u_fa u_bd u_nc b_nl u_co b_op b_ar u_le b_pi b_pa u_pd u_od b_ws b_hw z149 b_se b_re z150 z151 z152 z153 z154 z155 z156 z157 b_pt z158 z159 b_ip u_ic b_ah b_be b_me u_wd b_tr b_ld u_st b_wn u_id)), (b_ro, (arI G 5740 v_ro))] hP hD (fun hP hD => ?_)
                        refine g5_ti (v := z217) y218 ?_
                        refine lv_if_ne (tgt := 210) hx hb dX12_findSoonest_191 (by decide) (fun c_219 => ?_) (fun c_219 => ?_)
                        ·
                          have n_219 : gNe (z217.toInt) (0) := by have z := g5_ne (a := z217.toInt) (b := 0) (by rfl) (by decide) c_219; unfold gNe; omega
                          have i_219 : z217.toInt ≥ 1 := by have z := g5_ne (a := z217.toInt) (b := 0) (by rfl) (by decide) c_219; omega
                          refine lv_iinc (v := (k137_7 + 1)) (lv' := [(7, .int (k137_7 + 1)), (8, .int z211), (4, .int k62_5), (6, .int k78_6), (5, .int k62_5), (0, .ref b_o), (1, .int p_1), (2, .int p_2), (3, .int p_3)]) hx hb dX12_findSoonest_210 hl (k := 1) rfl rfl (by decide) rfl (fun ls hl => ?_)
                          have t_220 : (k137_7 + 1).toInt = k137_7.toInt + 1 := g5_iadd (a := k137_7.toInt) (b := 1) rfl (by decide) (by omega) (by omega)
                          refine lv_goto (tgt := 137) hx hb dX12_findSoonest_213 (by decide) ?_
                          exact ih_137_204 ((k137_7 + 1), k137_tr) ls H locs (show Int.toNat (5 - (k137_7 + 1).toInt) < Int.toNat (5 - k137_7.toInt) from g_up (show k137_7.toInt < (k137_7 + 1).toInt by omega) (show k137_7.toInt < 5 by omega)) ⟨lv_sub hl [0, 2, 3, 4, 5, 6, 7, 8] rfl, hP.sub [0, 1, 5, 6, 2, 3, 4] rfl, hD.sub [0, 1, 5, 6, 2, 3, 4] (by decide) rfl, hS, ⟨by omega, by omega⟩⟩
                        ·
                          have i_219 : z217.toInt = 0 := by have z := g5_neN (a := z217.toInt) (b := 0) (by rfl) (by decide) c_219; omega
                          refine lv_aload_n hx hb dX12_findSoonest_194 rfl (lv_at hl 5 rfl) ?_
                          refine va_get (D := G.1) (ci := 12) (v := .ref b_tr) (C := RX12) (T := TX12) (N := 52) hx hb hts inG_X12 hown hK hP 5 rfl rfl 47 (by decide) (hts _ fl_X12_98) (fun _ h9 => h9) rfl dX12_findSoonest_195 ?_
                          refine lv_bipush (v := 64) hx hb dX12_findSoonest_198 (by decide) ?_
                          refine lv_iload hx hb dX12_findSoonest_200 (lv_at hl 4 rfl) ?_
                          refine lv_iconst (v := 1) hx hb dX12_findSoonest_202 (by decide) ?_
                          refine lv_iadd hx hb dX12_findSoonest_203 ?_
                          have t_221 : (k62_5 + 1).toInt = k62_5.toInt + 1 := g5_iadd (a := k62_5.toInt) (b := 1) (by rfl) (by decide) (by omega) (by omega)
                          refine lv_imul hx hb dX12_findSoonest_204 ?_
                          have t_222 : (64 * (k62_5 + 1)).toInt = 64 * (k62_5 + 1).toInt := g5_imul (a := 64) (b := (k62_5 + 1).toInt) (by decide) (by rfl) (by omega) (by omega)
                          refine lv_iload hx hb dX12_findSoonest_205 (lv_at hl 0 rfl) ?_
                          refine lv_iadd hx hb dX12_findSoonest_207 ?_
                          have t_223 : ((64 * (k62_5 + 1)) + z211).toInt = (64 * (k62_5 + 1)).toInt + z211.toInt := g5_iadd (a := (64 * (k62_5 + 1)).toInt) (b := z211.toInt) (by rfl) (by rfl) (by omega) (by omega)
                          refine lv_iconst (v := 1) hx hb dX12_findSoonest_208 (by decide) ?_
                          refine va_zast hx hb hK hP hD hS 0 2 rfl rfl (i := ((64 * (k62_5 + 1)) + z211)) (x := 1) (vp_in_iff.mpr ⟨by omega, by omega⟩) dX12_findSoonest_209 (fun H locs hP hD hS => ?_)
                          refine g5_rs [(b_tr, (arZ G 1536 (upd k137_tr ((64 * (k62_5 + 1)) + z211).toNatClampNeg 1))), (b_ld, (arZ G 1536 (upd k78_ld ((64 * k62_5) + k78_6).toNatClampNeg 1))), (b_se, (arJ G 13 z160)), (b_re, (arJ G 400 z161)), (b_pt, (arI G 200 z162)), (b_o, (oc12 u_th u_sa b_rf b_ro b_im b_ke u_fd b_tp u_td u_fr u_to u_so u_wo u_fa u_bd u_nc b_nl u_co b_op b_ar u_le b_pi b_pa u_pd u_od b_ws b_hw z149 b_se b_re z150 z151 z152 z153 z154 z155 z156 z157 b_pt z158 z159 b_ip u_ic b_ah b_be b_me u_wd b_tr b_ld u_st b_wn u_id)), (b_ro, (arI G 5740 v_ro))] hP hD (fun hP hD => ?_)
                          refine lv_iinc (v := (k137_7 + 1)) (lv' := [(7, .int (k137_7 + 1)), (8, .int z211), (4, .int k62_5), (6, .int k78_6), (5, .int k62_5), (0, .ref b_o), (1, .int p_1), (2, .int p_2), (3, .int p_3)]) hx hb dX12_findSoonest_210 hl (k := 1) rfl rfl (by decide) rfl (fun ls hl => ?_)
                          have t_224 : (k137_7 + 1).toInt = k137_7.toInt + 1 := g5_iadd (a := k137_7.toInt) (b := 1) rfl (by decide) (by omega) (by omega)
                          refine lv_goto (tgt := 137) hx hb dX12_findSoonest_213 (by decide) ?_
                          exact ih_137_204 ((k137_7 + 1), (upd k137_tr ((64 * (k62_5 + 1)) + z211).toNatClampNeg 1)) ls H locs (show Int.toNat (5 - (k137_7 + 1).toInt) < Int.toNat (5 - k137_7.toInt) from g_up (show k137_7.toInt < (k137_7 + 1).toInt by omega) (show k137_7.toInt < 5 by omega)) ⟨lv_sub hl [0, 2, 3, 4, 5, 6, 7, 8] rfl, hP.sub [0, 1, 5, 6, 2, 3, 4] rfl, hD.sub [0, 1, 5, 6, 2, 3, 4] (by decide) rfl, hS, ⟨by omega, by omega⟩⟩
                      ·
                        have i_215 : z211.toInt < 0 := by have z := g5_geN (a := z211.toInt) (b := 0) (by rfl) (by decide) c_215; omega
                        omega
                  ·
                    have i_209 : k137_7.toInt = 4 := by have z := g5_neN (a := k137_7.toInt) (b := 4) (by rfl) (by decide) c_209; omega
                    refine lv_iload hx hb dX12_findSoonest_156 (lv_at hl 2 rfl) ?_
                    refine lv_goto (tgt := 168) hx hb dX12_findSoonest_158 (by decide) ?_
                    refine lv_istore (lv' := [(8, .int k78_6), (7, .int k137_7), (4, .int k62_5), (6, .int k78_6), (5, .int k62_5), (0, .ref b_o), (1, .int p_1), (2, .int p_2), (3, .int p_3)]) hx hb dX12_findSoonest_168 hl (by decide) rfl (fun ls hl => ?_)
                    refine lv_iload hx hb dX12_findSoonest_170 (lv_at hl 0 rfl) ?_
                    refine lv_iconst (v := (-1)) hx hb dX12_findSoonest_172 (by decide) ?_
                    refine lv_icmp_eq (tgt := 210) hx hb dX12_findSoonest_173 (by decide) (fun c_225 => ?_) (fun c_225 => ?_)
                    ·
                      have i_225 : k78_6.toInt = (-1) := by have z := g5_eq (a := k78_6.toInt) (b := (-1)) (by rfl) (by decide) c_225; omega
                      omega
                    ·
                      have n_225 : gNe (k78_6.toInt) ((-1)) := by have z := g5_eqN (a := k78_6.toInt) (b := (-1)) (by rfl) (by decide) c_225; unfold gNe; omega
                      refine lv_aload_n hx hb dX12_findSoonest_176 rfl (lv_at hl 5 rfl) ?_
                      refine lv_iload hx hb dX12_findSoonest_177 (lv_at hl 0 rfl) ?_
                      refine lv_if_ge (tgt := 186) hx hb dX12_findSoonest_179 (by decide) (fun c_226 => ?_) (fun c_226 => ?_)
                      ·
                        have i_226 : k78_6.toInt ≥ 0 := by have z := g5_ge (a := k78_6.toInt) (b := 0) (by rfl) (by decide) c_226; omega
                        refine lv_iload hx hb dX12_findSoonest_186 (lv_at hl 0 rfl) ?_
                        obtain ⟨hPc, hDc, hFc⟩ := g5_sub3 (wc := [(b_o, (oc12 u_th u_sa b_rf b_ro b_im b_ke u_fd b_tp u_td u_fr u_to u_so u_wo u_fa u_bd u_nc b_nl u_co b_op b_ar u_le b_pi b_pa u_pd u_od b_ws b_hw z149 b_se b_re z150 z151 z152 z153 z154 z155 z156 z157 b_pt z158 z159 b_ip u_ic b_ah b_be b_me u_wd b_tr b_ld u_st b_wn u_id)), (b_ro, (arI G 5740 v_ro))]) hP hD hS hA [2, 3] (by decide) rfl
                        refine va_calli (va_runV (As := [.int k78_6]) (rest := []) ⟨hx, hb, hml, hown, hts⟩ (n_isWall l G b_o b_ro b_rf b_im b_ke b_tp b_nl b_op b_ar b_pi b_pa b_ws b_hw b_se b_re b_pt b_ip b_ah b_be b_me b_tr b_ld b_wn H.size u_th u_sa u_fd u_td u_fr u_to u_so u_fa u_bd u_nc u_co u_le u_pd u_od z149 z150 z153 z154 z155 z156 z157 z158 z159 u_ic u_wd u_id k78_6 u_wo z151 z152 u_st v_ro h_u_td h_u_fr h_u_to h_u_bd h_u_nc h_u_co h_u_pd i_140 i_141 i_142 i_143 i_144 i_145 i_146 h_u_ic h_u_id ⟨by omega, by omega⟩ (r_ro)) (cwV 1 hts gV_X12_160 rfl rfl rfl hv_X12_isWall ⟨Nat.le_of_ble_eq_true rfl, Nat.le_of_ble_eq_true rfl⟩) (g5_preV hPc hK hDc hN hT hS hFc (ci := 12) (q0 := 0) rfl rfl) rfl rfl hl.1 rfl (lv_room (Nat.le_of_ble_eq_true rfl)) dX12_findSoonest_188 ⟨Nat.le_of_ble_eq_true rfl, Nat.le_of_ble_eq_true rfl⟩) hS (fun q _ h => hFc q h) hFc (fun r u t H1 locs ht hvm hw hB hz1 hk1 hS => ?_)
                        obtain ⟨hP1, hD1⟩ := hB
                        rw [ht] at hP1
                        obtain ⟨z228, i_227, y229, rfl⟩ := hw
                        have i_227 : 0 ≤ z228.toInt ∧ z228.toInt ≤ 1 := i_227
                        obtain ⟨hP, hD⟩ := va_join (wr := [(b_tr, (arZ G 1536 k137_tr)), (b_ld, (arZ G 1536 (upd k78_ld ((64 * k62_5) + k78_6).toNatClampNeg 1))), (b_se, (arJ G 13 z160)), (b_re, (arJ G 400 z161)), (b_pt, (arI G 200 z162))]) hP hD [2, 3] [0, 1, 4, 5, 6] rfl rfl (by decide) (by decide) hk1 hFc hP1 hD1
                        generalize H1 = H at hP hS ⊢
                        refine g5_rs [(b_tr, (arZ G 1536 k137_tr)), (b_ld, (arZ G 1536 (upd k78_ld ((64 * k62_5) + k78_6).toNatClampNeg 1))), (b_se, (arJ G 13 z160)), (b_re, (arJ G 400 z161)), (b_pt, (arI G 200 z162)), (b_o, (oc12 u_th u_sa b_rf b_ro b_im b_ke u_fd b_tp u_td u_fr u_to u_so u_wo u_fa u_bd u_nc b_nl u_co b_op b_ar u_le b_pi b_pa u_pd u_od b_ws b_hw z149 b_se b_re z150 z151 z152 z153 z154 z155 z156 z157 b_pt z158 z159 b_ip u_ic b_ah b_be b_me u_wd b_tr b_ld u_st b_wn u_id)), (b_ro, (arI G 5740 v_ro))] hP hD (fun hP hD => ?_)
                        refine g5_ti (v := z228) y229 ?_
                        refine lv_if_ne (tgt := 210) hx hb dX12_findSoonest_191 (by decide) (fun c_230 => ?_) (fun c_230 => ?_)
                        ·
                          have n_230 : gNe (z228.toInt) (0) := by have z := g5_ne (a := z228.toInt) (b := 0) (by rfl) (by decide) c_230; unfold gNe; omega
                          have i_230 : z228.toInt ≥ 1 := by have z := g5_ne (a := z228.toInt) (b := 0) (by rfl) (by decide) c_230; omega
                          refine lv_iinc (v := (k137_7 + 1)) (lv' := [(7, .int (k137_7 + 1)), (8, .int k78_6), (4, .int k62_5), (6, .int k78_6), (5, .int k62_5), (0, .ref b_o), (1, .int p_1), (2, .int p_2), (3, .int p_3)]) hx hb dX12_findSoonest_210 hl (k := 1) rfl rfl (by decide) rfl (fun ls hl => ?_)
                          have t_231 : (k137_7 + 1).toInt = k137_7.toInt + 1 := g5_iadd (a := k137_7.toInt) (b := 1) rfl (by decide) (by omega) (by omega)
                          refine lv_goto (tgt := 137) hx hb dX12_findSoonest_213 (by decide) ?_
                          exact ih_137_204 ((k137_7 + 1), k137_tr) ls H locs (show Int.toNat (5 - (k137_7 + 1).toInt) < Int.toNat (5 - k137_7.toInt) from g_up (show k137_7.toInt < (k137_7 + 1).toInt by omega) (show k137_7.toInt < 5 by omega)) ⟨lv_sub hl [0, 2, 3, 4, 5, 6, 7, 8] rfl, hP.sub [0, 1, 5, 6, 2, 3, 4] rfl, hD.sub [0, 1, 5, 6, 2, 3, 4] (by decide) rfl, hS, ⟨by omega, by omega⟩⟩
                        ·
                          have i_230 : z228.toInt = 0 := by have z := g5_neN (a := z228.toInt) (b := 0) (by rfl) (by decide) c_230; omega
                          refine lv_aload_n hx hb dX12_findSoonest_194 rfl (lv_at hl 5 rfl) ?_
                          refine va_get (D := G.1) (ci := 12) (v := .ref b_tr) (C := RX12) (T := TX12) (N := 52) hx hb hts inG_X12 hown hK hP 5 rfl rfl 47 (by decide) (hts _ fl_X12_98) (fun _ h9 => h9) rfl dX12_findSoonest_195 ?_
                          refine lv_bipush (v := 64) hx hb dX12_findSoonest_198 (by decide) ?_
                          refine lv_iload hx hb dX12_findSoonest_200 (lv_at hl 4 rfl) ?_
                          refine lv_iconst (v := 1) hx hb dX12_findSoonest_202 (by decide) ?_
                          refine lv_iadd hx hb dX12_findSoonest_203 ?_
                          have t_232 : (k62_5 + 1).toInt = k62_5.toInt + 1 := g5_iadd (a := k62_5.toInt) (b := 1) (by rfl) (by decide) (by omega) (by omega)
                          refine lv_imul hx hb dX12_findSoonest_204 ?_
                          have t_233 : (64 * (k62_5 + 1)).toInt = 64 * (k62_5 + 1).toInt := g5_imul (a := 64) (b := (k62_5 + 1).toInt) (by decide) (by rfl) (by omega) (by omega)
                          refine lv_iload hx hb dX12_findSoonest_205 (lv_at hl 0 rfl) ?_
                          refine lv_iadd hx hb dX12_findSoonest_207 ?_
                          have t_234 : ((64 * (k62_5 + 1)) + k78_6).toInt = (64 * (k62_5 + 1)).toInt + k78_6.toInt := g5_iadd (a := (64 * (k62_5 + 1)).toInt) (b := k78_6.toInt) (by rfl) (by rfl) (by omega) (by omega)
                          refine lv_iconst (v := 1) hx hb dX12_findSoonest_208 (by decide) ?_
                          refine va_zast hx hb hK hP hD hS 0 2 rfl rfl (i := ((64 * (k62_5 + 1)) + k78_6)) (x := 1) (vp_in_iff.mpr ⟨by omega, by omega⟩) dX12_findSoonest_209 (fun H locs hP hD hS => ?_)
                          refine g5_rs [(b_tr, (arZ G 1536 (upd k137_tr ((64 * (k62_5 + 1)) + k78_6).toNatClampNeg 1))), (b_ld, (arZ G 1536 (upd k78_ld ((64 * k62_5) + k78_6).toNatClampNeg 1))), (b_se, (arJ G 13 z160)), (b_re, (arJ G 400 z161)), (b_pt, (arI G 200 z162)), (b_o, (oc12 u_th u_sa b_rf b_ro b_im b_ke u_fd b_tp u_td u_fr u_to u_so u_wo u_fa u_bd u_nc b_nl u_co b_op b_ar u_le b_pi b_pa u_pd u_od b_ws b_hw z149 b_se b_re z150 z151 z152 z153 z154 z155 z156 z157 b_pt z158 z159 b_ip u_ic b_ah b_be b_me u_wd b_tr b_ld u_st b_wn u_id)), (b_ro, (arI G 5740 v_ro))] hP hD (fun hP hD => ?_)
                          refine lv_iinc (v := (k137_7 + 1)) (lv' := [(7, .int (k137_7 + 1)), (8, .int k78_6), (4, .int k62_5), (6, .int k78_6), (5, .int k62_5), (0, .ref b_o), (1, .int p_1), (2, .int p_2), (3, .int p_3)]) hx hb dX12_findSoonest_210 hl (k := 1) rfl rfl (by decide) rfl (fun ls hl => ?_)
                          have t_235 : (k137_7 + 1).toInt = k137_7.toInt + 1 := g5_iadd (a := k137_7.toInt) (b := 1) rfl (by decide) (by omega) (by omega)
                          refine lv_goto (tgt := 137) hx hb dX12_findSoonest_213 (by decide) ?_
                          exact ih_137_204 ((k137_7 + 1), (upd k137_tr ((64 * (k62_5 + 1)) + k78_6).toNatClampNeg 1)) ls H locs (show Int.toNat (5 - (k137_7 + 1).toInt) < Int.toNat (5 - k137_7.toInt) from g_up (show k137_7.toInt < (k137_7 + 1).toInt by omega) (show k137_7.toInt < 5 by omega)) ⟨lv_sub hl [0, 2, 3, 4, 5, 6, 7, 8] rfl, hP.sub [0, 1, 5, 6, 2, 3, 4] rfl, hD.sub [0, 1, 5, 6, 2, 3, 4] (by decide) rfl, hS, ⟨by omega, by omega⟩⟩
                      ·
                        have i_226 : k78_6.toInt < 0 := by have z := g5_geN (a := k78_6.toInt) (b := 0) (by rfl) (by decide) c_226; omega
                        omega
  ·
    have i_3 : k3_4.toInt < 1536 := by have z := g5_geN (a := k3_4.toInt) (b := 1536) (by rfl) (by decide) c_3; omega
    refine lv_aload_n hx hb dX12_findSoonest_11 rfl (lv_at hl 1 rfl) ?_
    refine va_get (D := G.1) (ci := 12) (v := .ref b_tr) (C := RX12) (T := TX12) (N := 52) hx hb hts inG_X12 hown hK hP 0 rfl rfl 47 (by decide) (hts _ fl_X12_98) (fun _ h9 => h9) rfl dX12_findSoonest_12 ?_
    refine lv_iload hx hb dX12_findSoonest_15 (lv_at hl 0 rfl) ?_
    refine lv_iload hx hb dX12_findSoonest_17 (lv_at hl 0 rfl) ?_
    refine lv_bipush (v := 64) hx hb dX12_findSoonest_19 (by decide) ?_
    refine lv_iload_n hx hb dX12_findSoonest_21 rfl (lv_at hl 4 rfl) ?_
    refine lv_imul hx hb dX12_findSoonest_22 ?_
    have t_236 : (64 * p_3).toInt = 64 * p_3.toInt := g5_imul (a := 64) (b := p_3.toInt) (by decide) (by rfl) (by omega) (by omega)
    refine lv_iload_n hx hb dX12_findSoonest_23 rfl (lv_at hl 3 rfl) ?_
    refine lv_iadd hx hb dX12_findSoonest_24 ?_
    have t_237 : ((64 * p_3) + p_2).toInt = (64 * p_3).toInt + p_2.toInt := g5_iadd (a := (64 * p_3).toInt) (b := p_2.toInt) (by rfl) (by rfl) (by omega) (by omega)
    refine lv_icmp_ne (tgt := 40) hx hb dX12_findSoonest_25 (by decide) (fun c_238 => ?_) (fun c_238 => ?_)
    ·
      have n_238 : gNe (k3_4.toInt) (((64 * p_3.toInt) + p_2.toInt)) := by have z := g5_ne (a := k3_4.toInt) (b := ((64 * p_3) + p_2).toInt) (by rfl) (by rfl) c_238; unfold gNe; omega
      refine lv_iconst (v := 0) hx hb dX12_findSoonest_40 (by decide) ?_
      refine va_zast hx hb hK hP hD hS 5 2 rfl rfl (i := k3_4) (x := 0) (vp_in_iff.mpr ⟨by omega, by omega⟩) dX12_findSoonest_41 (fun H locs hP hD hS => ?_)
      refine g5_rs [(b_o, (oc12 u_th u_sa b_rf b_ro b_im b_ke u_fd b_tp u_td u_fr u_to u_so u_wo u_fa u_bd u_nc b_nl u_co b_op b_ar u_le b_pi b_pa u_pd u_od b_ws b_hw u_la b_se b_re u_bk u_va u_su u_ce u_ho u_wy u_bt u_ps b_pt u_tg u_sn b_ip u_ic b_ah b_be b_me u_wd b_tr b_ld u_st b_wn u_id)), (b_ro, (arI G 5740 v_ro)), (b_se, (arJ G 13 v_se)), (b_re, (arJ G 400 v_re)), (b_pt, (arI G 200 v_pt)), (b_tr, (arZ G 1536 (upd k3_tr k3_4.toNatClampNeg 0))), (b_ld, (arZ G 1536 k3_ld))] hP hD (fun hP hD => ?_)
      refine lv_aload_n hx hb dX12_findSoonest_42 rfl (lv_at hl 1 rfl) ?_
      refine va_get (D := G.1) (ci := 12) (v := .ref b_ld) (C := RX12) (T := TX12) (N := 52) hx hb hts inG_X12 hown hK hP 0 rfl rfl 48 (by decide) (hts _ fl_X12_101) (fun _ h9 => h9) rfl dX12_findSoonest_43 ?_
      refine lv_iload hx hb dX12_findSoonest_46 (lv_at hl 0 rfl) ?_
      refine lv_iconst (v := 0) hx hb dX12_findSoonest_48 (by decide) ?_
      refine va_zast hx hb hK hP hD hS 6 2 rfl rfl (i := k3_4) (x := 0) (vp_in_iff.mpr ⟨by omega, by omega⟩) dX12_findSoonest_49 (fun H locs hP hD hS => ?_)
      refine g5_rs [(b_o, (oc12 u_th u_sa b_rf b_ro b_im b_ke u_fd b_tp u_td u_fr u_to u_so u_wo u_fa u_bd u_nc b_nl u_co b_op b_ar u_le b_pi b_pa u_pd u_od b_ws b_hw u_la b_se b_re u_bk u_va u_su u_ce u_ho u_wy u_bt u_ps b_pt u_tg u_sn b_ip u_ic b_ah b_be b_me u_wd b_tr b_ld u_st b_wn u_id)), (b_ro, (arI G 5740 v_ro)), (b_se, (arJ G 13 v_se)), (b_re, (arJ G 400 v_re)), (b_pt, (arI G 200 v_pt)), (b_tr, (arZ G 1536 (upd k3_tr k3_4.toNatClampNeg 0))), (b_ld, (arZ G 1536 (upd k3_ld k3_4.toNatClampNeg 0)))] hP hD (fun hP hD => ?_)
      refine lv_iinc (v := (k3_4 + 1)) (lv' := [(4, .int (k3_4 + 1)), (0, .ref b_o), (1, .int p_1), (2, .int p_2), (3, .int p_3)]) hx hb dX12_findSoonest_50 hl (k := 0) rfl rfl (by decide) rfl (fun ls hl => ?_)
      have t_239 : (k3_4 + 1).toInt = k3_4.toInt + 1 := g5_iadd (a := k3_4.toInt) (b := 1) rfl (by decide) (by omega) (by omega)
      refine lv_goto (tgt := 3) hx hb dX12_findSoonest_53 (by decide) ?_
      exact ih_3_2 ((k3_4 + 1), (upd k3_tr k3_4.toNatClampNeg 0), (upd k3_ld k3_4.toNatClampNeg 0)) ls H locs (show Int.toNat (1536 - (k3_4 + 1).toInt) < Int.toNat (1536 - k3_4.toInt) from g_up (show k3_4.toInt < (k3_4 + 1).toInt by omega) (show k3_4.toInt < 1536 by omega)) ⟨lv_sub hl [0, 1, 2, 3, 4] rfl, hP, hD, hS, ⟨by omega, by omega⟩⟩
    ·
      have i_238 : k3_4.toInt = ((64 * p_3.toInt) + p_2.toInt) := by have z := g5_neN (a := k3_4.toInt) (b := ((64 * p_3) + p_2).toInt) (by rfl) (by rfl) c_238; omega
      refine lv_aload_n hx hb dX12_findSoonest_28 rfl (lv_at hl 1 rfl) ?_
      refine lv_iload_n hx hb dX12_findSoonest_29 rfl (lv_at hl 3 rfl) ?_
      obtain ⟨hPc, hDc, hFc⟩ := g5_sub3 (wc := [(b_o, (oc12 u_th u_sa b_rf b_ro b_im b_ke u_fd b_tp u_td u_fr u_to u_so u_wo u_fa u_bd u_nc b_nl u_co b_op b_ar u_le b_pi b_pa u_pd u_od b_ws b_hw u_la b_se b_re u_bk u_va u_su u_ce u_ho u_wy u_bt u_ps b_pt u_tg u_sn b_ip u_ic b_ah b_be b_me u_wd b_tr b_ld u_st b_wn u_id)), (b_ro, (arI G 5740 v_ro))]) hP hD hS hA [0, 1] (by decide) rfl
      refine va_calli (va_runV (As := [.int p_2]) (rest := [.int k3_4, .ref b_tr]) ⟨hx, hb, hml, hown, hts⟩ (n_isWall l G b_o b_ro b_rf b_im b_ke b_tp b_nl b_op b_ar b_pi b_pa b_ws b_hw b_se b_re b_pt b_ip b_ah b_be b_me b_tr b_ld b_wn H.size u_th u_sa u_fd u_td u_fr u_to u_so u_fa u_bd u_nc u_co u_le u_pd u_od u_la u_bk u_ce u_ho u_wy u_bt u_ps u_tg u_sn u_ic u_wd u_id p_2 u_wo u_va u_su u_st v_ro h_u_td h_u_fr h_u_to h_u_bd h_u_nc h_u_co h_u_pd h_u_la h_u_bk h_u_ce h_u_ho h_u_wy h_u_bt h_u_ps h_u_ic h_u_id h_p_2 (r_ro)) (cwV 1 hts gV_X12_160 rfl rfl rfl hv_X12_isWall ⟨Nat.le_of_ble_eq_true rfl, Nat.le_of_ble_eq_true rfl⟩) (g5_preV hPc hK hDc hN hT hS hFc (ci := 12) (q0 := 0) rfl rfl) rfl rfl hl.1 rfl (lv_room (Nat.le_of_ble_eq_true rfl)) dX12_findSoonest_30 ⟨Nat.le_of_ble_eq_true rfl, Nat.le_of_ble_eq_true rfl⟩) hS (fun q _ h => hFc q h) hFc (fun r u t H1 locs ht hvm hw hB hz1 hk1 hS => ?_)
      obtain ⟨hP1, hD1⟩ := hB
      rw [ht] at hP1
      obtain ⟨z241, i_240, y242, rfl⟩ := hw
      have i_240 : 0 ≤ z241.toInt ∧ z241.toInt ≤ 1 := i_240
      obtain ⟨hP, hD⟩ := va_join (wr := [(b_se, (arJ G 13 v_se)), (b_re, (arJ G 400 v_re)), (b_pt, (arI G 200 v_pt)), (b_tr, (arZ G 1536 k3_tr)), (b_ld, (arZ G 1536 k3_ld))]) hP hD [0, 1] [2, 3, 4, 5, 6] rfl rfl (by decide) (by decide) hk1 hFc hP1 hD1
      generalize H1 = H at hP hS ⊢
      refine g5_rs [(b_se, (arJ G 13 v_se)), (b_re, (arJ G 400 v_re)), (b_pt, (arI G 200 v_pt)), (b_tr, (arZ G 1536 k3_tr)), (b_ld, (arZ G 1536 k3_ld)), (b_o, (oc12 u_th u_sa b_rf b_ro b_im b_ke u_fd b_tp u_td u_fr u_to u_so u_wo u_fa u_bd u_nc b_nl u_co b_op b_ar u_le b_pi b_pa u_pd u_od b_ws b_hw u_la b_se b_re u_bk u_va u_su u_ce u_ho u_wy u_bt u_ps b_pt u_tg u_sn b_ip u_ic b_ah b_be b_me u_wd b_tr b_ld u_st b_wn u_id)), (b_ro, (arI G 5740 v_ro))] hP hD (fun hP hD => ?_)
      refine g5_ti (v := z241) y242 ?_
      refine lv_if_ne (tgt := 40) hx hb dX12_findSoonest_33 (by decide) (fun c_243 => ?_) (fun c_243 => ?_)
      ·
        have n_243 : gNe (z241.toInt) (0) := by have z := g5_ne (a := z241.toInt) (b := 0) (by rfl) (by decide) c_243; unfold gNe; omega
        have i_243 : z241.toInt ≥ 1 := by have z := g5_ne (a := z241.toInt) (b := 0) (by rfl) (by decide) c_243; omega
        refine lv_iconst (v := 0) hx hb dX12_findSoonest_40 (by decide) ?_
        refine va_zast hx hb hK hP hD hS 3 2 rfl rfl (i := k3_4) (x := 0) (vp_in_iff.mpr ⟨by omega, by omega⟩) dX12_findSoonest_41 (fun H locs hP hD hS => ?_)
        refine g5_rs [(b_se, (arJ G 13 v_se)), (b_re, (arJ G 400 v_re)), (b_pt, (arI G 200 v_pt)), (b_tr, (arZ G 1536 (upd k3_tr k3_4.toNatClampNeg 0))), (b_ld, (arZ G 1536 k3_ld)), (b_o, (oc12 u_th u_sa b_rf b_ro b_im b_ke u_fd b_tp u_td u_fr u_to u_so u_wo u_fa u_bd u_nc b_nl u_co b_op b_ar u_le b_pi b_pa u_pd u_od b_ws b_hw u_la b_se b_re u_bk u_va u_su u_ce u_ho u_wy u_bt u_ps b_pt u_tg u_sn b_ip u_ic b_ah b_be b_me u_wd b_tr b_ld u_st b_wn u_id)), (b_ro, (arI G 5740 v_ro))] hP hD (fun hP hD => ?_)
        refine lv_aload_n hx hb dX12_findSoonest_42 rfl (lv_at hl 1 rfl) ?_
        refine va_get (D := G.1) (ci := 12) (v := .ref b_ld) (C := RX12) (T := TX12) (N := 52) hx hb hts inG_X12 hown hK hP 5 rfl rfl 48 (by decide) (hts _ fl_X12_101) (fun _ h9 => h9) rfl dX12_findSoonest_43 ?_
        refine lv_iload hx hb dX12_findSoonest_46 (lv_at hl 0 rfl) ?_
        refine lv_iconst (v := 0) hx hb dX12_findSoonest_48 (by decide) ?_
        refine va_zast hx hb hK hP hD hS 4 2 rfl rfl (i := k3_4) (x := 0) (vp_in_iff.mpr ⟨by omega, by omega⟩) dX12_findSoonest_49 (fun H locs hP hD hS => ?_)
        refine g5_rs [(b_se, (arJ G 13 v_se)), (b_re, (arJ G 400 v_re)), (b_pt, (arI G 200 v_pt)), (b_tr, (arZ G 1536 (upd k3_tr k3_4.toNatClampNeg 0))), (b_ld, (arZ G 1536 (upd k3_ld k3_4.toNatClampNeg 0))), (b_o, (oc12 u_th u_sa b_rf b_ro b_im b_ke u_fd b_tp u_td u_fr u_to u_so u_wo u_fa u_bd u_nc b_nl u_co b_op b_ar u_le b_pi b_pa u_pd u_od b_ws b_hw u_la b_se b_re u_bk u_va u_su u_ce u_ho u_wy u_bt u_ps b_pt u_tg u_sn b_ip u_ic b_ah b_be b_me u_wd b_tr b_ld u_st b_wn u_id)), (b_ro, (arI G 5740 v_ro))] hP hD (fun hP hD => ?_)
        refine lv_iinc (v := (k3_4 + 1)) (lv' := [(4, .int (k3_4 + 1)), (0, .ref b_o), (1, .int p_1), (2, .int p_2), (3, .int p_3)]) hx hb dX12_findSoonest_50 hl (k := 0) rfl rfl (by decide) rfl (fun ls hl => ?_)
        have t_244 : (k3_4 + 1).toInt = k3_4.toInt + 1 := g5_iadd (a := k3_4.toInt) (b := 1) rfl (by decide) (by omega) (by omega)
        refine lv_goto (tgt := 3) hx hb dX12_findSoonest_53 (by decide) ?_
        exact ih_3_2 ((k3_4 + 1), (upd k3_tr k3_4.toNatClampNeg 0), (upd k3_ld k3_4.toNatClampNeg 0)) ls H locs (show Int.toNat (1536 - (k3_4 + 1).toInt) < Int.toNat (1536 - k3_4.toInt) from g_up (show k3_4.toInt < (k3_4 + 1).toInt by omega) (show k3_4.toInt < 1536 by omega)) ⟨lv_sub hl [0, 1, 2, 3, 4] rfl, hP.sub [5, 6, 0, 1, 2, 3, 4] rfl, hD.sub [5, 6, 0, 1, 2, 3, 4] (by decide) rfl, hS, ⟨by omega, by omega⟩⟩
      ·
        have i_243 : z241.toInt = 0 := by have z := g5_neN (a := z241.toInt) (b := 0) (by rfl) (by decide) c_243; omega
        refine lv_iconst (v := 1) hx hb dX12_findSoonest_36 (by decide) ?_
        refine lv_goto (tgt := 41) hx hb dX12_findSoonest_37 (by decide) ?_
        refine va_zast hx hb hK hP hD hS 3 2 rfl rfl (i := k3_4) (x := 1) (vp_in_iff.mpr ⟨by omega, by omega⟩) dX12_findSoonest_41 (fun H locs hP hD hS => ?_)
        refine g5_rs [(b_se, (arJ G 13 v_se)), (b_re, (arJ G 400 v_re)), (b_pt, (arI G 200 v_pt)), (b_tr, (arZ G 1536 (upd k3_tr k3_4.toNatClampNeg 1))), (b_ld, (arZ G 1536 k3_ld)), (b_o, (oc12 u_th u_sa b_rf b_ro b_im b_ke u_fd b_tp u_td u_fr u_to u_so u_wo u_fa u_bd u_nc b_nl u_co b_op b_ar u_le b_pi b_pa u_pd u_od b_ws b_hw u_la b_se b_re u_bk u_va u_su u_ce u_ho u_wy u_bt u_ps b_pt u_tg u_sn b_ip u_ic b_ah b_be b_me u_wd b_tr b_ld u_st b_wn u_id)), (b_ro, (arI G 5740 v_ro))] hP hD (fun hP hD => ?_)
        refine lv_aload_n hx hb dX12_findSoonest_42 rfl (lv_at hl 1 rfl) ?_
        refine va_get (D := G.1) (ci := 12) (v := .ref b_ld) (C := RX12) (T := TX12) (N := 52) hx hb hts inG_X12 hown hK hP 5 rfl rfl 48 (by decide) (hts _ fl_X12_101) (fun _ h9 => h9) rfl dX12_findSoonest_43 ?_
        refine lv_iload hx hb dX12_findSoonest_46 (lv_at hl 0 rfl) ?_
        refine lv_iconst (v := 0) hx hb dX12_findSoonest_48 (by decide) ?_
        refine va_zast hx hb hK hP hD hS 4 2 rfl rfl (i := k3_4) (x := 0) (vp_in_iff.mpr ⟨by omega, by omega⟩) dX12_findSoonest_49 (fun H locs hP hD hS => ?_)
        refine g5_rs [(b_se, (arJ G 13 v_se)), (b_re, (arJ G 400 v_re)), (b_pt, (arI G 200 v_pt)), (b_tr, (arZ G 1536 (upd k3_tr k3_4.toNatClampNeg 1))), (b_ld, (arZ G 1536 (upd k3_ld k3_4.toNatClampNeg 0))), (b_o, (oc12 u_th u_sa b_rf b_ro b_im b_ke u_fd b_tp u_td u_fr u_to u_so u_wo u_fa u_bd u_nc b_nl u_co b_op b_ar u_le b_pi b_pa u_pd u_od b_ws b_hw u_la b_se b_re u_bk u_va u_su u_ce u_ho u_wy u_bt u_ps b_pt u_tg u_sn b_ip u_ic b_ah b_be b_me u_wd b_tr b_ld u_st b_wn u_id)), (b_ro, (arI G 5740 v_ro))] hP hD (fun hP hD => ?_)
        refine lv_iinc (v := (k3_4 + 1)) (lv' := [(4, .int (k3_4 + 1)), (0, .ref b_o), (1, .int p_1), (2, .int p_2), (3, .int p_3)]) hx hb dX12_findSoonest_50 hl (k := 0) rfl rfl (by decide) rfl (fun ls hl => ?_)
        have t_245 : (k3_4 + 1).toInt = k3_4.toInt + 1 := g5_iadd (a := k3_4.toInt) (b := 1) rfl (by decide) (by omega) (by omega)
        refine lv_goto (tgt := 3) hx hb dX12_findSoonest_53 (by decide) ?_
        exact ih_3_2 ((k3_4 + 1), (upd k3_tr k3_4.toNatClampNeg 1), (upd k3_ld k3_4.toNatClampNeg 0)) ls H locs (show Int.toNat (1536 - (k3_4 + 1).toInt) < Int.toNat (1536 - k3_4.toInt) from g_up (show k3_4.toInt < (k3_4 + 1).toInt by omega) (show k3_4.toInt < 1536 by omega)) ⟨lv_sub hl [0, 1, 2, 3, 4] rfl, hP.sub [5, 6, 0, 1, 2, 3, 4] rfl, hD.sub [5, 6, 0, 1, 2, 3, 4] (by decide) rfl, hS, ⟨by omega, by omega⟩⟩
