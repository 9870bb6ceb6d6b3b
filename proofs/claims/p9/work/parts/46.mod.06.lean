set_option maxHeartbeats 4000000 in
set_option maxRecDepth 100000 in
theorem n_hang (l : Launch) (G : g5_G) (b_o b_ro b_se b_re b_pt b_rf b_im b_ke b_tp b_nl b_op b_ar b_pi b_pa b_ws b_hw b_ip b_ah b_be b_me b_tr b_ld b_wn : Nat) (sz : Nat) (u_th : Int32) (u_sa : Int32) (u_fd : Int32) (u_td : Int32) (u_fr : Int32) (u_to : Int32) (u_so : Int32) (u_fa : Int32) (u_bd : Int32) (u_nc : Int32) (u_co : Int32) (u_le : Int32) (u_pd : Int32) (u_od : Int32) (u_la : Int32) (u_bk : Int32) (u_ce : Int32) (u_ho : Int32) (u_wy : Int32) (u_bt : Int32) (u_ps : Int32) (u_tg : Int32) (u_sn : Int32) (u_ic : Int32) (u_wd : Int32) (u_id : Int32) (p_1 : Int32) (u_wo : Int64) (u_va : Int64) (u_su : Int64) (u_st : Int64) (v_ro : Nat → Int32) (v_se : Nat → Int64) (v_re : Nat → Int64) (v_pt : Nat → Int32) (h_u_td : 0 ≤ u_td.toInt ∧ u_td.toInt ≤ 400) (h_u_fr : 0 ≤ u_fr.toInt ∧ u_fr.toInt ≤ 400) (h_u_to : 0 ≤ u_to.toInt ∧ u_to.toInt ≤ 400) (h_u_bd : 0 ≤ u_bd.toInt ∧ u_bd.toInt ≤ 1) (h_u_nc : 0 ≤ u_nc.toInt ∧ u_nc.toInt ≤ 12) (h_u_co : 0 ≤ u_co.toInt ∧ u_co.toInt ≤ 400) (h_u_pd : 0 ≤ u_pd.toInt ∧ u_pd.toInt ≤ 400) (h_u_la : 0 ≤ u_la.toInt ∧ u_la.toInt ≤ 4840) (h_u_bk : 0 ≤ u_bk.toInt ∧ u_bk.toInt ≤ 1) (h_u_ce : 0 ≤ u_ce.toInt ∧ u_ce.toInt ≤ 63) (h_u_ho : 0 ≤ u_ho.toInt ∧ u_ho.toInt ≤ 23) (h_u_wy : 0 ≤ u_wy.toInt ∧ u_wy.toInt ≤ 3) (h_u_bt : 0 ≤ u_bt.toInt ∧ u_bt.toInt ≤ 1000000) (h_u_ps : 0 ≤ u_ps.toInt ∧ u_ps.toInt ≤ 200) (h_u_ic : 0 ≤ u_ic.toInt ∧ u_ic.toInt ≤ 1) (h_u_id : 0 ≤ u_id.toInt ∧ u_id.toInt ≤ 1) (r_ro : MI v_ro) (r_pt : PTI v_pt) : Met l yX12_hang (wsG yX12_hang cX12_hang 7 (some .int)) ({ frames := 8, cells := 0, slots := 0, locals := 202 }) (va_Pc [.ref b_o, .int p_1] (g5_P G [(b_o, (oc12 u_th u_sa b_rf b_ro b_im b_ke u_fd b_tp u_td u_fr u_to u_so u_wo u_fa u_bd u_nc b_nl u_co b_op b_ar u_le b_pi b_pa u_pd u_od b_ws b_hw u_la b_se b_re u_bk u_va u_su u_ce u_ho u_wy u_bt u_ps b_pt u_tg u_sn b_ip u_ic b_ah b_be b_me u_wd b_tr b_ld u_st b_wn u_id)), (b_ro, (arI G 5740 v_ro)), (b_se, (arJ G 13 v_se)), (b_re, (arJ G 400 v_re)), (b_pt, (arI G 200 v_pt))] sz)) (va_Qi (fun (r : Int32) (u : va_W) => (∃ (o_r : Int32) (o_th : Int32) (o_la : Int32) (o_bk : Int32) (o_va : Int64) (o_su : Int64) (o_ce : Int32) (o_ho : Int32) (o_wy : Int32) (o_bt : Int32) (o_ps : Int32) (o_tg : Int32) (o_sn : Int32) (o_se : Nat → Int64) (o_re : Nat → Int64) (o_pt : Nat → Int32), (0 ≤ o_la.toInt ∧ o_la.toInt ≤ 4840) ∧ (0 ≤ o_bk.toInt ∧ o_bk.toInt ≤ 1) ∧ (0 ≤ o_ce.toInt ∧ o_ce.toInt ≤ 63) ∧ (0 ≤ o_ho.toInt ∧ o_ho.toInt ≤ 23) ∧ (0 ≤ o_wy.toInt ∧ o_wy.toInt ≤ 3) ∧ (0 ≤ o_bt.toInt ∧ o_bt.toInt ≤ 1000000) ∧ (0 ≤ o_ps.toInt ∧ o_ps.toInt ≤ 200) ∧ (PTI o_pt) ∧ (r = o_r) ∧ (u = [(b_o, (oc12 o_th u_sa b_rf b_ro b_im b_ke u_fd b_tp u_td u_fr u_to u_so u_wo u_fa u_bd u_nc b_nl u_co b_op b_ar u_le b_pi b_pa u_pd u_od b_ws b_hw o_la b_se b_re o_bk o_va o_su o_ce o_ho o_wy o_bt o_ps b_pt o_tg o_sn b_ip u_ic b_ah b_be b_me u_wd b_tr b_ld u_st b_wn u_id)), (b_ro, (arI G 5740 v_ro)), (b_se, (arJ G 13 o_se)), (b_re, (arJ G 400 o_re)), (b_pt, (arI G 200 o_pt))]))) (g5_B G (va_A [(b_o, (oc12 u_th u_sa b_rf b_ro b_im b_ke u_fd b_tp u_td u_fr u_to u_so u_wo u_fa u_bd u_nc b_nl u_co b_op b_ar u_le b_pi b_pa u_pd u_od b_ws b_hw u_la b_se b_re u_bk u_va u_su u_ce u_ho u_wy u_bt u_ps b_pt u_tg u_sn b_ip u_ic b_ah b_be b_me u_wd b_tr b_ld u_st b_wn u_id)), (b_ro, (arI G 5740 v_ro)), (b_se, (arJ G 13 v_se)), (b_re, (arJ G 400 v_re)), (b_pt, (arI G 200 v_pt))] sz)) (va_A [(b_o, (oc12 u_th u_sa b_rf b_ro b_im b_ke u_fd b_tp u_td u_fr u_to u_so u_wo u_fa u_bd u_nc b_nl u_co b_op b_ar u_le b_pi b_pa u_pd u_od b_ws b_hw u_la b_se b_re u_bk u_va u_su u_ce u_ho u_wy u_bt u_ps b_pt u_tg u_sn b_ip u_ic b_ah b_be b_me u_wd b_tr b_ld u_st b_wn u_id)), (b_ro, (arI G 5740 v_ro)), (b_se, (arJ G 13 v_se)), (b_re, (arJ G 400 v_re)), (b_pt, (arI G 200 v_pt))] sz)) 0 0 (va_A [(b_o, (oc12 u_th u_sa b_rf b_ro b_im b_ke u_fd b_tp u_td u_fr u_to u_so u_wo u_fa u_bd u_nc b_nl u_co b_op b_ar u_le b_pi b_pa u_pd u_od b_ws b_hw u_la b_se b_re u_bk u_va u_su u_ce u_ho u_wy u_bt u_ps b_pt u_tg u_sn b_ip u_ic b_ah b_be b_me u_wd b_tr b_ld u_st b_wn u_id)), (b_ro, (arI G 5740 v_ro)), (b_se, (arJ G 13 v_se)), (b_re, (arJ G 400 v_re)), (b_pt, (arI G 200 v_pt))] sz) := by
  refine Met.ofW (cc := cX12_hang) (maxL := 7) (ret := (some .int)) (by decide) rfl ?_
  intro p e s m args below meth c s₁ B hml hv
  obtain ⟨rfl, hsz, hP, hK, hD0, hN, hT⟩ := hv
  have hx := B.exec
  have hb := B.bytes
  have hr := B.returns
  have hts : ∀ w ∈ tblG, w.before _ s = true := fun w h => atoms_spec (ws := (wsG yX12_hang cX12_hang 7 (some .int))) B.pre w (List.mem_cons_of_mem _ h)
  have hown : s.vm.findClass RX12 = some m.cls := findClass_of_methodNamed B.named
  have hlocks := B.notSynchronized
  subst hsz
  have hD := hD0.self (sz := s.heap.size)
  generalize hAe : va_A [(b_o, (oc12 u_th u_sa b_rf b_ro b_im b_ke u_fd b_tp u_td u_fr u_to u_so u_wo u_fa u_bd u_nc b_nl u_co b_op b_ar u_le b_pi b_pa u_pd u_od b_ws b_hw u_la b_se b_re u_bk u_va u_su u_ce u_ho u_wy u_bt u_ps b_pt u_tg u_sn b_ip u_ic b_ah b_be b_me u_wd b_tr b_ld u_st b_wn u_id)), (b_ro, (arI G 5740 v_ro)), (b_se, (arJ G 13 v_se)), (b_re, (arJ G 400 v_re)), (b_pt, (arI G 200 v_pt))] s.heap.size = A at hD hT ⊢
  have hA : ∀ q : Nat, s.heap.size ≤ q → A q := fun q h => by rw [← hAe]; exact Or.inr h
  have hS : va_S A s.heap s.heap [] := va_S.rf
  have hP : va_P G.1 vwCl [(b_o, (oc12 u_th u_sa b_rf b_ro b_im b_ke u_fd b_tp u_td u_fr u_to u_so u_wo u_fa u_bd u_nc b_nl u_co b_op b_ar u_le b_pi b_pa u_pd u_od b_ws b_hw u_la b_se b_re u_bk u_va u_su u_ce u_ho u_wy u_bt u_ps b_pt u_tg u_sn b_ip u_ic b_ah b_be b_me u_wd b_tr b_ld u_st b_wn u_id)), (b_ro, (arI G 5740 v_ro)), (b_se, (arJ G 13 v_se)), (b_re, (arJ G 400 v_re)), (b_pt, (arI G 200 v_pt))] s.heap := hP
  have hl := lv_entry ([.ref b_o, .int p_1]) (n := 7) (Nat.le_of_ble_eq_true rfl)
  rw [lg_entry_eq]
  generalize (lg_sl ([.ref b_o, .int p_1]) ++ List.replicate (7 - (lg_sl ([.ref b_o, .int p_1])).length) Slot.unset).toArray = ls at hl ⊢
  have hl : lv_has ls 7 [(0, .ref b_o), (1, .int p_1)] := hl
  refine lv_aload_n hx hb dX12_hang_0 rfl (lv_at hl 0 rfl) ?_
  refine lv_iconst (v := 0) hx hb dX12_hang_1 (by decide) ?_
  refine va_put (D := G.1) (ci := 12) (v := .int 0) (ty := .int) (C := RX12) (T := TX12) (N := 52) hx hb hts inG_X12 tyX12 tyX12_ok nmX12 hown hK hP hD hS 0 rfl rfl 0 (by decide) (hts _ fl_X12_107) (fun _ h9 => h9) rfl (by decide +kernel) rfl rfl (Nat.le_of_ble_eq_true rfl) dX12_hang_2 (fun H locs hP hD hS => ?_)
  refine g5_rs [(b_o, (oc12 0 u_sa b_rf b_ro b_im b_ke u_fd b_tp u_td u_fr u_to u_so u_wo u_fa u_bd u_nc b_nl u_co b_op b_ar u_le b_pi b_pa u_pd u_od b_ws b_hw u_la b_se b_re u_bk u_va u_su u_ce u_ho u_wy u_bt u_ps b_pt u_tg u_sn b_ip u_ic b_ah b_be b_me u_wd b_tr b_ld u_st b_wn u_id)), (b_ro, (arI G 5740 v_ro)), (b_se, (arJ G 13 v_se)), (b_re, (arJ G 400 v_re)), (b_pt, (arI G 200 v_pt))] hP hD (fun hP hD => ?_)
  refine lv_iload_n hx hb dX12_hang_5 rfl (lv_at hl 1 rfl) ?_
  refine lv_i2l (v := p_1.toInt64) hx hb dX12_hang_6 rfl ?_
  refine lv_lconst (v := 0) hx hb dX12_hang_7 (by decide) ?_
  refine lv_ldc2 (v := 2) hx hb hown (hts _ kl_X12_411) dX12_hang_8 ?_
  obtain ⟨hPc, hDc, hFc⟩ := g5_sub3 (wc := []) hP hD hS hA [] (by decide) rfl
  refine va_calli (va_runS (As := [.long p_1.toInt64, .long 0, .long 2]) (rest := []) ⟨hx, hb, hml, hown, hts⟩ (n_in_0_2 l G H.size p_1) (va_cwS 3 hts gS_X12_121 rfl rfl rfl hs_X12_in ⟨Nat.le_of_ble_eq_true rfl, Nat.le_of_ble_eq_true rfl⟩) (g5_preS hPc hK hDc hN hT hS hFc) rfl rfl hl.1 rfl (lv_room (Nat.le_of_ble_eq_true rfl)) dX12_hang_11 ⟨Nat.le_of_ble_eq_true rfl, Nat.le_of_ble_eq_true rfl⟩) hS (fun q _ h => hFc q h) hFc (fun r u t H1 locs ht hvm hw hB hz1 hk1 hS => ?_)
  obtain ⟨hP1, hD1⟩ := hB
  rw [ht] at hP1
  rcases hw with ⟨i_1, rfl, rfl⟩ | ⟨i_2, rfl, rfl⟩
  ·
    have i_1 : p_1.toInt < 0 ∨ 2 < p_1.toInt := i_1
    have hP := g5_same hP hk1
    generalize H1 = H at hP hS ⊢
    refine lv_if_ne (tgt := 19) hx hb dX12_hang_14 (by decide) (fun c_3 => ?_) (fun c_3 => ?_)
    ·
      exact absurd c_3 (by decide)
    ·
      refine lv_iconst (v := (-1)) hx hb dX12_hang_17 (by decide) ?_
      exact W.iret (v := (-1)) hx hb hr (fun t ht hW => ⟨⟨(-1), [(b_o, (oc12 0 u_sa b_rf b_ro b_im b_ke u_fd b_tp u_td u_fr u_to u_so u_wo u_fa u_bd u_nc b_nl u_co b_op b_ar u_le b_pi b_pa u_pd u_od b_ws b_hw u_la b_se b_re u_bk u_va u_su u_ce u_ho u_wy u_bt u_ps b_pt u_tg u_sn b_ip u_ic b_ah b_be b_me u_wd b_tr b_ld u_st b_wn u_id)), (b_ro, (arI G 5740 v_ro)), (b_se, (arJ G 13 v_se)), (b_re, (arJ G 400 v_re)), (b_pt, (arI G 200 v_pt))], rfl, ⟨(-1), 0, u_la, u_bk, u_va, u_su, u_ce, u_ho, u_wy, u_bt, u_ps, u_tg, u_sn, v_se, v_re, v_pt, h_u_la, h_u_bk, h_u_ce, h_u_ho, h_u_wy, h_u_bt, h_u_ps, r_pt, rfl, rfl⟩, by rw [ht]; exact hP.sub [0, 1, 2, 3, 4] rfl, hD.sub [0, 1, 2, 3, 4] (by decide) rfl⟩, hS.F ht⟩) hS.2.2 dX12_hang_18
  ·
    have i_2 : 0 ≤ p_1.toInt ∧ p_1.toInt ≤ 2 := i_2
    have hP := g5_same hP hk1
    generalize H1 = H at hP hS ⊢
    refine lv_if_ne (tgt := 19) hx hb dX12_hang_14 (by decide) (fun c_4 => ?_) (fun c_4 => ?_)
    ·
      refine lv_iconst (v := (-1)) hx hb dX12_hang_19 (by decide) ?_
      refine lv_istore_n (lv' := [(2, .int (-1)), (0, .ref b_o), (1, .int p_1)]) hx hb dX12_hang_20 rfl hl (by decide) rfl (fun ls hl => ?_)
      refine lv_iconst (v := 0) hx hb dX12_hang_21 (by decide) ?_
      refine lv_istore_n (lv' := [(3, .int 0), (2, .int (-1)), (0, .ref b_o), (1, .int p_1)]) hx hb dX12_hang_22 rfl hl (by decide) rfl (fun ls hl => ?_)
      refine lv_iconst (v := (-1)) hx hb dX12_hang_23 (by decide) ?_
      refine lv_istore (lv' := [(4, .int (-1)), (3, .int 0), (2, .int (-1)), (0, .ref b_o), (1, .int p_1)]) hx hb dX12_hang_24 hl (by decide) rfl (fun ls hl => ?_)
      refine lv_iconst (v := 0) hx hb dX12_hang_26 (by decide) ?_
      refine lv_istore (lv' := [(5, .int 0), (4, .int (-1)), (3, .int 0), (2, .int (-1)), (0, .ref b_o), (1, .int p_1)]) hx hb dX12_hang_27 hl (by decide) rfl (fun ls hl => ?_)
      refine g5_loop (α := (Int32) × (Int32) × (Int32) × (Int32) × (Int32) × (Int32) × (Int64) × (Int64) × (Int32) × (Int32) × (Int32) × (Int32) × (Int32) × (Int32) × (Int32) × (Nat → Int64) × (Nat → Int64) × (Nat → Int32)) (fun (q : (Int32) × (Int32) × (Int32) × (Int32) × (Int32) × (Int32) × (Int64) × (Int64) × (Int32) × (Int32) × (Int32) × (Int32) × (Int32) × (Int32) × (Int32) × (Nat → Int64) × (Nat → Int64) × (Nat → Int32)) (ls : Array Slot) (H : Heap) (locs : List Loc) => match q with | (k29_5, k29_4, k29_3, k29_2, k29_la, k29_bk, k29_va, k29_su, k29_ce, k29_ho, k29_wy, k29_bt, k29_ps, k29_tg, k29_sn, k29_se, k29_re, k29_pt) => lv_has ls 7 [(2, .int k29_2), (3, .int k29_3), (4, .int k29_4), (5, .int k29_5), (0, .ref b_o), (1, .int p_1)] ∧ va_P G.1 vwCl [(b_o, (oc12 0 u_sa b_rf b_ro b_im b_ke u_fd b_tp u_td u_fr u_to u_so u_wo u_fa u_bd u_nc b_nl u_co b_op b_ar u_le b_pi b_pa u_pd u_od b_ws b_hw k29_la b_se b_re k29_bk k29_va k29_su k29_ce k29_ho k29_wy k29_bt k29_ps b_pt k29_tg k29_sn b_ip u_ic b_ah b_be b_me u_wd b_tr b_ld u_st b_wn u_id)), (b_ro, (arI G 5740 v_ro)), (b_se, (arJ G 13 k29_se)), (b_re, (arJ G 400 k29_re)), (b_pt, (arI G 200 k29_pt))] H ∧ va_D A [(b_o, (oc12 0 u_sa b_rf b_ro b_im b_ke u_fd b_tp u_td u_fr u_to u_so u_wo u_fa u_bd u_nc b_nl u_co b_op b_ar u_le b_pi b_pa u_pd u_od b_ws b_hw k29_la b_se b_re k29_bk k29_va k29_su k29_ce k29_ho k29_wy k29_bt k29_ps b_pt k29_tg k29_sn b_ip u_ic b_ah b_be b_me u_wd b_tr b_ld u_st b_wn u_id)), (b_ro, (arI G 5740 v_ro)), (b_se, (arJ G 13 k29_se)), (b_re, (arJ G 400 k29_re)), (b_pt, (arI G 200 k29_pt))] ∧ va_S A s.heap H locs ∧ (0 ≤ k29_5.toInt ∧ k29_5.toInt ≤ 256) ∧ (0 ≤ k29_la.toInt ∧ k29_la.toInt ≤ 4840) ∧ (0 ≤ k29_bk.toInt ∧ k29_bk.toInt ≤ 1) ∧ (0 ≤ k29_ce.toInt ∧ k29_ce.toInt ≤ 63) ∧ (0 ≤ k29_ho.toInt ∧ k29_ho.toInt ≤ 23) ∧ (0 ≤ k29_wy.toInt ∧ k29_wy.toInt ≤ 3) ∧ (0 ≤ k29_bt.toInt ∧ k29_bt.toInt ≤ 1000000) ∧ (0 ≤ k29_ps.toInt ∧ k29_ps.toInt ≤ 200) ∧ (PTI k29_pt)) (fun (q : (Int32) × (Int32) × (Int32) × (Int32) × (Int32) × (Int32) × (Int64) × (Int64) × (Int32) × (Int32) × (Int32) × (Int32) × (Int32) × (Int32) × (Int32) × (Nat → Int64) × (Nat → Int64) × (Nat → Int32)) => match q with | (k29_5, k29_4, k29_3, k29_2, k29_la, k29_bk, k29_va, k29_su, k29_ce, k29_ho, k29_wy, k29_bt, k29_ps, k29_tg, k29_sn, k29_se, k29_re, k29_pt) => Int.toNat (256 - k29_5.toInt)) (0, (-1), 0, (-1), u_la, u_bk, u_va, u_su, u_ce, u_ho, u_wy, u_bt, u_ps, u_tg, u_sn, v_se, v_re, v_pt) ⟨lv_sub hl [3, 2, 1, 0, 4, 5] rfl, hP, hD, hS, ⟨by decide, by decide⟩, h_u_la, h_u_bk, h_u_ce, h_u_ho, h_u_wy, h_u_bt, h_u_ps, r_pt⟩ ?_
      rintro ⟨k29_5, k29_4, k29_3, k29_2, k29_la, k29_bk, k29_va, k29_su, k29_ce, k29_ho, k29_wy, k29_bt, k29_ps, k29_tg, k29_sn, k29_se, k29_re, k29_pt⟩ ls H locs ⟨hl, hP, hD, hS, i_5, i_6, i_7, i_8, i_9, i_10, i_11, i_12, i_13⟩ ih_29_14
      have hl : lv_has ls 7 [(2, .int k29_2), (3, .int k29_3), (4, .int k29_4), (5, .int k29_5), (0, .ref b_o), (1, .int p_1)] := hl
      have i_5 : 0 ≤ k29_5.toInt ∧ k29_5.toInt ≤ 256 := i_5
      have i_6 : 0 ≤ k29_la.toInt ∧ k29_la.toInt ≤ 4840 := i_6
      have i_7 : 0 ≤ k29_bk.toInt ∧ k29_bk.toInt ≤ 1 := i_7
      have i_8 : 0 ≤ k29_ce.toInt ∧ k29_ce.toInt ≤ 63 := i_8
      have i_9 : 0 ≤ k29_ho.toInt ∧ k29_ho.toInt ≤ 23 := i_9
      have i_10 : 0 ≤ k29_wy.toInt ∧ k29_wy.toInt ≤ 3 := i_10
      have i_11 : 0 ≤ k29_bt.toInt ∧ k29_bt.toInt ≤ 1000000 := i_11
      have i_12 : 0 ≤ k29_ps.toInt ∧ k29_ps.toInt ≤ 200 := i_12
      have i_13 : PTI k29_pt := i_13
      refine g5_rs [(b_o, (oc12 0 u_sa b_rf b_ro b_im b_ke u_fd b_tp u_td u_fr u_to u_so u_wo u_fa u_bd u_nc b_nl u_co b_op b_ar u_le b_pi b_pa u_pd u_od b_ws b_hw k29_la b_se b_re k29_bk k29_va k29_su k29_ce k29_ho k29_wy k29_bt k29_ps b_pt k29_tg k29_sn b_ip u_ic b_ah b_be b_me u_wd b_tr b_ld u_st b_wn u_id)), (b_ro, (arI G 5740 v_ro)), (b_se, (arJ G 13 k29_se)), (b_re, (arJ G 400 k29_re)), (b_pt, (arI G 200 k29_pt))] hP hD (fun hP hD => ?_)
      refine lv_iload hx hb dX12_hang_29 (lv_at hl 3 rfl) ?_
      refine lv_iconst (v := 1) hx hb dX12_hang_31 (by decide) ?_
      refine lv_aload_n hx hb dX12_hang_32 rfl (lv_at hl 4 rfl) ?_
      refine va_get (D := G.1) (ci := 12) (v := .ref b_ro) (C := RX12) (T := TX12) (N := 52) hx hb hts inG_X12 hown hK hP 0 rfl rfl 3 (by decide) (hts _ fl_X12_13) (fun _ h9 => h9) rfl dX12_hang_33 ?_
      refine lv_bipush (v := 7) hx hb dX12_hang_36 (by decide) ?_
      refine va_iald hx hb hK hP 1 0 rfl rfl (i := 7) (by unfold vp_in; decide) dX12_hang_38 ?_
      refine g5_ti (v := (v_ro 7)) rfl ?_
      have hr_15 : 0 ≤ (v_ro 7).toInt ∧ (v_ro 7).toInt ≤ 8 := mi_7 r_ro
      refine lv_ishl hx hb dX12_hang_39 ?_
      have hs_16 := g_shl8 (e := (v_ro 7)) (by omega) (by omega)
      refine lv_icmp_ge (tgt := 126) hx hb dX12_hang_40 (by decide) (fun c_17 => ?_) (fun c_17 => ?_)
      ·
        have i_17 : k29_5.toInt ≥ (1 <<< ((v_ro 7) &&& 31)).toInt := by have z := g5_ge (a := k29_5.toInt) (b := (1 <<< ((v_ro 7) &&& 31)).toInt) (by rfl) (by rfl) c_17; omega
        refine lv_iload_n hx hb dX12_hang_126 rfl (lv_at hl 5 rfl) ?_
        refine lv_if_ne (tgt := 134) hx hb dX12_hang_127 (by decide) (fun c_18 => ?_) (fun c_18 => ?_)
        ·
          have n_18 : gNe (p_1.toInt) (0) := by have z := g5_ne (a := p_1.toInt) (b := 0) (by rfl) (by decide) c_18; unfold gNe; omega
          have i_18 : p_1.toInt ≥ 1 := by have z := g5_ne (a := p_1.toInt) (b := 0) (by rfl) (by decide) c_18; omega
          refine lv_iload_n hx hb dX12_hang_134 rfl (lv_at hl 5 rfl) ?_
          refine lv_iconst (v := 1) hx hb dX12_hang_135 (by decide) ?_
          refine lv_icmp_ne (tgt := 143) hx hb dX12_hang_136 (by decide) (fun c_19 => ?_) (fun c_19 => ?_)
          ·
            have n_19 : gNe (p_1.toInt) (1) := by have z := g5_ne (a := p_1.toInt) (b := 1) (by rfl) (by decide) c_19; unfold gNe; omega
            have i_19 : p_1.toInt ≥ 2 := by have z := g5_ne (a := p_1.toInt) (b := 1) (by rfl) (by decide) c_19; omega
            refine lv_iload hx hb dX12_hang_143 (lv_at hl 2 rfl) ?_
            exact W.iret (v := k29_4) hx hb hr (fun t ht hW => ⟨⟨k29_4, [(b_o, (oc12 0 u_sa b_rf b_ro b_im b_ke u_fd b_tp u_td u_fr u_to u_so u_wo u_fa u_bd u_nc b_nl u_co b_op b_ar u_le b_pi b_pa u_pd u_od b_ws b_hw k29_la b_se b_re k29_bk k29_va k29_su k29_ce k29_ho k29_wy k29_bt k29_ps b_pt k29_tg k29_sn b_ip u_ic b_ah b_be b_me u_wd b_tr b_ld u_st b_wn u_id)), (b_ro, (arI G 5740 v_ro)), (b_se, (arJ G 13 k29_se)), (b_re, (arJ G 400 k29_re)), (b_pt, (arI G 200 k29_pt))], rfl, ⟨k29_4, 0, k29_la, k29_bk, k29_va, k29_su, k29_ce, k29_ho, k29_wy, k29_bt, k29_ps, k29_tg, k29_sn, k29_se, k29_re, k29_pt, i_6, i_7, i_8, i_9, i_10, i_11, i_12, i_13, rfl, rfl⟩, by rw [ht]; exact hP.sub [0, 1, 2, 3, 4] rfl, hD.sub [0, 1, 2, 3, 4] (by decide) rfl⟩, hS.F ht⟩) hS.2.2 dX12_hang_145
          ·
            have i_19 : p_1.toInt = 1 := by have z := g5_neN (a := p_1.toInt) (b := 1) (by rfl) (by decide) c_19; omega
            refine lv_iload_n hx hb dX12_hang_139 rfl (lv_at hl 1 rfl) ?_
            refine lv_goto (tgt := 145) hx hb dX12_hang_140 (by decide) ?_
            exact W.iret (v := k29_3) hx hb hr (fun t ht hW => ⟨⟨k29_3, [(b_o, (oc12 0 u_sa b_rf b_ro b_im b_ke u_fd b_tp u_td u_fr u_to u_so u_wo u_fa u_bd u_nc b_nl u_co b_op b_ar u_le b_pi b_pa u_pd u_od b_ws b_hw k29_la b_se b_re k29_bk k29_va k29_su k29_ce k29_ho k29_wy k29_bt k29_ps b_pt k29_tg k29_sn b_ip u_ic b_ah b_be b_me u_wd b_tr b_ld u_st b_wn u_id)), (b_ro, (arI G 5740 v_ro)), (b_se, (arJ G 13 k29_se)), (b_re, (arJ G 400 k29_re)), (b_pt, (arI G 200 k29_pt))], rfl, ⟨k29_3, 0, k29_la, k29_bk, k29_va, k29_su, k29_ce, k29_ho, k29_wy, k29_bt, k29_ps, k29_tg, k29_sn, k29_se, k29_re, k29_pt, i_6, i_7, i_8, i_9, i_10, i_11, i_12, i_13, rfl, rfl⟩, by rw [ht]; exact hP.sub [0, 1, 2, 3, 4] rfl, hD.sub [0, 1, 2, 3, 4] (by decide) rfl⟩, hS.F ht⟩) hS.2.2 dX12_hang_145
        ·
          have i_18 : p_1.toInt = 0 := by have z := g5_neN (a := p_1.toInt) (b := 0) (by rfl) (by decide) c_18; omega
          refine lv_iload_n hx hb dX12_hang_130 rfl (lv_at hl 0 rfl) ?_
          refine lv_goto (tgt := 145) hx hb dX12_hang_131 (by decide) ?_
          exact W.iret (v := k29_2) hx hb hr (fun t ht hW => ⟨⟨k29_2, [(b_o, (oc12 0 u_sa b_rf b_ro b_im b_ke u_fd b_tp u_td u_fr u_to u_so u_wo u_fa u_bd u_nc b_nl u_co b_op b_ar u_le b_pi b_pa u_pd u_od b_ws b_hw k29_la b_se b_re k29_bk k29_va k29_su k29_ce k29_ho k29_wy k29_bt k29_ps b_pt k29_tg k29_sn b_ip u_ic b_ah b_be b_me u_wd b_tr b_ld u_st b_wn u_id)), (b_ro, (arI G 5740 v_ro)), (b_se, (arJ G 13 k29_se)), (b_re, (arJ G 400 k29_re)), (b_pt, (arI G 200 k29_pt))], rfl, ⟨k29_2, 0, k29_la, k29_bk, k29_va, k29_su, k29_ce, k29_ho, k29_wy, k29_bt, k29_ps, k29_tg, k29_sn, k29_se, k29_re, k29_pt, i_6, i_7, i_8, i_9, i_10, i_11, i_12, i_13, rfl, rfl⟩, by rw [ht]; exact hP.sub [0, 1, 2, 3, 4] rfl, hD.sub [0, 1, 2, 3, 4] (by decide) rfl⟩, hS.F ht⟩) hS.2.2 dX12_hang_145
      ·
        have i_17 : k29_5.toInt < (1 <<< ((v_ro 7) &&& 31)).toInt := by have z := g5_geN (a := k29_5.toInt) (b := (1 <<< ((v_ro 7) &&& 31)).toInt) (by rfl) (by rfl) c_17; omega
        refine lv_iload_n hx hb dX12_hang_43 rfl (lv_at hl 0 rfl) ?_
        refine lv_iconst (v := (-1)) hx hb dX12_hang_44 (by decide) ?_
        refine lv_icmp_eq (tgt := 57) hx hb dX12_hang_45 (by decide) (fun c_20 => ?_) (fun c_20 => ?_)
        ·
          have i_20 : k29_2.toInt = (-1) := by have z := g5_eq (a := k29_2.toInt) (b := (-1)) (by rfl) (by decide) c_20; omega
          refine lv_aload_n hx hb dX12_hang_57 rfl (lv_at hl 4 rfl) ?_
          refine lv_iload hx hb dX12_hang_58 (lv_at hl 3 rfl) ?_
          obtain ⟨hPc, hDc, hFc⟩ := g5_sub3 (wc := [(b_o, (oc12 0 u_sa b_rf b_ro b_im b_ke u_fd b_tp u_td u_fr u_to u_so u_wo u_fa u_bd u_nc b_nl u_co b_op b_ar u_le b_pi b_pa u_pd u_od b_ws b_hw k29_la b_se b_re k29_bk k29_va k29_su k29_ce k29_ho k29_wy k29_bt k29_ps b_pt k29_tg k29_sn b_ip u_ic b_ah b_be b_me u_wd b_tr b_ld u_st b_wn u_id)), (b_ro, (arI G 5740 v_ro)), (b_se, (arJ G 13 k29_se)), (b_re, (arJ G 400 k29_re)), (b_pt, (arI G 200 k29_pt))]) hP hD hS hA [0, 1, 2, 3, 4] (by decide) rfl
          refine va_calli (va_runV (As := [.int k29_5]) (rest := []) ⟨hx, hb, hml, hown, hts⟩ (n_lacking l G b_o b_ro b_se b_re b_pt b_rf b_im b_ke b_tp b_nl b_op b_ar b_pi b_pa b_ws b_hw b_ip b_ah b_be b_me b_tr b_ld b_wn H.size 0 u_sa u_fd u_td u_fr u_to u_so u_fa u_bd u_nc u_co u_le u_pd u_od k29_la k29_bk k29_ce k29_ho k29_wy k29_bt k29_ps k29_tg k29_sn u_ic u_wd u_id k29_5 u_wo k29_va k29_su u_st v_ro k29_se k29_re k29_pt h_u_td h_u_fr h_u_to h_u_bd h_u_nc h_u_co h_u_pd i_6 i_7 i_8 i_9 i_10 i_11 i_12 h_u_ic h_u_id (r_ro) (i_13)) (cwV 1 hts gV_X12_460 rfl rfl rfl hv_X12_lacking ⟨Nat.le_of_ble_eq_true rfl, Nat.le_of_ble_eq_true rfl⟩) (g5_preV hPc hK hDc hN hT hS hFc (ci := 12) (q0 := 0) rfl rfl) rfl rfl hl.1 rfl (lv_room (Nat.le_of_ble_eq_true rfl)) dX12_hang_60 ⟨Nat.le_of_ble_eq_true rfl, Nat.le_of_ble_eq_true rfl⟩) hS (fun q _ h => hFc q h) hFc (fun r u t H1 locs ht hvm hw hB hz1 hk1 hS => ?_)
          obtain ⟨hP1, hD1⟩ := hB
          rw [ht] at hP1
          obtain ⟨z29, z30, z31, z32, z33, z34, z35, z36, z37, z38, z39, z40, z41, z42, z43, i_21, i_22, i_23, i_24, i_25, i_26, i_27, i_28, y44, rfl⟩ := hw
          have i_21 : 0 ≤ z30.toInt ∧ z30.toInt ≤ 4840 := i_21
          have i_22 : 0 ≤ z31.toInt ∧ z31.toInt ≤ 1 := i_22
          have i_23 : 0 ≤ z34.toInt ∧ z34.toInt ≤ 63 := i_23
          have i_24 : 0 ≤ z35.toInt ∧ z35.toInt ≤ 23 := i_24
          have i_25 : 0 ≤ z36.toInt ∧ z36.toInt ≤ 3 := i_25
          have i_26 : 0 ≤ z37.toInt ∧ z37.toInt ≤ 1000000 := i_26
          have i_27 : 0 ≤ z38.toInt ∧ z38.toInt ≤ 200 := i_27
          have i_28 : PTI z43 := i_28
          obtain ⟨hP, hD⟩ := va_join (wr := []) hP hD [0, 1, 2, 3, 4] [] rfl rfl (by decide) (by decide) hk1 hFc hP1 hD1
          generalize H1 = H at hP hS ⊢
          refine g5_rs [(b_o, (oc12 0 u_sa b_rf b_ro b_im b_ke u_fd b_tp u_td u_fr u_to u_so u_wo u_fa u_bd u_nc b_nl u_co b_op b_ar u_le b_pi b_pa u_pd u_od b_ws b_hw z30 b_se b_re z31 z32 z33 z34 z35 z36 z37 z38 b_pt z39 z40 b_ip u_ic b_ah b_be b_me u_wd b_tr b_ld u_st b_wn u_id)), (b_ro, (arI G 5740 v_ro)), (b_se, (arJ G 13 z41)), (b_re, (arJ G 400 z42)), (b_pt, (arI G 200 z43))] hP hD (fun hP hD => ?_)
          refine g5_ti (v := z29) y44 ?_
          refine lv_if_ne (tgt := 120) hx hb dX12_hang_63 (by decide) (fun c_45 => ?_) (fun c_45 => ?_)
          ·
            have n_45 : gNe (z29.toInt) (0) := by have z := g5_ne (a := z29.toInt) (b := 0) (by rfl) (by decide) c_45; unfold gNe; omega
            refine lv_iinc (v := (k29_5 + 1)) (lv' := [(5, .int (k29_5 + 1)), (2, .int k29_2), (3, .int k29_3), (4, .int k29_4), (0, .ref b_o), (1, .int p_1)]) hx hb dX12_hang_120 hl (k := 3) rfl rfl (by decide) rfl (fun ls hl => ?_)
            have t_46 : (k29_5 + 1).toInt = k29_5.toInt + 1 := g5_iadd (a := k29_5.toInt) (b := 1) rfl (by decide) (by omega) (by omega)
            refine lv_goto (tgt := 29) hx hb dX12_hang_123 (by decide) ?_
            exact ih_29_14 ((k29_5 + 1), k29_4, k29_3, k29_2, z30, z31, z32, z33, z34, z35, z36, z37, z38, z39, z40, z41, z42, z43) ls H locs (show Int.toNat (256 - (k29_5 + 1).toInt) < Int.toNat (256 - k29_5.toInt) from g_up (show k29_5.toInt < (k29_5 + 1).toInt by omega) (show k29_5.toInt < 256 by omega)) ⟨lv_sub hl [1, 2, 3, 0, 4, 5] rfl, hP, hD, hS, ⟨by omega, by omega⟩, i_21, i_22, i_23, i_24, i_25, i_26, i_27, i_28⟩
          ·
            have i_45 : z29.toInt = 0 := by have z := g5_neN (a := z29.toInt) (b := 0) (by rfl) (by decide) c_45; omega
            refine lv_iload_n hx hb dX12_hang_66 rfl (lv_at hl 0 rfl) ?_
            refine lv_iconst (v := (-1)) hx hb dX12_hang_67 (by decide) ?_
            refine lv_icmp_eq (tgt := 80) hx hb dX12_hang_68 (by decide) (fun c_47 => ?_) (fun c_47 => ?_)
            ·
              have i_47 : k29_2.toInt = (-1) := by have z := g5_eq (a := k29_2.toInt) (b := (-1)) (by rfl) (by decide) c_47; omega
              refine lv_iconst (v := 1) hx hb dX12_hang_80 (by decide) ?_
              refine lv_goto (tgt := 85) hx hb dX12_hang_81 (by decide) ?_
              refine lv_istore (lv' := [(6, .int 1), (2, .int k29_2), (3, .int k29_3), (4, .int k29_4), (5, .int k29_5), (0, .ref b_o), (1, .int p_1)]) hx hb dX12_hang_85 hl (by decide) rfl (fun ls hl => ?_)
              refine lv_iload hx hb dX12_hang_87 (lv_at hl 0 rfl) ?_
              refine lv_if_eq (tgt := 96) hx hb dX12_hang_89 (by decide) (fun c_48 => ?_) (fun c_48 => ?_)
              ·
                exact absurd c_48 (by decide)
              ·
                refine lv_iconst (v := 1) hx hb dX12_hang_92 (by decide) ?_
                refine lv_goto (tgt := 99) hx hb dX12_hang_93 (by decide) ?_
                refine lv_istore_n (lv' := [(3, .int 1), (6, .int 1), (2, .int k29_2), (4, .int k29_4), (5, .int k29_5), (0, .ref b_o), (1, .int p_1)]) hx hb dX12_hang_99 rfl hl (by decide) rfl (fun ls hl => ?_)
                refine lv_iload hx hb dX12_hang_100 (lv_at hl 1 rfl) ?_
                refine lv_if_eq (tgt := 110) hx hb dX12_hang_102 (by decide) (fun c_49 => ?_) (fun c_49 => ?_)
                ·
                  exact absurd c_49 (by decide)
                ·
                  refine lv_iload hx hb dX12_hang_105 (lv_at hl 4 rfl) ?_
                  refine lv_goto (tgt := 112) hx hb dX12_hang_107 (by decide) ?_
                  refine lv_istore (lv' := [(4, .int k29_5), (3, .int 1), (6, .int 1), (2, .int k29_2), (5, .int k29_5), (0, .ref b_o), (1, .int p_1)]) hx hb dX12_hang_112 hl (by decide) rfl (fun ls hl => ?_)
                  refine lv_iload hx hb dX12_hang_114 (lv_at hl 4 rfl) ?_
                  obtain ⟨hPc, hDc, hFc⟩ := g5_sub3 (wc := []) hP hD hS hA [] (by decide) rfl
                  refine va_calli (va_runS (As := [.int k29_5]) (rest := []) ⟨hx, hb, hml, hown, hts⟩ (n_bits l G H.size k29_5) (va_cwS 1 hts gS_X12_463 rfl rfl rfl hs_X12_bits ⟨Nat.le_of_ble_eq_true rfl, Nat.le_of_ble_eq_true rfl⟩) (g5_preS hPc hK hDc hN hT hS hFc) rfl rfl hl.1 rfl (lv_room (Nat.le_of_ble_eq_true rfl)) dX12_hang_116 ⟨Nat.le_of_ble_eq_true rfl, Nat.le_of_ble_eq_true rfl⟩) hS (fun q _ h => hFc q h) hFc (fun r u t H1 locs ht hvm hw hB hz1 hk1 hS => ?_)
                  obtain ⟨hP1, hD1⟩ := hB
                  rw [ht] at hP1
                  obtain ⟨z50, y51, rfl⟩ := hw
                  have hP := g5_same hP hk1
                  generalize H1 = H at hP hS ⊢
                  refine g5_ti (v := z50) y51 ?_
                  refine lv_istore_n (lv' := [(2, .int z50), (4, .int k29_5), (3, .int 1), (6, .int 1), (5, .int k29_5), (0, .ref b_o), (1, .int p_1)]) hx hb dX12_hang_119 rfl hl (by decide) rfl (fun ls hl => ?_)
                  refine lv_iinc (v := (k29_5 + 1)) (lv' := [(5, .int (k29_5 + 1)), (2, .int z50), (4, .int k29_5), (3, .int 1), (6, .int 1), (0, .ref b_o), (1, .int p_1)]) hx hb dX12_hang_120 hl (k := 4) rfl rfl (by decide) rfl (fun ls hl => ?_)
                  have t_52 : (k29_5 + 1).toInt = k29_5.toInt + 1 := g5_iadd (a := k29_5.toInt) (b := 1) rfl (by decide) (by omega) (by omega)
                  refine lv_goto (tgt := 29) hx hb dX12_hang_123 (by decide) ?_
                  exact ih_29_14 ((k29_5 + 1), k29_5, 1, z50, z30, z31, z32, z33, z34, z35, z36, z37, z38, z39, z40, z41, z42, z43) ls H locs (show Int.toNat (256 - (k29_5 + 1).toInt) < Int.toNat (256 - k29_5.toInt) from g_up (show k29_5.toInt < (k29_5 + 1).toInt by omega) (show k29_5.toInt < 256 by omega)) ⟨lv_sub hl [1, 3, 2, 0, 5, 6] rfl, hP, hD, hS, ⟨by omega, by omega⟩, i_21, i_22, i_23, i_24, i_25, i_26, i_27, i_28⟩
            ·
              have i_47 : k29_2.toInt ≠ (-1) := by have z := g5_eqN (a := k29_2.toInt) (b := (-1)) (by rfl) (by decide) c_47; omega
              omega
        ·
          have n_20 : gNe (k29_2.toInt) ((-1)) := by have z := g5_eqN (a := k29_2.toInt) (b := (-1)) (by rfl) (by decide) c_20; unfold gNe; omega
          refine lv_iload hx hb dX12_hang_48 (lv_at hl 3 rfl) ?_
          obtain ⟨hPc, hDc, hFc⟩ := g5_sub3 (wc := []) hP hD hS hA [] (by decide) rfl
          refine va_calli (va_runS (As := [.int k29_5]) (rest := []) ⟨hx, hb, hml, hown, hts⟩ (n_bits l G H.size k29_5) (va_cwS 1 hts gS_X12_463 rfl rfl rfl hs_X12_bits ⟨Nat.le_of_ble_eq_true rfl, Nat.le_of_ble_eq_true rfl⟩) (g5_preS hPc hK hDc hN hT hS hFc) rfl rfl hl.1 rfl (lv_room (Nat.le_of_ble_eq_true rfl)) dX12_hang_50 ⟨Nat.le_of_ble_eq_true rfl, Nat.le_of_ble_eq_true rfl⟩) hS (fun q _ h => hFc q h) hFc (fun r u t H1 locs ht hvm hw hB hz1 hk1 hS => ?_)
          obtain ⟨hP1, hD1⟩ := hB
          rw [ht] at hP1
          obtain ⟨z53, y54, rfl⟩ := hw
          have hP := g5_same hP hk1
          generalize H1 = H at hP hS ⊢
          refine g5_ti (v := z53) y54 ?_
          refine lv_iload_n hx hb dX12_hang_53 rfl (lv_at hl 0 rfl) ?_
          refine lv_icmp_gt (tgt := 120) hx hb dX12_hang_54 (by decide) (fun c_55 => ?_) (fun c_55 => ?_)
          ·
            have i_55 : z53.toInt > k29_2.toInt := by have z := g5_gt (a := z53.toInt) (b := k29_2.toInt) (by rfl) (by rfl) c_55; omega
            refine lv_iinc (v := (k29_5 + 1)) (lv' := [(5, .int (k29_5 + 1)), (2, .int k29_2), (3, .int k29_3), (4, .int k29_4), (0, .ref b_o), (1, .int p_1)]) hx hb dX12_hang_120 hl (k := 3) rfl rfl (by decide) rfl (fun ls hl => ?_)
            have t_56 : (k29_5 + 1).toInt = k29_5.toInt + 1 := g5_iadd (a := k29_5.toInt) (b := 1) rfl (by decide) (by omega) (by omega)
            refine lv_goto (tgt := 29) hx hb dX12_hang_123 (by decide) ?_
            exact ih_29_14 ((k29_5 + 1), k29_4, k29_3, k29_2, k29_la, k29_bk, k29_va, k29_su, k29_ce, k29_ho, k29_wy, k29_bt, k29_ps, k29_tg, k29_sn, k29_se, k29_re, k29_pt) ls H locs (show Int.toNat (256 - (k29_5 + 1).toInt) < Int.toNat (256 - k29_5.toInt) from g_up (show k29_5.toInt < (k29_5 + 1).toInt by omega) (show k29_5.toInt < 256 by omega)) ⟨lv_sub hl [1, 2, 3, 0, 4, 5] rfl, hP, hD, hS, ⟨by omega, by omega⟩, i_6, i_7, i_8, i_9, i_10, i_11, i_12, i_13⟩
          ·
            have i_55 : z53.toInt ≤ k29_2.toInt := by have z := g5_gtN (a := z53.toInt) (b := k29_2.toInt) (by rfl) (by rfl) c_55; omega
            refine lv_aload_n hx hb dX12_hang_57 rfl (lv_at hl 4 rfl) ?_
            refine lv_iload hx hb dX12_hang_58 (lv_at hl 3 rfl) ?_
            obtain ⟨hPc, hDc, hFc⟩ := g5_sub3 (wc := [(b_o, (oc12 0 u_sa b_rf b_ro b_im b_ke u_fd b_tp u_td u_fr u_to u_so u_wo u_fa u_bd u_nc b_nl u_co b_op b_ar u_le b_pi b_pa u_pd u_od b_ws b_hw k29_la b_se b_re k29_bk k29_va k29_su k29_ce k29_ho k29_wy k29_bt k29_ps b_pt k29_tg k29_sn b_ip u_ic b_ah b_be b_me u_wd b_tr b_ld u_st b_wn u_id)), (b_ro, (arI G 5740 v_ro)), (b_se, (arJ G 13 k29_se)), (b_re, (arJ G 400 k29_re)), (b_pt, (arI G 200 k29_pt))]) hP hD hS hA [0, 1, 2, 3, 4] (by decide) rfl
            refine va_calli (va_runV (As := [.int k29_5]) (rest := []) ⟨hx, hb, hml, hown, hts⟩ (n_lacking l G b_o b_ro b_se b_re b_pt b_rf b_im b_ke b_tp b_nl b_op b_ar b_pi b_pa b_ws b_hw b_ip b_ah b_be b_me b_tr b_ld b_wn H.size 0 u_sa u_fd u_td u_fr u_to u_so u_fa u_bd u_nc u_co u_le u_pd u_od k29_la k29_bk k29_ce k29_ho k29_wy k29_bt k29_ps k29_tg k29_sn u_ic u_wd u_id k29_5 u_wo k29_va k29_su u_st v_ro k29_se k29_re k29_pt h_u_td h_u_fr h_u_to h_u_bd h_u_nc h_u_co h_u_pd i_6 i_7 i_8 i_9 i_10 i_11 i_12 h_u_ic h_u_id (r_ro) (i_13)) (cwV 1 hts gV_X12_460 rfl rfl rfl hv_X12_lacking ⟨Nat.le_of_ble_eq_true rfl, Nat.le_of_ble_eq_true rfl⟩) (g5_preV hPc hK hDc hN hT hS hFc (ci := 12) (q0 := 0) rfl rfl) rfl rfl hl.1 rfl (lv_room (Nat.le_of_ble_eq_true rfl)) dX12_hang_60 ⟨Nat.le_of_ble_eq_true rfl, Nat.le_of_ble_eq_true rfl⟩) hS (fun q _ h => hFc q h) hFc (fun r u t H1 locs ht hvm hw hB hz1 hk1 hS => ?_)
            obtain ⟨hP1, hD1⟩ := hB
            rw [ht] at hP1
            obtain ⟨z65, z66, z67, z68, z69, z70, z71, z72, z73, z74, z75, z76, z77, z78, z79, i_57, i_58, i_59, i_60, i_61, i_62, i_63, i_64, y80, rfl⟩ := hw
            have i_57 : 0 ≤ z66.toInt ∧ z66.toInt ≤ 4840 := i_57
            have i_58 : 0 ≤ z67.toInt ∧ z67.toInt ≤ 1 := i_58
            have i_59 : 0 ≤ z70.toInt ∧ z70.toInt ≤ 63 := i_59
            have i_60 : 0 ≤ z71.toInt ∧ z71.toInt ≤ 23 := i_60
            have i_61 : 0 ≤ z72.toInt ∧ z72.toInt ≤ 3 := i_61
            have i_62 : 0 ≤ z73.toInt ∧ z73.toInt ≤ 1000000 := i_62
            have i_63 : 0 ≤ z74.toInt ∧ z74.toInt ≤ 200 := i_63
            have i_64 : PTI z79 := i_64
            obtain ⟨hP, hD⟩ := va_join (wr := []) hP hD [0, 1, 2, 3, 4] [] rfl rfl (by decide) (by decide) hk1 hFc hP1 hD1
            generalize H1 = H at hP hS ⊢
            refine g5_rs [(b_o, (oc12 0 u_sa b_rf b_ro b_im b_ke u_fd b_tp u_td u_fr u_to u_so u_wo u_fa u_bd u_nc b_nl u_co b_op b_ar u_le b_pi b_pa u_pd u_od b_ws b_hw z66 b_se b_re z67 z68 z69 z70 z71 z72 z73 z74 b_pt z75 z76 b_ip u_ic b_ah b_be b_me u_wd b_tr b_ld u_st b_wn u_id)), (b_ro, (arI G 5740 v_ro)), (b_se, (arJ G 13 z77)), (b_re, (arJ G 400 z78)), (b_pt, (arI G 200 z79))] hP hD (fun hP hD => ?_)
            refine g5_ti (v := z65) y80 ?_
            refine lv_if_ne (tgt := 120) hx hb dX12_hang_63 (by decide) (fun c_81 => ?_) (fun c_81 => ?_)
            ·
              have n_81 : gNe (z65.toInt) (0) := by have z := g5_ne (a := z65.toInt) (b := 0) (by rfl) (by decide) c_81; unfold gNe; omega
              refine lv_iinc (v := (k29_5 + 1)) (lv' := [(5, .int (k29_5 + 1)), (2, .int k29_2), (3, .int k29_3), (4, .int k29_4), (0, .ref b_o), (1, .int p_1)]) hx hb dX12_hang_120 hl (k := 3) rfl rfl (by decide) rfl (fun ls hl => ?_)
              have t_82 : (k29_5 + 1).toInt = k29_5.toInt + 1 := g5_iadd (a := k29_5.toInt) (b := 1) rfl (by decide) (by omega) (by omega)
              refine lv_goto (tgt := 29) hx hb dX12_hang_123 (by decide) ?_
              exact ih_29_14 ((k29_5 + 1), k29_4, k29_3, k29_2, z66, z67, z68, z69, z70, z71, z72, z73, z74, z75, z76, z77, z78, z79) ls H locs (show Int.toNat (256 - (k29_5 + 1).toInt) < Int.toNat (256 - k29_5.toInt) from g_up (show k29_5.toInt < (k29_5 + 1).toInt by omega) (show k29_5.toInt < 256 by omega)) ⟨lv_sub hl [1, 2, 3, 0, 4, 5] rfl, hP, hD, hS, ⟨by omega, by omega⟩, i_57, i_58, i_59, i_60, i_61, i_62, i_63, i_64⟩
            ·
              have i_81 : z65.toInt = 0 := by have z := g5_neN (a := z65.toInt) (b := 0) (by rfl) (by decide) c_81; omega
              refine lv_iload_n hx hb dX12_hang_66 rfl (lv_at hl 0 rfl) ?_
              refine lv_iconst (v := (-1)) hx hb dX12_hang_67 (by decide) ?_
              refine lv_icmp_eq (tgt := 80) hx hb dX12_hang_68 (by decide) (fun c_83 => ?_) (fun c_83 => ?_)
              ·
                have i_83 : k29_2.toInt = (-1) := by have z := g5_eq (a := k29_2.toInt) (b := (-1)) (by rfl) (by decide) c_83; omega
                refine lv_iconst (v := 1) hx hb dX12_hang_80 (by decide) ?_
                refine lv_goto (tgt := 85) hx hb dX12_hang_81 (by decide) ?_
                refine lv_istore (lv' := [(6, .int 1), (2, .int k29_2), (3, .int k29_3), (4, .int k29_4), (5, .int k29_5), (0, .ref b_o), (1, .int p_1)]) hx hb dX12_hang_85 hl (by decide) rfl (fun ls hl => ?_)
                refine lv_iload hx hb dX12_hang_87 (lv_at hl 0 rfl) ?_
                refine lv_if_eq (tgt := 96) hx hb dX12_hang_89 (by decide) (fun c_84 => ?_) (fun c_84 => ?_)
                ·
                  exact absurd c_84 (by decide)
                ·
                  refine lv_iconst (v := 1) hx hb dX12_hang_92 (by decide) ?_
                  refine lv_goto (tgt := 99) hx hb dX12_hang_93 (by decide) ?_
                  refine lv_istore_n (lv' := [(3, .int 1), (6, .int 1), (2, .int k29_2), (4, .int k29_4), (5, .int k29_5), (0, .ref b_o), (1, .int p_1)]) hx hb dX12_hang_99 rfl hl (by decide) rfl (fun ls hl => ?_)
                  refine lv_iload hx hb dX12_hang_100 (lv_at hl 1 rfl) ?_
                  refine lv_if_eq (tgt := 110) hx hb dX12_hang_102 (by decide) (fun c_85 => ?_) (fun c_85 => ?_)
                  ·
                    exact absurd c_85 (by decide)
                  ·
                    refine lv_iload hx hb dX12_hang_105 (lv_at hl 4 rfl) ?_
                    refine lv_goto (tgt := 112) hx hb dX12_hang_107 (by decide) ?_
                    refine lv_istore (lv' := [(4, .int k29_5), (3, .int 1), (6, .int 1), (2, .int k29_2), (5, .int k29_5), (0, .ref b_o), (1, .int p_1)]) hx hb dX12_hang_112 hl (by decide) rfl (fun ls hl => ?_)
                    refine lv_iload hx hb dX12_hang_114 (lv_at hl 4 rfl) ?_
                    obtain ⟨hPc, hDc, hFc⟩ := g5_sub3 (wc := []) hP hD hS hA [] (by decide) rfl
                    refine va_calli (va_runS (As := [.int k29_5]) (rest := []) ⟨hx, hb, hml, hown, hts⟩ (n_bits l G H.size k29_5) (va_cwS 1 hts gS_X12_463 rfl rfl rfl hs_X12_bits ⟨Nat.le_of_ble_eq_true rfl, Nat.le_of_ble_eq_true rfl⟩) (g5_preS hPc hK hDc hN hT hS hFc) rfl rfl hl.1 rfl (lv_room (Nat.le_of_ble_eq_true rfl)) dX12_hang_116 ⟨Nat.le_of_ble_eq_true rfl, Nat.le_of_ble_eq_true rfl⟩) hS (fun q _ h => hFc q h) hFc (fun r u t H1 locs ht hvm hw hB hz1 hk1 hS => ?_)
                    obtain ⟨hP1, hD1⟩ := hB
                    rw [ht] at hP1
                    obtain ⟨z86, y87, rfl⟩ := hw
                    have hP := g5_same hP hk1
                    generalize H1 = H at hP hS ⊢
                    refine g5_ti (v := z86) y87 ?_
                    refine lv_istore_n (lv' := [(2, .int z86), (4, .int k29_5), (3, .int 1), (6, .int 1), (5, .int k29_5), (0, .ref b_o), (1, .int p_1)]) hx hb dX12_hang_119 rfl hl (by decide) rfl (fun ls hl => ?_)
                    refine lv_iinc (v := (k29_5 + 1)) (lv' := [(5, .int (k29_5 + 1)), (2, .int z86), (4, .int k29_5), (3, .int 1), (6, .int 1), (0, .ref b_o), (1, .int p_1)]) hx hb dX12_hang_120 hl (k := 4) rfl rfl (by decide) rfl (fun ls hl => ?_)
                    have t_88 : (k29_5 + 1).toInt = k29_5.toInt + 1 := g5_iadd (a := k29_5.toInt) (b := 1) rfl (by decide) (by omega) (by omega)
                    refine lv_goto (tgt := 29) hx hb dX12_hang_123 (by decide) ?_
                    exact ih_29_14 ((k29_5 + 1), k29_5, 1, z86, z66, z67, z68, z69, z70, z71, z72, z73, z74, z75, z76, z77, z78, z79) ls H locs (show Int.toNat (256 - (k29_5 + 1).toInt) < Int.toNat (256 - k29_5.toInt) from g_up (show k29_5.toInt < (k29_5 + 1).toInt by omega) (show k29_5.toInt < 256 by omega)) ⟨lv_sub hl [1, 3, 2, 0, 5, 6] rfl, hP, hD, hS, ⟨by omega, by omega⟩, i_57, i_58, i_59, i_60, i_61, i_62, i_63, i_64⟩
              ·
                have n_83 : gNe (k29_2.toInt) ((-1)) := by have z := g5_eqN (a := k29_2.toInt) (b := (-1)) (by rfl) (by decide) c_83; unfold gNe; omega
                refine lv_iload hx hb dX12_hang_71 (lv_at hl 3 rfl) ?_
                obtain ⟨hPc, hDc, hFc⟩ := g5_sub3 (wc := []) hP hD hS hA [] (by decide) rfl
                refine va_calli (va_runS (As := [.int k29_5]) (rest := []) ⟨hx, hb, hml, hown, hts⟩ (n_bits l G H.size k29_5) (va_cwS 1 hts gS_X12_463 rfl rfl rfl hs_X12_bits ⟨Nat.le_of_ble_eq_true rfl, Nat.le_of_ble_eq_true rfl⟩) (g5_preS hPc hK hDc hN hT hS hFc) rfl rfl hl.1 rfl (lv_room (Nat.le_of_ble_eq_true rfl)) dX12_hang_73 ⟨Nat.le_of_ble_eq_true rfl, Nat.le_of_ble_eq_true rfl⟩) hS (fun q _ h => hFc q h) hFc (fun r u t H1 locs ht hvm hw hB hz1 hk1 hS => ?_)
                obtain ⟨hP1, hD1⟩ := hB
                rw [ht] at hP1
                obtain ⟨z89, y90, rfl⟩ := hw
                have hP := g5_same hP hk1
                generalize H1 = H at hP hS ⊢
                refine g5_ti (v := z89) y90 ?_
                refine lv_iload_n hx hb dX12_hang_76 rfl (lv_at hl 0 rfl) ?_
                refine lv_icmp_ge (tgt := 84) hx hb dX12_hang_77 (by decide) (fun c_91 => ?_) (fun c_91 => ?_)
                ·
                  have i_91 : z89.toInt ≥ k29_2.toInt := by have z := g5_ge (a := z89.toInt) (b := k29_2.toInt) (by rfl) (by rfl) c_91; omega
                  refine lv_iconst (v := 0) hx hb dX12_hang_84 (by decide) ?_
                  refine lv_istore (lv' := [(6, .int 0), (2, .int k29_2), (3, .int k29_3), (4, .int k29_4), (5, .int k29_5), (0, .ref b_o), (1, .int p_1)]) hx hb dX12_hang_85 hl (by decide) rfl (fun ls hl => ?_)
                  refine lv_iload hx hb dX12_hang_87 (lv_at hl 0 rfl) ?_
                  refine lv_if_eq (tgt := 96) hx hb dX12_hang_89 (by decide) (fun c_92 => ?_) (fun c_92 => ?_)
                  ·
                    refine lv_iload_n hx hb dX12_hang_96 rfl (lv_at hl 2 rfl) ?_
                    refine lv_iconst (v := 1) hx hb dX12_hang_97 (by decide) ?_
                    refine lv_iadd hx hb dX12_hang_98 ?_
                    refine lv_istore_n (lv' := [(3, .int (k29_3 + 1)), (6, .int 0), (2, .int k29_2), (4, .int k29_4), (5, .int k29_5), (0, .ref b_o), (1, .int p_1)]) hx hb dX12_hang_99 rfl hl (by decide) rfl (fun ls hl => ?_)
                    refine lv_iload hx hb dX12_hang_100 (lv_at hl 1 rfl) ?_
                    refine lv_if_eq (tgt := 110) hx hb dX12_hang_102 (by decide) (fun c_93 => ?_) (fun c_93 => ?_)
                    ·
                      refine lv_iload hx hb dX12_hang_110 (lv_at hl 3 rfl) ?_
                      refine lv_istore (lv' := [(4, .int k29_4), (3, .int (k29_3 + 1)), (6, .int 0), (2, .int k29_2), (5, .int k29_5), (0, .ref b_o), (1, .int p_1)]) hx hb dX12_hang_112 hl (by decide) rfl (fun ls hl => ?_)
                      refine lv_iload hx hb dX12_hang_114 (lv_at hl 4 rfl) ?_
                      obtain ⟨hPc, hDc, hFc⟩ := g5_sub3 (wc := []) hP hD hS hA [] (by decide) rfl
                      refine va_calli (va_runS (As := [.int k29_5]) (rest := []) ⟨hx, hb, hml, hown, hts⟩ (n_bits l G H.size k29_5) (va_cwS 1 hts gS_X12_463 rfl rfl rfl hs_X12_bits ⟨Nat.le_of_ble_eq_true rfl, Nat.le_of_ble_eq_true rfl⟩) (g5_preS hPc hK hDc hN hT hS hFc) rfl rfl hl.1 rfl (lv_room (Nat.le_of_ble_eq_true rfl)) dX12_hang_116 ⟨Nat.le_of_ble_eq_true rfl, Nat.le_of_ble_eq_true rfl⟩) hS (fun q _ h => hFc q h) hFc (fun r u t H1 locs ht hvm hw hB hz1 hk1 hS => ?_)
                      obtain ⟨hP1, hD1⟩ := hB
                      rw [ht] at hP1
                      obtain ⟨z94, y95, rfl⟩ := hw
                      have hP := g5_same hP hk1
                      generalize H1 = H at hP hS ⊢
                      refine g5_ti (v := z94) y95 ?_
                      refine lv_istore_n (lv' := [(2, .int z94), (4, .int k29_4), (3, .int (k29_3 + 1)), (6, .int 0), (5, .int k29_5), (0, .ref b_o), (1, .int p_1)]) hx hb dX12_hang_119 rfl hl (by decide) rfl (fun ls hl => ?_)
                      refine lv_iinc (v := (k29_5 + 1)) (lv' := [(5, .int (k29_5 + 1)), (2, .int z94), (4, .int k29_4), (3, .int (k29_3 + 1)), (6, .int 0), (0, .ref b_o), (1, .int p_1)]) hx hb dX12_hang_120 hl (k := 4) rfl rfl (by decide) rfl (fun ls hl => ?_)
                      have t_96 : (k29_5 + 1).toInt = k29_5.toInt + 1 := g5_iadd (a := k29_5.toInt) (b := 1) rfl (by decide) (by omega) (by omega)
                      refine lv_goto (tgt := 29) hx hb dX12_hang_123 (by decide) ?_
                      exact ih_29_14 ((k29_5 + 1), k29_4, (k29_3 + 1), z94, z66, z67, z68, z69, z70, z71, z72, z73, z74, z75, z76, z77, z78, z79) ls H locs (show Int.toNat (256 - (k29_5 + 1).toInt) < Int.toNat (256 - k29_5.toInt) from g_up (show k29_5.toInt < (k29_5 + 1).toInt by omega) (show k29_5.toInt < 256 by omega)) ⟨lv_sub hl [1, 3, 2, 0, 5, 6] rfl, hP, hD, hS, ⟨by omega, by omega⟩, i_57, i_58, i_59, i_60, i_61, i_62, i_63, i_64⟩
                    ·
                      exact absurd c_93 (by decide)
                  ·
                    exact absurd c_92 (by decide)
                ·
                  have i_91 : z89.toInt < k29_2.toInt := by have z := g5_geN (a := z89.toInt) (b := k29_2.toInt) (by rfl) (by rfl) c_91; omega
                  refine lv_iconst (v := 1) hx hb dX12_hang_80 (by decide) ?_
                  refine lv_goto (tgt := 85) hx hb dX12_hang_81 (by decide) ?_
                  refine lv_istore (lv' := [(6, .int 1), (2, .int k29_2), (3, .int k29_3), (4, .int k29_4), (5, .int k29_5), (0, .ref b_o), (1, .int p_1)]) hx hb dX12_hang_85 hl (by decide) rfl (fun ls hl => ?_)
                  refine lv_iload hx hb dX12_hang_87 (lv_at hl 0 rfl) ?_
                  refine lv_if_eq (tgt := 96) hx hb dX12_hang_89 (by decide) (fun c_97 => ?_) (fun c_97 => ?_)
                  ·
                    exact absurd c_97 (by decide)
                  ·
                    refine lv_iconst (v := 1) hx hb dX12_hang_92 (by decide) ?_
                    refine lv_goto (tgt := 99) hx hb dX12_hang_93 (by decide) ?_
                    refine lv_istore_n (lv' := [(3, .int 1), (6, .int 1), (2, .int k29_2), (4, .int k29_4), (5, .int k29_5), (0, .ref b_o), (1, .int p_1)]) hx hb dX12_hang_99 rfl hl (by decide) rfl (fun ls hl => ?_)
                    refine lv_iload hx hb dX12_hang_100 (lv_at hl 1 rfl) ?_
                    refine lv_if_eq (tgt := 110) hx hb dX12_hang_102 (by decide) (fun c_98 => ?_) (fun c_98 => ?_)
                    ·
                      exact absurd c_98 (by decide)
                    ·
                      refine lv_iload hx hb dX12_hang_105 (lv_at hl 4 rfl) ?_
                      refine lv_goto (tgt := 112) hx hb dX12_hang_107 (by decide) ?_
                      refine lv_istore (lv' := [(4, .int k29_5), (3, .int 1), (6, .int 1), (2, .int k29_2), (5, .int k29_5), (0, .ref b_o), (1, .int p_1)]) hx hb dX12_hang_112 hl (by decide) rfl (fun ls hl => ?_)
                      refine lv_iload hx hb dX12_hang_114 (lv_at hl 4 rfl) ?_
                      obtain ⟨hPc, hDc, hFc⟩ := g5_sub3 (wc := []) hP hD hS hA [] (by decide) rfl
                      refine va_calli (va_runS (As := [.int k29_5]) (rest := []) ⟨hx, hb, hml, hown, hts⟩ (n_bits l G H.size k29_5) (va_cwS 1 hts gS_X12_463 rfl rfl rfl hs_X12_bits ⟨Nat.le_of_ble_eq_true rfl, Nat.le_of_ble_eq_true rfl⟩) (g5_preS hPc hK hDc hN hT hS hFc) rfl rfl hl.1 rfl (lv_room (Nat.le_of_ble_eq_true rfl)) dX12_hang_116 ⟨Nat.le_of_ble_eq_true rfl, Nat.le_of_ble_eq_true rfl⟩) hS (fun q _ h => hFc q h) hFc (fun r u t H1 locs ht hvm hw hB hz1 hk1 hS => ?_)
                      obtain ⟨hP1, hD1⟩ := hB
                      rw [ht] at hP1
                      obtain ⟨z99, y100, rfl⟩ := hw
                      have hP := g5_same hP hk1
                      generalize H1 = H at hP hS ⊢
                      refine g5_ti (v := z99) y100 ?_
                      refine lv_istore_n (lv' := [(2, .int z99), (4, .int k29_5), (3, .int 1), (6, .int 1), (5, .int k29_5), (0, .ref b_o), (1, .int p_1)]) hx hb dX12_hang_119 rfl hl (by decide) rfl (fun ls hl => ?_)
                      refine lv_iinc (v := (k29_5 + 1)) (lv' := [(5, .int (k29_5 + 1)), (2, .int z99), (4, .int k29_5), (3, .int 1), (6, .int 1), (0, .ref b_o), (1, .int p_1)]) hx hb dX12_hang_120 hl (k := 4) rfl rfl (by decide) rfl (fun ls hl => ?_)
                      have t_101 : (k29_5 + 1).toInt = k29_5.toInt + 1 := g5_iadd (a := k29_5.toInt) (b := 1) rfl (by decide) (by omega) (by omega)
                      refine lv_goto (tgt := 29) hx hb dX12_hang_123 (by decide) ?_
                      exact ih_29_14 ((k29_5 + 1), k29_5, 1, z99, z66, z67, z68, z69, z70, z71, z72, z73, z74, z75, z76, z77, z78, z79) ls H locs (show Int.toNat (256 - (k29_5 + 1).toInt) < Int.toNat (256 - k29_5.toInt) from g_up (show k29_5.toInt < (k29_5 + 1).toInt by omega) (show k29_5.toInt < 256 by omega)) ⟨lv_sub hl [1, 3, 2, 0, 5, 6] rfl, hP, hD, hS, ⟨by omega, by omega⟩, i_57, i_58, i_59, i_60, i_61, i_62, i_63, i_64⟩
    ·
      exact absurd c_4 (by decide)
theorem dgX12_wander_0 : ∀ r ∈ ([(0, (.aload_n 0, 1)), (1, (.iconst 0, 1)), (2, (.putfield 107, 3)), (5, (.iload_n 1, 1)), (6, (.i2l, 1)), (7, (.lconst 0, 1)), (8, (.ldc2_w 190, 3)), (11, (.invokestatic 121, 3)), (14, (.ifCond .eq 10, 3)), (17, (.iload_n 2, 1)), (18, (.invokestatic 138, 3)), (21, (.ifCond .ne 9, 3)), (24, (.aload_n 0, 1)), (25, (.iconst (-1), 1)), (26, (.invokevirtual 125, 3)), (29, (.ireturn, 1)), (30, (.aload_n 0, 1)), (31, (.iload_n 2, 1)), (32, (.invokevirtual 160, 3)), (35, (.ifCond .eq 10, 3)), (38, (.aload_n 0, 1)), (39, (.bipush (-3), 2)), (41, (.invokevirtual 125, 3)), (44, (.ireturn, 1)), (45, (.aload_n 0, 1)), (46, (.iload_n 1, 1)), (47, (.i2l, 1)), (48, (.putfield 469, 3)), (51, (.iload_n 2, 1)), (52, (.istore_n 3, 1)), (53, (.iconst 0, 1)), (54, (.istore 4, 2)), (56, (.iload 4, 2)), (58, (.bipush 24, 2)), (60, (.if_icmp .ge 102, 3)), (63, (.iload 4, 2)), (65, (.ifCond .le 83, 3)), (68, (.aload_n 0, 1)), (69, (.aload_n 0, 1)), (70, (.getfield 469, 3))] : List (Nat × (Instr × Nat))), decode cX12_wander r.1 = .ok r.2 := by decide +kernel
theorem dX12_wander_0 : decode cX12_wander 0 = .ok (.aload_n 0, 1) := dgX12_wander_0 (0, (.aload_n 0, 1)) (List.mem_of_getElem? (i := 0) rfl)
theorem dX12_wander_1 : decode cX12_wander 1 = .ok (.iconst 0, 1) := dgX12_wander_0 (1, (.iconst 0, 1)) (List.mem_of_getElem? (i := 1) rfl)
theorem dX12_wander_2 : decode cX12_wander 2 = .ok (.putfield 107, 3) := dgX12_wander_0 (2, (.putfield 107, 3)) (List.mem_of_getElem? (i := 2) rfl)
theorem dX12_wander_5 : decode cX12_wander 5 = .ok (.iload_n 1, 1) := dgX12_wander_0 (5, (.iload_n 1, 1)) (List.mem_of_getElem? (i := 3) rfl)
theorem dX12_wander_6 : decode cX12_wander 6 = .ok (.i2l, 1) := dgX12_wander_0 (6, (.i2l, 1)) (List.mem_of_getElem? (i := 4) rfl)
theorem dX12_wander_7 : decode cX12_wander 7 = .ok (.lconst 0, 1) := dgX12_wander_0 (7, (.lconst 0, 1)) (List.mem_of_getElem? (i := 5) rfl)
theorem dX12_wander_8 : decode cX12_wander 8 = .ok (.ldc2_w 190, 3) := dgX12_wander_0 (8, (.ldc2_w 190, 3)) (List.mem_of_getElem? (i := 6) rfl)
theorem dX12_wander_11 : decode cX12_wander 11 = .ok (.invokestatic 121, 3) := dgX12_wander_0 (11, (.invokestatic 121, 3)) (List.mem_of_getElem? (i := 7) rfl)
theorem dX12_wander_14 : decode cX12_wander 14 = .ok (.ifCond .eq 10, 3) := dgX12_wander_0 (14, (.ifCond .eq 10, 3)) (List.mem_of_getElem? (i := 8) rfl)
theorem dX12_wander_17 : decode cX12_wander 17 = .ok (.iload_n 2, 1) := dgX12_wander_0 (17, (.iload_n 2, 1)) (List.mem_of_getElem? (i := 9) rfl)
theorem dX12_wander_18 : decode cX12_wander 18 = .ok (.invokestatic 138, 3) := dgX12_wander_0 (18, (.invokestatic 138, 3)) (List.mem_of_getElem? (i := 10) rfl)
theorem dX12_wander_21 : decode cX12_wander 21 = .ok (.ifCond .ne 9, 3) := dgX12_wander_0 (21, (.ifCond .ne 9, 3)) (List.mem_of_getElem? (i := 11) rfl)
theorem dX12_wander_24 : decode cX12_wander 24 = .ok (.aload_n 0, 1) := dgX12_wander_0 (24, (.aload_n 0, 1)) (List.mem_of_getElem? (i := 12) rfl)
theorem dX12_wander_25 : decode cX12_wander 25 = .ok (.iconst (-1), 1) := dgX12_wander_0 (25, (.iconst (-1), 1)) (List.mem_of_getElem? (i := 13) rfl)
theorem dX12_wander_26 : decode cX12_wander 26 = .ok (.invokevirtual 125, 3) := dgX12_wander_0 (26, (.invokevirtual 125, 3)) (List.mem_of_getElem? (i := 14) rfl)
theorem dX12_wander_29 : decode cX12_wander 29 = .ok (.ireturn, 1) := dgX12_wander_0 (29, (.ireturn, 1)) (List.mem_of_getElem? (i := 15) rfl)
theorem dX12_wander_30 : decode cX12_wander 30 = .ok (.aload_n 0, 1) := dgX12_wander_0 (30, (.aload_n 0, 1)) (List.mem_of_getElem? (i := 16) rfl)
theorem dX12_wander_31 : decode cX12_wander 31 = .ok (.iload_n 2, 1) := dgX12_wander_0 (31, (.iload_n 2, 1)) (List.mem_of_getElem? (i := 17) rfl)
theorem dX12_wander_32 : decode cX12_wander 32 = .ok (.invokevirtual 160, 3) := dgX12_wander_0 (32, (.invokevirtual 160, 3)) (List.mem_of_getElem? (i := 18) rfl)
theorem dX12_wander_35 : decode cX12_wander 35 = .ok (.ifCond .eq 10, 3) := dgX12_wander_0 (35, (.ifCond .eq 10, 3)) (List.mem_of_getElem? (i := 19) rfl)
theorem dX12_wander_38 : decode cX12_wander 38 = .ok (.aload_n 0, 1) := dgX12_wander_0 (38, (.aload_n 0, 1)) (List.mem_of_getElem? (i := 20) rfl)
theorem dX12_wander_39 : decode cX12_wander 39 = .ok (.bipush (-3), 2) := dgX12_wander_0 (39, (.bipush (-3), 2)) (List.mem_of_getElem? (i := 21) rfl)
theorem dX12_wander_41 : decode cX12_wander 41 = .ok (.invokevirtual 125, 3) := dgX12_wander_0 (41, (.invokevirtual 125, 3)) (List.mem_of_getElem? (i := 22) rfl)
theorem dX12_wander_44 : decode cX12_wander 44 = .ok (.ireturn, 1) := dgX12_wander_0 (44, (.ireturn, 1)) (List.mem_of_getElem? (i := 23) rfl)
theorem dX12_wander_45 : decode cX12_wander 45 = .ok (.aload_n 0, 1) := dgX12_wander_0 (45, (.aload_n 0, 1)) (List.mem_of_getElem? (i := 24) rfl)
theorem dX12_wander_46 : decode cX12_wander 46 = .ok (.iload_n 1, 1) := dgX12_wander_0 (46, (.iload_n 1, 1)) (List.mem_of_getElem? (i := 25) rfl)
theorem dX12_wander_47 : decode cX12_wander 47 = .ok (.i2l, 1) := dgX12_wander_0 (47, (.i2l, 1)) (List.mem_of_getElem? (i := 26) rfl)
theorem dX12_wander_48 : decode cX12_wander 48 = .ok (.putfield 469, 3) := dgX12_wander_0 (48, (.putfield 469, 3)) (List.mem_of_getElem? (i := 27) rfl)
theorem dX12_wander_51 : decode cX12_wander 51 = .ok (.iload_n 2, 1) := dgX12_wander_0 (51, (.iload_n 2, 1)) (List.mem_of_getElem? (i := 28) rfl)
theorem dX12_wander_52 : decode cX12_wander 52 = .ok (.istore_n 3, 1) := dgX12_wander_0 (52, (.istore_n 3, 1)) (List.mem_of_getElem? (i := 29) rfl)
theorem dX12_wander_53 : decode cX12_wander 53 = .ok (.iconst 0, 1) := dgX12_wander_0 (53, (.iconst 0, 1)) (List.mem_of_getElem? (i := 30) rfl)
theorem dX12_wander_54 : decode cX12_wander 54 = .ok (.istore 4, 2) := dgX12_wander_0 (54, (.istore 4, 2)) (List.mem_of_getElem? (i := 31) rfl)
theorem dX12_wander_56 : decode cX12_wander 56 = .ok (.iload 4, 2) := dgX12_wander_0 (56, (.iload 4, 2)) (List.mem_of_getElem? (i := 32) rfl)
theorem dX12_wander_58 : decode cX12_wander 58 = .ok (.bipush 24, 2) := dgX12_wander_0 (58, (.bipush 24, 2)) (List.mem_of_getElem? (i := 33) rfl)
theorem dX12_wander_60 : decode cX12_wander 60 = .ok (.if_icmp .ge 102, 3) := dgX12_wander_0 (60, (.if_icmp .ge 102, 3)) (List.mem_of_getElem? (i := 34) rfl)
theorem dX12_wander_63 : decode cX12_wander 63 = .ok (.iload 4, 2) := dgX12_wander_0 (63, (.iload 4, 2)) (List.mem_of_getElem? (i := 35) rfl)
theorem dX12_wander_65 : decode cX12_wander 65 = .ok (.ifCond .le 83, 3) := dgX12_wander_0 (65, (.ifCond .le 83, 3)) (List.mem_of_getElem? (i := 36) rfl)
theorem dX12_wander_68 : decode cX12_wander 68 = .ok (.aload_n 0, 1) := dgX12_wander_0 (68, (.aload_n 0, 1)) (List.mem_of_getElem? (i := 37) rfl)
theorem dX12_wander_69 : decode cX12_wander 69 = .ok (.aload_n 0, 1) := dgX12_wander_0 (69, (.aload_n 0, 1)) (List.mem_of_getElem? (i := 38) rfl)
theorem dX12_wander_70 : decode cX12_wander 70 = .ok (.getfield 469, 3) := dgX12_wander_0 (70, (.getfield 469, 3)) (List.mem_of_getElem? (i := 39) rfl)
theorem dgX12_wander_1 : ∀ r ∈ ([(73, (.ldc2_w 472, 3)), (76, (.lmul, 1)), (77, (.ldc2_w 474, 3)), (80, (.ladd, 1)), (81, (.ldc2_w 476, 3)), (84, (.lrem, 1)), (85, (.putfield 469, 3)), (88, (.aload_n 0, 1)), (89, (.getfield 469, 3)), (92, (.ldc2_w 154, 3)), (95, (.lrem, 1)), (96, (.l2i, 1)), (97, (.istore 5, 2)), (99, (.iload 5, 2)), (101, (.iconst 4, 1)), (102, (.if_icmp .ne 7, 3)), (105, (.iload_n 3, 1)), (106, (.goto 9, 3)), (109, (.iload_n 3, 1)), (110, (.iload 5, 2)), (112, (.invokestatic 374, 3)), (115, (.istore 6, 2)), (117, (.iload 6, 2)), (119, (.iconst (-1), 1)), (120, (.if_icmp .eq 26, 3)), (123, (.aload_n 0, 1)), (124, (.iload 6, 2)), (126, (.ifCond .ge 7, 3)), (129, (.iconst 0, 1)), (130, (.goto 5, 3)), (133, (.iload 6, 2)), (135, (.invokevirtual 160, 3)), (138, (.ifCond .ne 8, 3)), (141, (.iload 6, 2)), (143, (.goto 4, 3)), (146, (.iload_n 3, 1)), (147, (.istore_n 3, 1)), (148, (.aload_n 0, 1)), (149, (.getfield 104, 3)), (152, (.iload 4, 2))] : List (Nat × (Instr × Nat))), decode cX12_wander r.1 = .ok r.2 := by decide +kernel
theorem dX12_wander_73 : decode cX12_wander 73 = .ok (.ldc2_w 472, 3) := dgX12_wander_1 (73, (.ldc2_w 472, 3)) (List.mem_of_getElem? (i := 0) rfl)
theorem dX12_wander_76 : decode cX12_wander 76 = .ok (.lmul, 1) := dgX12_wander_1 (76, (.lmul, 1)) (List.mem_of_getElem? (i := 1) rfl)
theorem dX12_wander_77 : decode cX12_wander 77 = .ok (.ldc2_w 474, 3) := dgX12_wander_1 (77, (.ldc2_w 474, 3)) (List.mem_of_getElem? (i := 2) rfl)
theorem dX12_wander_80 : decode cX12_wander 80 = .ok (.ladd, 1) := dgX12_wander_1 (80, (.ladd, 1)) (List.mem_of_getElem? (i := 3) rfl)
theorem dX12_wander_81 : decode cX12_wander 81 = .ok (.ldc2_w 476, 3) := dgX12_wander_1 (81, (.ldc2_w 476, 3)) (List.mem_of_getElem? (i := 4) rfl)
theorem dX12_wander_84 : decode cX12_wander 84 = .ok (.lrem, 1) := dgX12_wander_1 (84, (.lrem, 1)) (List.mem_of_getElem? (i := 5) rfl)
theorem dX12_wander_85 : decode cX12_wander 85 = .ok (.putfield 469, 3) := dgX12_wander_1 (85, (.putfield 469, 3)) (List.mem_of_getElem? (i := 6) rfl)
theorem dX12_wander_88 : decode cX12_wander 88 = .ok (.aload_n 0, 1) := dgX12_wander_1 (88, (.aload_n 0, 1)) (List.mem_of_getElem? (i := 7) rfl)
theorem dX12_wander_89 : decode cX12_wander 89 = .ok (.getfield 469, 3) := dgX12_wander_1 (89, (.getfield 469, 3)) (List.mem_of_getElem? (i := 8) rfl)
theorem dX12_wander_92 : decode cX12_wander 92 = .ok (.ldc2_w 154, 3) := dgX12_wander_1 (92, (.ldc2_w 154, 3)) (List.mem_of_getElem? (i := 9) rfl)
theorem dX12_wander_95 : decode cX12_wander 95 = .ok (.lrem, 1) := dgX12_wander_1 (95, (.lrem, 1)) (List.mem_of_getElem? (i := 10) rfl)
theorem dX12_wander_96 : decode cX12_wander 96 = .ok (.l2i, 1) := dgX12_wander_1 (96, (.l2i, 1)) (List.mem_of_getElem? (i := 11) rfl)
theorem dX12_wander_97 : decode cX12_wander 97 = .ok (.istore 5, 2) := dgX12_wander_1 (97, (.istore 5, 2)) (List.mem_of_getElem? (i := 12) rfl)
theorem dX12_wander_99 : decode cX12_wander 99 = .ok (.iload 5, 2) := dgX12_wander_1 (99, (.iload 5, 2)) (List.mem_of_getElem? (i := 13) rfl)
theorem dX12_wander_101 : decode cX12_wander 101 = .ok (.iconst 4, 1) := dgX12_wander_1 (101, (.iconst 4, 1)) (List.mem_of_getElem? (i := 14) rfl)
theorem dX12_wander_102 : decode cX12_wander 102 = .ok (.if_icmp .ne 7, 3) := dgX12_wander_1 (102, (.if_icmp .ne 7, 3)) (List.mem_of_getElem? (i := 15) rfl)
theorem dX12_wander_105 : decode cX12_wander 105 = .ok (.iload_n 3, 1) := dgX12_wander_1 (105, (.iload_n 3, 1)) (List.mem_of_getElem? (i := 16) rfl)
theorem dX12_wander_106 : decode cX12_wander 106 = .ok (.goto 9, 3) := dgX12_wander_1 (106, (.goto 9, 3)) (List.mem_of_getElem? (i := 17) rfl)
theorem dX12_wander_109 : decode cX12_wander 109 = .ok (.iload_n 3, 1) := dgX12_wander_1 (109, (.iload_n 3, 1)) (List.mem_of_getElem? (i := 18) rfl)
theorem dX12_wander_110 : decode cX12_wander 110 = .ok (.iload 5, 2) := dgX12_wander_1 (110, (.iload 5, 2)) (List.mem_of_getElem? (i := 19) rfl)
theorem dX12_wander_112 : decode cX12_wander 112 = .ok (.invokestatic 374, 3) := dgX12_wander_1 (112, (.invokestatic 374, 3)) (List.mem_of_getElem? (i := 20) rfl)
theorem dX12_wander_115 : decode cX12_wander 115 = .ok (.istore 6, 2) := dgX12_wander_1 (115, (.istore 6, 2)) (List.mem_of_getElem? (i := 21) rfl)
theorem dX12_wander_117 : decode cX12_wander 117 = .ok (.iload 6, 2) := dgX12_wander_1 (117, (.iload 6, 2)) (List.mem_of_getElem? (i := 22) rfl)
theorem dX12_wander_119 : decode cX12_wander 119 = .ok (.iconst (-1), 1) := dgX12_wander_1 (119, (.iconst (-1), 1)) (List.mem_of_getElem? (i := 23) rfl)
theorem dX12_wander_120 : decode cX12_wander 120 = .ok (.if_icmp .eq 26, 3) := dgX12_wander_1 (120, (.if_icmp .eq 26, 3)) (List.mem_of_getElem? (i := 24) rfl)
theorem dX12_wander_123 : decode cX12_wander 123 = .ok (.aload_n 0, 1) := dgX12_wander_1 (123, (.aload_n 0, 1)) (List.mem_of_getElem? (i := 25) rfl)
theorem dX12_wander_124 : decode cX12_wander 124 = .ok (.iload 6, 2) := dgX12_wander_1 (124, (.iload 6, 2)) (List.mem_of_getElem? (i := 26) rfl)
theorem dX12_wander_126 : decode cX12_wander 126 = .ok (.ifCond .ge 7, 3) := dgX12_wander_1 (126, (.ifCond .ge 7, 3)) (List.mem_of_getElem? (i := 27) rfl)
theorem dX12_wander_133 : decode cX12_wander 133 = .ok (.iload 6, 2) := dgX12_wander_1 (133, (.iload 6, 2)) (List.mem_of_getElem? (i := 30) rfl)
theorem dX12_wander_135 : decode cX12_wander 135 = .ok (.invokevirtual 160, 3) := dgX12_wander_1 (135, (.invokevirtual 160, 3)) (List.mem_of_getElem? (i := 31) rfl)
theorem dX12_wander_138 : decode cX12_wander 138 = .ok (.ifCond .ne 8, 3) := dgX12_wander_1 (138, (.ifCond .ne 8, 3)) (List.mem_of_getElem? (i := 32) rfl)
theorem dX12_wander_141 : decode cX12_wander 141 = .ok (.iload 6, 2) := dgX12_wander_1 (141, (.iload 6, 2)) (List.mem_of_getElem? (i := 33) rfl)
theorem dX12_wander_143 : decode cX12_wander 143 = .ok (.goto 4, 3) := dgX12_wander_1 (143, (.goto 4, 3)) (List.mem_of_getElem? (i := 34) rfl)
theorem dX12_wander_146 : decode cX12_wander 146 = .ok (.iload_n 3, 1) := dgX12_wander_1 (146, (.iload_n 3, 1)) (List.mem_of_getElem? (i := 35) rfl)
theorem dX12_wander_147 : decode cX12_wander 147 = .ok (.istore_n 3, 1) := dgX12_wander_1 (147, (.istore_n 3, 1)) (List.mem_of_getElem? (i := 36) rfl)
theorem dX12_wander_148 : decode cX12_wander 148 = .ok (.aload_n 0, 1) := dgX12_wander_1 (148, (.aload_n 0, 1)) (List.mem_of_getElem? (i := 37) rfl)
theorem dX12_wander_149 : decode cX12_wander 149 = .ok (.getfield 104, 3) := dgX12_wander_1 (149, (.getfield 104, 3)) (List.mem_of_getElem? (i := 38) rfl)
theorem dX12_wander_152 : decode cX12_wander 152 = .ok (.iload 4, 2) := dgX12_wander_1 (152, (.iload 4, 2)) (List.mem_of_getElem? (i := 39) rfl)
theorem dgX12_wander_2 : ∀ r ∈ ([(154, (.iload_n 3, 1)), (155, (.iastore, 1)), (156, (.iinc 4 1, 3)), (159, (.goto (-103), 3)), (162, (.aload_n 0, 1)), (163, (.iconst 1, 1)), (164, (.putfield 478, 3)), (167, (.aload_n 0, 1)), (168, (.invokevirtual 419, 3)), (171, (.iconst 0, 1)), (172, (.istore 4, 2)), (174, (.iconst 0, 1)), (175, (.istore 5, 2)), (177, (.iload 5, 2)), (179, (.bipush 24, 2)), (181, (.if_icmp .ge 40, 3)), (184, (.iload 4, 2)), (186, (.aload_n 0, 1)), (187, (.getfield 85, 3)), (190, (.bipush 64, 2)), (192, (.iload 5, 2)), (194, (.imul, 1)), (195, (.aload_n 0, 1)), (196, (.getfield 104, 3)), (199, (.iload 5, 2)), (201, (.iaload, 1)), (202, (.iadd, 1)), (203, (.baload, 1)), (204, (.ifCond .eq 7, 3)), (207, (.iconst 1, 1)), (208, (.goto 4, 3)), (211, (.iconst 0, 1)), (212, (.iadd, 1)), (213, (.istore 4, 2)), (215, (.iinc 5 1, 3)), (218, (.goto (-41), 3)), (221, (.aload_n 0, 1)), (222, (.iload 4, 2)), (224, (.invokevirtual 125, 3)), (227, (.ireturn, 1))] : List (Nat × (Instr × Nat))), decode cX12_wander r.1 = .ok r.2 := by decide +kernel
theorem dX12_wander_154 : decode cX12_wander 154 = .ok (.iload_n 3, 1) := dgX12_wander_2 (154, (.iload_n 3, 1)) (List.mem_of_getElem? (i := 0) rfl)
theorem dX12_wander_155 : decode cX12_wander 155 = .ok (.iastore, 1) := dgX12_wander_2 (155, (.iastore, 1)) (List.mem_of_getElem? (i := 1) rfl)
theorem dX12_wander_156 : decode cX12_wander 156 = .ok (.iinc 4 1, 3) := dgX12_wander_2 (156, (.iinc 4 1, 3)) (List.mem_of_getElem? (i := 2) rfl)
theorem dX12_wander_159 : decode cX12_wander 159 = .ok (.goto (-103), 3) := dgX12_wander_2 (159, (.goto (-103), 3)) (List.mem_of_getElem? (i := 3) rfl)
theorem dX12_wander_162 : decode cX12_wander 162 = .ok (.aload_n 0, 1) := dgX12_wander_2 (162, (.aload_n 0, 1)) (List.mem_of_getElem? (i := 4) rfl)
theorem dX12_wander_163 : decode cX12_wander 163 = .ok (.iconst 1, 1) := dgX12_wander_2 (163, (.iconst 1, 1)) (List.mem_of_getElem? (i := 5) rfl)
theorem dX12_wander_164 : decode cX12_wander 164 = .ok (.putfield 478, 3) := dgX12_wander_2 (164, (.putfield 478, 3)) (List.mem_of_getElem? (i := 6) rfl)
theorem dX12_wander_167 : decode cX12_wander 167 = .ok (.aload_n 0, 1) := dgX12_wander_2 (167, (.aload_n 0, 1)) (List.mem_of_getElem? (i := 7) rfl)
theorem dX12_wander_168 : decode cX12_wander 168 = .ok (.invokevirtual 419, 3) := dgX12_wander_2 (168, (.invokevirtual 419, 3)) (List.mem_of_getElem? (i := 8) rfl)
theorem dX12_wander_171 : decode cX12_wander 171 = .ok (.iconst 0, 1) := dgX12_wander_2 (171, (.iconst 0, 1)) (List.mem_of_getElem? (i := 9) rfl)
theorem dX12_wander_172 : decode cX12_wander 172 = .ok (.istore 4, 2) := dgX12_wander_2 (172, (.istore 4, 2)) (List.mem_of_getElem? (i := 10) rfl)
theorem dX12_wander_174 : decode cX12_wander 174 = .ok (.iconst 0, 1) := dgX12_wander_2 (174, (.iconst 0, 1)) (List.mem_of_getElem? (i := 11) rfl)
theorem dX12_wander_175 : decode cX12_wander 175 = .ok (.istore 5, 2) := dgX12_wander_2 (175, (.istore 5, 2)) (List.mem_of_getElem? (i := 12) rfl)
theorem dX12_wander_177 : decode cX12_wander 177 = .ok (.iload 5, 2) := dgX12_wander_2 (177, (.iload 5, 2)) (List.mem_of_getElem? (i := 13) rfl)
theorem dX12_wander_179 : decode cX12_wander 179 = .ok (.bipush 24, 2) := dgX12_wander_2 (179, (.bipush 24, 2)) (List.mem_of_getElem? (i := 14) rfl)
theorem dX12_wander_181 : decode cX12_wander 181 = .ok (.if_icmp .ge 40, 3) := dgX12_wander_2 (181, (.if_icmp .ge 40, 3)) (List.mem_of_getElem? (i := 15) rfl)
theorem dX12_wander_184 : decode cX12_wander 184 = .ok (.iload 4, 2) := dgX12_wander_2 (184, (.iload 4, 2)) (List.mem_of_getElem? (i := 16) rfl)
theorem dX12_wander_186 : decode cX12_wander 186 = .ok (.aload_n 0, 1) := dgX12_wander_2 (186, (.aload_n 0, 1)) (List.mem_of_getElem? (i := 17) rfl)
theorem dX12_wander_187 : decode cX12_wander 187 = .ok (.getfield 85, 3) := dgX12_wander_2 (187, (.getfield 85, 3)) (List.mem_of_getElem? (i := 18) rfl)
theorem dX12_wander_190 : decode cX12_wander 190 = .ok (.bipush 64, 2) := dgX12_wander_2 (190, (.bipush 64, 2)) (List.mem_of_getElem? (i := 19) rfl)
theorem dX12_wander_192 : decode cX12_wander 192 = .ok (.iload 5, 2) := dgX12_wander_2 (192, (.iload 5, 2)) (List.mem_of_getElem? (i := 20) rfl)
theorem dX12_wander_194 : decode cX12_wander 194 = .ok (.imul, 1) := dgX12_wander_2 (194, (.imul, 1)) (List.mem_of_getElem? (i := 21) rfl)
theorem dX12_wander_195 : decode cX12_wander 195 = .ok (.aload_n 0, 1) := dgX12_wander_2 (195, (.aload_n 0, 1)) (List.mem_of_getElem? (i := 22) rfl)
theorem dX12_wander_196 : decode cX12_wander 196 = .ok (.getfield 104, 3) := dgX12_wander_2 (196, (.getfield 104, 3)) (List.mem_of_getElem? (i := 23) rfl)
theorem dX12_wander_199 : decode cX12_wander 199 = .ok (.iload 5, 2) := dgX12_wander_2 (199, (.iload 5, 2)) (List.mem_of_getElem? (i := 24) rfl)
theorem dX12_wander_201 : decode cX12_wander 201 = .ok (.iaload, 1) := dgX12_wander_2 (201, (.iaload, 1)) (List.mem_of_getElem? (i := 25) rfl)
theorem dX12_wander_202 : decode cX12_wander 202 = .ok (.iadd, 1) := dgX12_wander_2 (202, (.iadd, 1)) (List.mem_of_getElem? (i := 26) rfl)
theorem dX12_wander_203 : decode cX12_wander 203 = .ok (.baload, 1) := dgX12_wander_2 (203, (.baload, 1)) (List.mem_of_getElem? (i := 27) rfl)
theorem dX12_wander_204 : decode cX12_wander 204 = .ok (.ifCond .eq 7, 3) := dgX12_wander_2 (204, (.ifCond .eq 7, 3)) (List.mem_of_getElem? (i := 28) rfl)
theorem dX12_wander_207 : decode cX12_wander 207 = .ok (.iconst 1, 1) := dgX12_wander_2 (207, (.iconst 1, 1)) (List.mem_of_getElem? (i := 29) rfl)
theorem dX12_wander_208 : decode cX12_wander 208 = .ok (.goto 4, 3) := dgX12_wander_2 (208, (.goto 4, 3)) (List.mem_of_getElem? (i := 30) rfl)
theorem dX12_wander_211 : decode cX12_wander 211 = .ok (.iconst 0, 1) := dgX12_wander_2 (211, (.iconst 0, 1)) (List.mem_of_getElem? (i := 31) rfl)
theorem dX12_wander_212 : decode cX12_wander 212 = .ok (.iadd, 1) := dgX12_wander_2 (212, (.iadd, 1)) (List.mem_of_getElem? (i := 32) rfl)
theorem dX12_wander_213 : decode cX12_wander 213 = .ok (.istore 4, 2) := dgX12_wander_2 (213, (.istore 4, 2)) (List.mem_of_getElem? (i := 33) rfl)
theorem dX12_wander_215 : decode cX12_wander 215 = .ok (.iinc 5 1, 3) := dgX12_wander_2 (215, (.iinc 5 1, 3)) (List.mem_of_getElem? (i := 34) rfl)
theorem dX12_wander_218 : decode cX12_wander 218 = .ok (.goto (-41), 3) := dgX12_wander_2 (218, (.goto (-41), 3)) (List.mem_of_getElem? (i := 35) rfl)
theorem dX12_wander_221 : decode cX12_wander 221 = .ok (.aload_n 0, 1) := dgX12_wander_2 (221, (.aload_n 0, 1)) (List.mem_of_getElem? (i := 36) rfl)
theorem dX12_wander_222 : decode cX12_wander 222 = .ok (.iload 4, 2) := dgX12_wander_2 (222, (.iload 4, 2)) (List.mem_of_getElem? (i := 37) rfl)
theorem dX12_wander_224 : decode cX12_wander 224 = .ok (.invokevirtual 125, 3) := dgX12_wander_2 (224, (.invokevirtual 125, 3)) (List.mem_of_getElem? (i := 38) rfl)
theorem dX12_wander_227 : decode cX12_wander 227 = .ok (.ireturn, 1) := dgX12_wander_2 (227, (.ireturn, 1)) (List.mem_of_getElem? (i := 39) rfl)
theorem fl_X12_469 : Cond.fieldLink RX12 469 "LateGlassModel" "state" "J" ∈ tblG := tg 1252 (by decide +kernel) (by decide +kernel)
theorem kl_X12_472 : Cond.constantLong RX12 472 1103 ∈ tblG := tg 1818 (by decide +kernel) (by decide +kernel)
theorem kl_X12_474 : Cond.constantLong RX12 474 12345 ∈ tblG := tg 1819 (by decide +kernel) (by decide +kernel)
theorem kl_X12_476 : Cond.constantLong RX12 476 1000003 ∈ tblG := tg 1820 (by decide +kernel) (by decide +kernel)
