set_option maxHeartbeats 4000000 in
set_option maxRecDepth 100000 in
theorem n_isFree (l : Launch) (G : g5_G) (b_o b_ro b_se b_re b_rf b_im b_ke b_tp b_nl b_op b_ar b_pi b_pa b_ws b_hw b_pt b_ip b_ah b_be b_me b_tr b_ld b_wn : Nat) (sz : Nat) (u_th : Int32) (u_sa : Int32) (u_fd : Int32) (u_td : Int32) (u_fr : Int32) (u_to : Int32) (u_so : Int32) (u_fa : Int32) (u_bd : Int32) (u_nc : Int32) (u_co : Int32) (u_le : Int32) (u_pd : Int32) (u_od : Int32) (u_la : Int32) (u_bk : Int32) (u_ce : Int32) (u_ho : Int32) (u_wy : Int32) (u_bt : Int32) (u_ps : Int32) (u_tg : Int32) (u_sn : Int32) (u_ic : Int32) (u_wd : Int32) (u_id : Int32) (u_wo : Int64) (u_va : Int64) (u_su : Int64) (u_st : Int64) (v_ro : Nat → Int32) (v_se : Nat → Int64) (v_re : Nat → Int64) (h_u_td : 0 ≤ u_td.toInt ∧ u_td.toInt ≤ 400) (h_u_fr : 0 ≤ u_fr.toInt ∧ u_fr.toInt ≤ 400) (h_u_to : 0 ≤ u_to.toInt ∧ u_to.toInt ≤ 400) (h_u_bd : 0 ≤ u_bd.toInt ∧ u_bd.toInt ≤ 1) (h_u_nc : 0 ≤ u_nc.toInt ∧ u_nc.toInt ≤ 12) (h_u_co : 0 ≤ u_co.toInt ∧ u_co.toInt ≤ 400) (h_u_pd : 0 ≤ u_pd.toInt ∧ u_pd.toInt ≤ 400) (h_u_la : 0 ≤ u_la.toInt ∧ u_la.toInt ≤ 4840) (h_u_bk : 0 ≤ u_bk.toInt ∧ u_bk.toInt ≤ 1) (h_u_ce : 0 ≤ u_ce.toInt ∧ u_ce.toInt ≤ 63) (h_u_ho : 0 ≤ u_ho.toInt ∧ u_ho.toInt ≤ 23) (h_u_wy : 0 ≤ u_wy.toInt ∧ u_wy.toInt ≤ 3) (h_u_bt : 0 ≤ u_bt.toInt ∧ u_bt.toInt ≤ 1000000) (h_u_ps : 0 ≤ u_ps.toInt ∧ u_ps.toInt ≤ 200) (h_u_ic : 0 ≤ u_ic.toInt ∧ u_ic.toInt ≤ 1) (h_u_id : 0 ≤ u_id.toInt ∧ u_id.toInt ≤ 1) (r_ro : MI v_ro) : Met l yX12_isFree (wsG yX12_isFree cX12_isFree 2 (some .boolean)) ({ frames := 4, cells := 0, slots := 0, locals := 101 }) (va_Pc [.ref b_o] (g5_P G [(b_o, (oc12 u_th u_sa b_rf b_ro b_im b_ke u_fd b_tp u_td u_fr u_to u_so u_wo u_fa u_bd u_nc b_nl u_co b_op b_ar u_le b_pi b_pa u_pd u_od b_ws b_hw u_la b_se b_re u_bk u_va u_su u_ce u_ho u_wy u_bt u_ps b_pt u_tg u_sn b_ip u_ic b_ah b_be b_me u_wd b_tr b_ld u_st b_wn u_id)), (b_ro, (arI G 5740 v_ro)), (b_se, (arJ G 13 v_se)), (b_re, (arJ G 400 v_re))] sz)) (va_Qi (fun (r : Int32) (u : va_W) => (∃ (o_r : Int32) (o_la : Int32) (o_bk : Int32) (o_va : Int64) (o_su : Int64) (o_sn : Int32) (o_se : Nat → Int64) (o_re : Nat → Int64), (0 ≤ o_r.toInt ∧ o_r.toInt ≤ 1) ∧ (0 ≤ o_la.toInt ∧ o_la.toInt ≤ 4840) ∧ (0 ≤ o_bk.toInt ∧ o_bk.toInt ≤ 1) ∧ (r = o_r) ∧ (u = [(b_o, (oc12 u_th u_sa b_rf b_ro b_im b_ke u_fd b_tp u_td u_fr u_to u_so u_wo u_fa u_bd u_nc b_nl u_co b_op b_ar u_le b_pi b_pa u_pd u_od b_ws b_hw o_la b_se b_re o_bk o_va o_su u_ce u_ho u_wy u_bt u_ps b_pt u_tg o_sn b_ip u_ic b_ah b_be b_me u_wd b_tr b_ld u_st b_wn u_id)), (b_ro, (arI G 5740 v_ro)), (b_se, (arJ G 13 o_se)), (b_re, (arJ G 400 o_re))]))) (g5_B G (va_A [(b_o, (oc12 u_th u_sa b_rf b_ro b_im b_ke u_fd b_tp u_td u_fr u_to u_so u_wo u_fa u_bd u_nc b_nl u_co b_op b_ar u_le b_pi b_pa u_pd u_od b_ws b_hw u_la b_se b_re u_bk u_va u_su u_ce u_ho u_wy u_bt u_ps b_pt u_tg u_sn b_ip u_ic b_ah b_be b_me u_wd b_tr b_ld u_st b_wn u_id)), (b_ro, (arI G 5740 v_ro)), (b_se, (arJ G 13 v_se)), (b_re, (arJ G 400 v_re))] sz)) (va_A [(b_o, (oc12 u_th u_sa b_rf b_ro b_im b_ke u_fd b_tp u_td u_fr u_to u_so u_wo u_fa u_bd u_nc b_nl u_co b_op b_ar u_le b_pi b_pa u_pd u_od b_ws b_hw u_la b_se b_re u_bk u_va u_su u_ce u_ho u_wy u_bt u_ps b_pt u_tg u_sn b_ip u_ic b_ah b_be b_me u_wd b_tr b_ld u_st b_wn u_id)), (b_ro, (arI G 5740 v_ro)), (b_se, (arJ G 13 v_se)), (b_re, (arJ G 400 v_re))] sz)) 0 0 (va_A [(b_o, (oc12 u_th u_sa b_rf b_ro b_im b_ke u_fd b_tp u_td u_fr u_to u_so u_wo u_fa u_bd u_nc b_nl u_co b_op b_ar u_le b_pi b_pa u_pd u_od b_ws b_hw u_la b_se b_re u_bk u_va u_su u_ce u_ho u_wy u_bt u_ps b_pt u_tg u_sn b_ip u_ic b_ah b_be b_me u_wd b_tr b_ld u_st b_wn u_id)), (b_ro, (arI G 5740 v_ro)), (b_se, (arJ G 13 v_se)), (b_re, (arJ G 400 v_re))] sz) := by
  refine Met.ofW (cc := cX12_isFree) (maxL := 2) (ret := (some .boolean)) (by decide) rfl ?_
  intro p e s m args below meth c s₁ B hml hv
  obtain ⟨rfl, hsz, hP, hK, hD0, hN, hT⟩ := hv
  have hx := B.exec
  have hb := B.bytes
  have hr := B.returns
  have hts : ∀ w ∈ tblG, w.before _ s = true := fun w h => atoms_spec (ws := (wsG yX12_isFree cX12_isFree 2 (some .boolean))) B.pre w (List.mem_cons_of_mem _ h)
  have hown : s.vm.findClass RX12 = some m.cls := findClass_of_methodNamed B.named
  have hlocks := B.notSynchronized
  subst hsz
  have hD := hD0.self (sz := s.heap.size)
  generalize hAe : va_A [(b_o, (oc12 u_th u_sa b_rf b_ro b_im b_ke u_fd b_tp u_td u_fr u_to u_so u_wo u_fa u_bd u_nc b_nl u_co b_op b_ar u_le b_pi b_pa u_pd u_od b_ws b_hw u_la b_se b_re u_bk u_va u_su u_ce u_ho u_wy u_bt u_ps b_pt u_tg u_sn b_ip u_ic b_ah b_be b_me u_wd b_tr b_ld u_st b_wn u_id)), (b_ro, (arI G 5740 v_ro)), (b_se, (arJ G 13 v_se)), (b_re, (arJ G 400 v_re))] s.heap.size = A at hD hT ⊢
  have hA : ∀ q : Nat, s.heap.size ≤ q → A q := fun q h => by rw [← hAe]; exact Or.inr h
  have hS : va_S A s.heap s.heap [] := va_S.rf
  have hP : va_P G.1 vwCl [(b_o, (oc12 u_th u_sa b_rf b_ro b_im b_ke u_fd b_tp u_td u_fr u_to u_so u_wo u_fa u_bd u_nc b_nl u_co b_op b_ar u_le b_pi b_pa u_pd u_od b_ws b_hw u_la b_se b_re u_bk u_va u_su u_ce u_ho u_wy u_bt u_ps b_pt u_tg u_sn b_ip u_ic b_ah b_be b_me u_wd b_tr b_ld u_st b_wn u_id)), (b_ro, (arI G 5740 v_ro)), (b_se, (arJ G 13 v_se)), (b_re, (arJ G 400 v_re))] s.heap := hP
  have hl := lv_entry ([.ref b_o]) (n := 2) (Nat.le_of_ble_eq_true rfl)
  rw [lg_entry_eq]
  generalize (lg_sl ([.ref b_o]) ++ List.replicate (2 - (lg_sl ([.ref b_o])).length) Slot.unset).toArray = ls at hl ⊢
  have hl : lv_has ls 2 [(0, .ref b_o)] := hl
  refine lv_iconst (v := 0) hx hb dX12_isFree_0 (by decide) ?_
  refine lv_istore_n (lv' := [(1, .int 0), (0, .ref b_o)]) hx hb dX12_isFree_1 rfl hl (by decide) rfl (fun ls hl => ?_)
  refine g5_loop (α := (Int32) × (Int32) × (Int32) × (Int64) × (Int64) × (Int32) × (Nat → Int64) × (Nat → Int64)) (fun (q : (Int32) × (Int32) × (Int32) × (Int64) × (Int64) × (Int32) × (Nat → Int64) × (Nat → Int64)) (ls : Array Slot) (H : Heap) (locs : List Loc) => match q with | (k2_1, k2_la, k2_bk, k2_va, k2_su, k2_sn, k2_se, k2_re) => lv_has ls 2 [(1, .int k2_1), (0, .ref b_o)] ∧ va_P G.1 vwCl [(b_o, (oc12 u_th u_sa b_rf b_ro b_im b_ke u_fd b_tp u_td u_fr u_to u_so u_wo u_fa u_bd u_nc b_nl u_co b_op b_ar u_le b_pi b_pa u_pd u_od b_ws b_hw k2_la b_se b_re k2_bk k2_va k2_su u_ce u_ho u_wy u_bt u_ps b_pt u_tg k2_sn b_ip u_ic b_ah b_be b_me u_wd b_tr b_ld u_st b_wn u_id)), (b_ro, (arI G 5740 v_ro)), (b_se, (arJ G 13 k2_se)), (b_re, (arJ G 400 k2_re))] H ∧ va_D A [(b_o, (oc12 u_th u_sa b_rf b_ro b_im b_ke u_fd b_tp u_td u_fr u_to u_so u_wo u_fa u_bd u_nc b_nl u_co b_op b_ar u_le b_pi b_pa u_pd u_od b_ws b_hw k2_la b_se b_re k2_bk k2_va k2_su u_ce u_ho u_wy u_bt u_ps b_pt u_tg k2_sn b_ip u_ic b_ah b_be b_me u_wd b_tr b_ld u_st b_wn u_id)), (b_ro, (arI G 5740 v_ro)), (b_se, (arJ G 13 k2_se)), (b_re, (arJ G 400 k2_re))] ∧ va_S A s.heap H locs ∧ (0 ≤ k2_1.toInt ∧ k2_1.toInt ≤ 5) ∧ (0 ≤ k2_la.toInt ∧ k2_la.toInt ≤ 4840) ∧ (0 ≤ k2_bk.toInt ∧ k2_bk.toInt ≤ 1)) (fun (q : (Int32) × (Int32) × (Int32) × (Int64) × (Int64) × (Int32) × (Nat → Int64) × (Nat → Int64)) => match q with | (k2_1, k2_la, k2_bk, k2_va, k2_su, k2_sn, k2_se, k2_re) => Int.toNat (5 - k2_1.toInt)) (0, u_la, u_bk, u_va, u_su, u_sn, v_se, v_re) ⟨lv_sub hl [0, 1] rfl, hP, hD, hS, ⟨by decide, by decide⟩, h_u_la, h_u_bk⟩ ?_
  rintro ⟨k2_1, k2_la, k2_bk, k2_va, k2_su, k2_sn, k2_se, k2_re⟩ ls H locs ⟨hl, hP, hD, hS, i_1, i_2, i_3⟩ ih_2_4
  have hl : lv_has ls 2 [(1, .int k2_1), (0, .ref b_o)] := hl
  have i_1 : 0 ≤ k2_1.toInt ∧ k2_1.toInt ≤ 5 := i_1
  have i_2 : 0 ≤ k2_la.toInt ∧ k2_la.toInt ≤ 4840 := i_2
  have i_3 : 0 ≤ k2_bk.toInt ∧ k2_bk.toInt ≤ 1 := i_3
  refine g5_rs [(b_o, (oc12 u_th u_sa b_rf b_ro b_im b_ke u_fd b_tp u_td u_fr u_to u_so u_wo u_fa u_bd u_nc b_nl u_co b_op b_ar u_le b_pi b_pa u_pd u_od b_ws b_hw k2_la b_se b_re k2_bk k2_va k2_su u_ce u_ho u_wy u_bt u_ps b_pt u_tg k2_sn b_ip u_ic b_ah b_be b_me u_wd b_tr b_ld u_st b_wn u_id)), (b_ro, (arI G 5740 v_ro)), (b_se, (arJ G 13 k2_se)), (b_re, (arJ G 400 k2_re))] hP hD (fun hP hD => ?_)
  refine lv_iload_n hx hb dX12_isFree_2 rfl (lv_at hl 0 rfl) ?_
  refine lv_aload_n hx hb dX12_isFree_3 rfl (lv_at hl 1 rfl) ?_
  refine va_get (D := G.1) (ci := 12) (v := .ref b_ro) (C := RX12) (T := TX12) (N := 52) hx hb hts inG_X12 hown hK hP 0 rfl rfl 3 (by decide) (hts _ fl_X12_13) (fun _ h9 => h9) rfl dX12_isFree_4 ?_
  refine lv_iconst (v := 1) hx hb dX12_isFree_7 (by decide) ?_
  refine va_iald hx hb hK hP 1 0 rfl rfl (i := 1) (by unfold vp_in; decide) dX12_isFree_8 ?_
  refine g5_ti (v := (v_ro 1)) rfl ?_
  have hr_5 : 0 ≤ (v_ro 1).toInt ∧ (v_ro 1).toInt ≤ 5 := mi_1 r_ro
  refine lv_icmp_ge (tgt := 53) hx hb dX12_isFree_9 (by decide) (fun c_6 => ?_) (fun c_6 => ?_)
  ·
    have i_6 : k2_1.toInt ≥ (v_ro 1).toInt := by have z := g5_ge (a := k2_1.toInt) (b := (v_ro 1).toInt) (by rfl) (by rfl) c_6; omega
    refine lv_iconst (v := 1) hx hb dX12_isFree_53 (by decide) ?_
    exact W.zret (v := 1) hx hb hr rfl (fun t ht hW => ⟨⟨1, [(b_o, (oc12 u_th u_sa b_rf b_ro b_im b_ke u_fd b_tp u_td u_fr u_to u_so u_wo u_fa u_bd u_nc b_nl u_co b_op b_ar u_le b_pi b_pa u_pd u_od b_ws b_hw k2_la b_se b_re k2_bk k2_va k2_su u_ce u_ho u_wy u_bt u_ps b_pt u_tg k2_sn b_ip u_ic b_ah b_be b_me u_wd b_tr b_ld u_st b_wn u_id)), (b_ro, (arI G 5740 v_ro)), (b_se, (arJ G 13 k2_se)), (b_re, (arJ G 400 k2_re))], rfl, ⟨1, k2_la, k2_bk, k2_va, k2_su, k2_sn, k2_se, k2_re, ⟨by have zc_o_r : (1 : Int32).toInt = 1 := (by decide); omega, by have zc_o_r : (1 : Int32).toInt = 1 := (by decide); omega⟩, i_2, i_3, rfl, rfl⟩, by rw [ht]; exact hP.sub [0, 1, 2, 3] rfl, hD.sub [0, 1, 2, 3] (by decide) rfl⟩, hS.F ht⟩) hS.2.2 dX12_isFree_54
  ·
    have i_6 : k2_1.toInt < (v_ro 1).toInt := by have z := g5_geN (a := k2_1.toInt) (b := (v_ro 1).toInt) (by rfl) (by rfl) c_6; omega
    refine lv_aload_n hx hb dX12_isFree_12 rfl (lv_at hl 1 rfl) ?_
    refine lv_iload_n hx hb dX12_isFree_13 rfl (lv_at hl 0 rfl) ?_
    refine lv_aload_n hx hb dX12_isFree_14 rfl (lv_at hl 1 rfl) ?_
    refine va_get (D := G.1) (ci := 12) (v := .int u_ho) (C := RX12) (T := TX12) (N := 52) hx hb hts inG_X12 hown hK hP 0 rfl rfl 34 (by decide) (hts _ fl_X12_352) (fun _ h9 => h9) rfl dX12_isFree_15 ?_
    obtain ⟨hPc, hDc, hFc⟩ := g5_sub3 (wc := [(b_o, (oc12 u_th u_sa b_rf b_ro b_im b_ke u_fd b_tp u_td u_fr u_to u_so u_wo u_fa u_bd u_nc b_nl u_co b_op b_ar u_le b_pi b_pa u_pd u_od b_ws b_hw k2_la b_se b_re k2_bk k2_va k2_su u_ce u_ho u_wy u_bt u_ps b_pt u_tg k2_sn b_ip u_ic b_ah b_be b_me u_wd b_tr b_ld u_st b_wn u_id)), (b_ro, (arI G 5740 v_ro))]) hP hD hS hA [0, 1] (by decide) rfl
    refine va_calli (va_runV (As := [.int k2_1, .int u_ho]) (rest := []) ⟨hx, hb, hml, hown, hts⟩ (n_whereIs l G b_o b_ro b_rf b_im b_ke b_tp b_nl b_op b_ar b_pi b_pa b_ws b_hw b_se b_re b_pt b_ip b_ah b_be b_me b_tr b_ld b_wn H.size u_th u_sa u_fd u_td u_fr u_to u_so u_fa u_bd u_nc u_co u_le u_pd u_od k2_la k2_bk u_ce u_ho u_wy u_bt u_ps u_tg k2_sn u_ic u_wd u_id k2_1 u_ho u_wo k2_va k2_su u_st v_ro h_u_td h_u_fr h_u_to h_u_bd h_u_nc h_u_co h_u_pd i_2 i_3 h_u_ce h_u_ho h_u_wy h_u_bt h_u_ps h_u_ic h_u_id ⟨by omega, by omega⟩ h_u_ho (r_ro)) (cwV 2 hts gV_X12_187 rfl rfl rfl hv_X12_whereIs ⟨Nat.le_of_ble_eq_true rfl, Nat.le_of_ble_eq_true rfl⟩) (g5_preV hPc hK hDc hN hT hS hFc (ci := 12) (q0 := 0) rfl rfl) rfl rfl hl.1 rfl (lv_room (Nat.le_of_ble_eq_true rfl)) dX12_isFree_18 ⟨Nat.le_of_ble_eq_true rfl, Nat.le_of_ble_eq_true rfl⟩) hS (fun q _ h => hFc q h) hFc (fun r u t H1 locs ht hvm hw hB hz1 hk1 hS => ?_)
    obtain ⟨hP1, hD1⟩ := hB
    rw [ht] at hP1
    obtain ⟨z7, y8, rfl⟩ := hw
    obtain ⟨hP, hD⟩ := va_join (wr := [(b_se, (arJ G 13 k2_se)), (b_re, (arJ G 400 k2_re))]) hP hD [0, 1] [2, 3] rfl rfl (by decide) (by decide) hk1 hFc hP1 hD1
    generalize H1 = H at hP hS ⊢
    refine g5_rs [(b_se, (arJ G 13 k2_se)), (b_re, (arJ G 400 k2_re)), (b_o, (oc12 u_th u_sa b_rf b_ro b_im b_ke u_fd b_tp u_td u_fr u_to u_so u_wo u_fa u_bd u_nc b_nl u_co b_op b_ar u_le b_pi b_pa u_pd u_od b_ws b_hw k2_la b_se b_re k2_bk k2_va k2_su u_ce u_ho u_wy u_bt u_ps b_pt u_tg k2_sn b_ip u_ic b_ah b_be b_me u_wd b_tr b_ld u_st b_wn u_id)), (b_ro, (arI G 5740 v_ro))] hP hD (fun hP hD => ?_)
    refine g5_ti (v := z7) y8 ?_
    refine lv_aload_n hx hb dX12_isFree_21 rfl (lv_at hl 1 rfl) ?_
    refine va_get (D := G.1) (ci := 12) (v := .int u_ce) (C := RX12) (T := TX12) (N := 52) hx hb hts inG_X12 hown hK hP 2 rfl rfl 33 (by decide) (hts _ fl_X12_349) (fun _ h9 => h9) rfl dX12_isFree_22 ?_
    refine lv_icmp_ne (tgt := 47) hx hb dX12_isFree_25 (by decide) (fun c_9 => ?_) (fun c_9 => ?_)
    ·
      have n_9 : gNe (z7.toInt) (u_ce.toInt) := by have z := g5_ne (a := z7.toInt) (b := u_ce.toInt) (by rfl) (by rfl) c_9; unfold gNe; omega
      refine lv_iinc (v := (k2_1 + 1)) (lv' := [(1, .int (k2_1 + 1)), (0, .ref b_o)]) hx hb dX12_isFree_47 hl (k := 0) rfl rfl (by decide) rfl (fun ls hl => ?_)
      have t_10 : (k2_1 + 1).toInt = k2_1.toInt + 1 := g5_iadd (a := k2_1.toInt) (b := 1) rfl (by decide) (by omega) (by omega)
      refine lv_goto (tgt := 2) hx hb dX12_isFree_50 (by decide) ?_
      exact ih_2_4 ((k2_1 + 1), k2_la, k2_bk, k2_va, k2_su, k2_sn, k2_se, k2_re) ls H locs (show Int.toNat (5 - (k2_1 + 1).toInt) < Int.toNat (5 - k2_1.toInt) from g_up (show k2_1.toInt < (k2_1 + 1).toInt by omega) (show k2_1.toInt < 5 by omega)) ⟨lv_sub hl [0, 1] rfl, hP.sub [2, 3, 0, 1] rfl, hD.sub [2, 3, 0, 1] (by decide) rfl, hS, ⟨by omega, by omega⟩, i_2, i_3⟩
    ·
      have i_9 : z7.toInt = u_ce.toInt := by have z := g5_neN (a := z7.toInt) (b := u_ce.toInt) (by rfl) (by rfl) c_9; omega
      refine lv_aload_n hx hb dX12_isFree_28 rfl (lv_at hl 1 rfl) ?_
      refine lv_iconst (v := 3) hx hb dX12_isFree_29 (by decide) ?_
      refine lv_iconst (v := (-1)) hx hb dX12_isFree_30 (by decide) ?_
      refine lv_iload_n hx hb dX12_isFree_31 rfl (lv_at hl 0 rfl) ?_
      refine lv_iconst (v := 0) hx hb dX12_isFree_32 (by decide) ?_
      refine lv_iconst (v := 1) hx hb dX12_isFree_33 (by decide) ?_
      obtain ⟨hPc, hDc, hFc⟩ := g5_sub3 (wc := [(b_o, (oc12 u_th u_sa b_rf b_ro b_im b_ke u_fd b_tp u_td u_fr u_to u_so u_wo u_fa u_bd u_nc b_nl u_co b_op b_ar u_le b_pi b_pa u_pd u_od b_ws b_hw k2_la b_se b_re k2_bk k2_va k2_su u_ce u_ho u_wy u_bt u_ps b_pt u_tg k2_sn b_ip u_ic b_ah b_be b_me u_wd b_tr b_ld u_st b_wn u_id)), (b_ro, (arI G 5740 v_ro)), (b_se, (arJ G 13 k2_se)), (b_re, (arJ G 400 k2_re))]) hP hD hS hA [2, 3, 0, 1] (by decide) rfl
      refine va_calli (va_runV (As := [.int 3, .int (-1), .int k2_1, .int 0, .int 1]) (rest := []) ⟨hx, hb, hml, hown, hts⟩ (n_asks l G b_o b_ro b_se b_re b_rf b_im b_ke b_tp b_nl b_op b_ar b_pi b_pa b_ws b_hw b_pt b_ip b_ah b_be b_me b_tr b_ld b_wn H.size u_th u_sa u_fd u_td u_fr u_to u_so u_fa u_bd u_nc u_co u_le u_pd u_od k2_la k2_bk u_ce u_ho u_wy u_bt u_ps u_tg k2_sn u_ic u_wd u_id 3 (-1) k2_1 0 1 u_wo k2_va k2_su u_st v_ro k2_se k2_re h_u_td h_u_fr h_u_to h_u_bd h_u_nc h_u_co h_u_pd i_2 i_3 h_u_ce h_u_ho h_u_wy h_u_bt h_u_ps h_u_ic h_u_id ⟨by decide, by decide⟩ ⟨by decide, by decide⟩ (r_ro) (by decide)) (cwV 5 hts gV_X12_383 rfl rfl rfl hv_X12_asks ⟨Nat.le_of_ble_eq_true rfl, Nat.le_of_ble_eq_true rfl⟩) (g5_preV hPc hK hDc hN hT hS hFc (ci := 12) (q0 := 0) rfl rfl) rfl rfl hl.1 rfl (lv_room (Nat.le_of_ble_eq_true rfl)) dX12_isFree_34 ⟨Nat.le_of_ble_eq_true rfl, Nat.le_of_ble_eq_true rfl⟩) hS (fun q _ h => hFc q h) hFc (fun r u t H1 locs ht hvm hw hB hz1 hk1 hS => ?_)
      obtain ⟨hP1, hD1⟩ := hB
      rw [ht] at hP1
      obtain ⟨z15, z16, z17, z18, z19, z20, z21, i_11, i_12, i_13, i_14, y22, rfl⟩ := hw
      have i_11 : 0 ≤ z15.toInt ∧ z15.toInt ≤ 23 := i_11
      have i_12 : 0 ≤ z15.toInt ∧ z15.toInt ≤ (1 : Int32).toInt := i_12
      have i_13 : 0 ≤ z16.toInt ∧ z16.toInt ≤ 4840 := i_13
      have i_14 : 0 ≤ z17.toInt ∧ z17.toInt ≤ 1 := i_14
      obtain ⟨hP, hD⟩ := va_join (wr := []) hP hD [2, 3, 0, 1] [] rfl rfl (by decide) (by decide) hk1 hFc hP1 hD1
      generalize H1 = H at hP hS ⊢
      refine g5_rs [(b_o, (oc12 u_th u_sa b_rf b_ro b_im b_ke u_fd b_tp u_td u_fr u_to u_so u_wo u_fa u_bd u_nc b_nl u_co b_op b_ar u_le b_pi b_pa u_pd u_od b_ws b_hw z16 b_se b_re z17 z18 z19 u_ce u_ho u_wy u_bt u_ps b_pt u_tg k2_sn b_ip u_ic b_ah b_be b_me u_wd b_tr b_ld u_st b_wn u_id)), (b_ro, (arI G 5740 v_ro)), (b_se, (arJ G 13 z20)), (b_re, (arJ G 400 z21))] hP hD (fun hP hD => ?_)
      refine g5_ti (v := z15) y22 ?_
      refine lv_if_ne (tgt := 47) hx hb dX12_isFree_37 (by decide) (fun c_23 => ?_) (fun c_23 => ?_)
      ·
        have n_23 : gNe (z15.toInt) (0) := by have z := g5_ne (a := z15.toInt) (b := 0) (by rfl) (by decide) c_23; unfold gNe; omega
        have i_23 : z15.toInt ≥ 1 := by have z := g5_ne (a := z15.toInt) (b := 0) (by rfl) (by decide) c_23; omega
        refine lv_iinc (v := (k2_1 + 1)) (lv' := [(1, .int (k2_1 + 1)), (0, .ref b_o)]) hx hb dX12_isFree_47 hl (k := 0) rfl rfl (by decide) rfl (fun ls hl => ?_)
        have t_24 : (k2_1 + 1).toInt = k2_1.toInt + 1 := g5_iadd (a := k2_1.toInt) (b := 1) rfl (by decide) (by omega) (by omega)
        refine lv_goto (tgt := 2) hx hb dX12_isFree_50 (by decide) ?_
        exact ih_2_4 ((k2_1 + 1), z16, z17, z18, z19, k2_sn, z20, z21) ls H locs (show Int.toNat (5 - (k2_1 + 1).toInt) < Int.toNat (5 - k2_1.toInt) from g_up (show k2_1.toInt < (k2_1 + 1).toInt by omega) (show k2_1.toInt < 5 by omega)) ⟨lv_sub hl [0, 1] rfl, hP, hD, hS, ⟨by omega, by omega⟩, i_13, i_14⟩
      ·
        have i_23 : z15.toInt = 0 := by have z := g5_neN (a := z15.toInt) (b := 0) (by rfl) (by decide) c_23; omega
        refine lv_aload_n hx hb dX12_isFree_40 rfl (lv_at hl 1 rfl) ?_
        refine lv_iload_n hx hb dX12_isFree_41 rfl (lv_at hl 0 rfl) ?_
        refine va_put (D := G.1) (ci := 12) (v := .int k2_1) (ty := .int) (C := RX12) (T := TX12) (N := 52) hx hb hts inG_X12 tyX12 tyX12_ok nmX12 hown hK hP hD hS 0 rfl rfl 40 (by decide) (hts _ fl_X12_371) (fun _ h9 => h9) rfl (by decide +kernel) rfl rfl (Nat.le_of_ble_eq_true rfl) dX12_isFree_42 (fun H locs hP hD hS => ?_)
        refine g5_rs [(b_o, (oc12 u_th u_sa b_rf b_ro b_im b_ke u_fd b_tp u_td u_fr u_to u_so u_wo u_fa u_bd u_nc b_nl u_co b_op b_ar u_le b_pi b_pa u_pd u_od b_ws b_hw z16 b_se b_re z17 z18 z19 u_ce u_ho u_wy u_bt u_ps b_pt u_tg k2_1 b_ip u_ic b_ah b_be b_me u_wd b_tr b_ld u_st b_wn u_id)), (b_ro, (arI G 5740 v_ro)), (b_se, (arJ G 13 z20)), (b_re, (arJ G 400 z21))] hP hD (fun hP hD => ?_)
        refine lv_iconst (v := 0) hx hb dX12_isFree_45 (by decide) ?_
        exact W.zret (v := 0) hx hb hr rfl (fun t ht hW => ⟨⟨0, [(b_o, (oc12 u_th u_sa b_rf b_ro b_im b_ke u_fd b_tp u_td u_fr u_to u_so u_wo u_fa u_bd u_nc b_nl u_co b_op b_ar u_le b_pi b_pa u_pd u_od b_ws b_hw z16 b_se b_re z17 z18 z19 u_ce u_ho u_wy u_bt u_ps b_pt u_tg k2_1 b_ip u_ic b_ah b_be b_me u_wd b_tr b_ld u_st b_wn u_id)), (b_ro, (arI G 5740 v_ro)), (b_se, (arJ G 13 z20)), (b_re, (arJ G 400 z21))], rfl, ⟨0, z16, z17, z18, z19, k2_1, z20, z21, ⟨by have zc_o_r : (0 : Int32).toInt = 0 := (by decide); omega, by have zc_o_r : (0 : Int32).toInt = 0 := (by decide); omega⟩, i_13, i_14, rfl, rfl⟩, by rw [ht]; exact hP.sub [0, 1, 2, 3] rfl, hD.sub [0, 1, 2, 3] (by decide) rfl⟩, hS.F ht⟩) hS.2.2 dX12_isFree_46
theorem dgX12_turns_0 : ∀ r ∈ ([(0, (.iload 5, 2)), (2, (.ifCond .ne 31, 3)), (5, (.aload_n 0, 1)), (6, (.iconst 2, 1)), (7, (.iload_n 1, 1)), (8, (.iconst (-1), 1)), (9, (.iconst 0, 1)), (10, (.iconst 1, 1)), (11, (.invokevirtual 383, 3)), (14, (.iconst 1, 1)), (15, (.if_icmp .eq 18, 3)), (18, (.iload_n 2, 1)), (19, (.iconst 1, 1)), (20, (.if_icmp .le 15, 3)), (23, (.aload_n 0, 1)), (24, (.getfield 355, 3)), (27, (.iload_n 2, 1)), (28, (.iconst 4, 1)), (29, (.irem, 1)), (30, (.if_icmp .eq 5, 3)), (33, (.iconst 0, 1)), (34, (.ireturn, 1)), (35, (.aload_n 0, 1)), (36, (.iconst 0, 1)), (37, (.iload_n 1, 1)), (38, (.iconst (-1), 1)), (39, (.iload_n 3, 1)), (40, (.bipush 23, 2)), (42, (.invokevirtual 383, 3)), (45, (.istore 6, 2)), (47, (.aload_n 0, 1)), (48, (.iconst 1, 1)), (49, (.iload_n 1, 1)), (50, (.iconst (-1), 1)), (51, (.iload 4, 2)), (53, (.bipush 10, 2)), (55, (.invokevirtual 383, 3)), (58, (.istore 7, 2)), (60, (.aload_n 0, 1)), (61, (.getfield 352, 3))] : List (Nat × (Instr × Nat))), decode cX12_turns r.1 = .ok r.2 := by decide +kernel
theorem dX12_turns_0 : decode cX12_turns 0 = .ok (.iload 5, 2) := dgX12_turns_0 (0, (.iload 5, 2)) (List.mem_of_getElem? (i := 0) rfl)
theorem dX12_turns_2 : decode cX12_turns 2 = .ok (.ifCond .ne 31, 3) := dgX12_turns_0 (2, (.ifCond .ne 31, 3)) (List.mem_of_getElem? (i := 1) rfl)
theorem dX12_turns_5 : decode cX12_turns 5 = .ok (.aload_n 0, 1) := dgX12_turns_0 (5, (.aload_n 0, 1)) (List.mem_of_getElem? (i := 2) rfl)
theorem dX12_turns_6 : decode cX12_turns 6 = .ok (.iconst 2, 1) := dgX12_turns_0 (6, (.iconst 2, 1)) (List.mem_of_getElem? (i := 3) rfl)
theorem dX12_turns_7 : decode cX12_turns 7 = .ok (.iload_n 1, 1) := dgX12_turns_0 (7, (.iload_n 1, 1)) (List.mem_of_getElem? (i := 4) rfl)
theorem dX12_turns_8 : decode cX12_turns 8 = .ok (.iconst (-1), 1) := dgX12_turns_0 (8, (.iconst (-1), 1)) (List.mem_of_getElem? (i := 5) rfl)
theorem dX12_turns_9 : decode cX12_turns 9 = .ok (.iconst 0, 1) := dgX12_turns_0 (9, (.iconst 0, 1)) (List.mem_of_getElem? (i := 6) rfl)
theorem dX12_turns_10 : decode cX12_turns 10 = .ok (.iconst 1, 1) := dgX12_turns_0 (10, (.iconst 1, 1)) (List.mem_of_getElem? (i := 7) rfl)
theorem dX12_turns_11 : decode cX12_turns 11 = .ok (.invokevirtual 383, 3) := dgX12_turns_0 (11, (.invokevirtual 383, 3)) (List.mem_of_getElem? (i := 8) rfl)
theorem dX12_turns_14 : decode cX12_turns 14 = .ok (.iconst 1, 1) := dgX12_turns_0 (14, (.iconst 1, 1)) (List.mem_of_getElem? (i := 9) rfl)
theorem dX12_turns_15 : decode cX12_turns 15 = .ok (.if_icmp .eq 18, 3) := dgX12_turns_0 (15, (.if_icmp .eq 18, 3)) (List.mem_of_getElem? (i := 10) rfl)
theorem dX12_turns_18 : decode cX12_turns 18 = .ok (.iload_n 2, 1) := dgX12_turns_0 (18, (.iload_n 2, 1)) (List.mem_of_getElem? (i := 11) rfl)
theorem dX12_turns_19 : decode cX12_turns 19 = .ok (.iconst 1, 1) := dgX12_turns_0 (19, (.iconst 1, 1)) (List.mem_of_getElem? (i := 12) rfl)
theorem dX12_turns_20 : decode cX12_turns 20 = .ok (.if_icmp .le 15, 3) := dgX12_turns_0 (20, (.if_icmp .le 15, 3)) (List.mem_of_getElem? (i := 13) rfl)
theorem dX12_turns_23 : decode cX12_turns 23 = .ok (.aload_n 0, 1) := dgX12_turns_0 (23, (.aload_n 0, 1)) (List.mem_of_getElem? (i := 14) rfl)
theorem dX12_turns_24 : decode cX12_turns 24 = .ok (.getfield 355, 3) := dgX12_turns_0 (24, (.getfield 355, 3)) (List.mem_of_getElem? (i := 15) rfl)
theorem dX12_turns_27 : decode cX12_turns 27 = .ok (.iload_n 2, 1) := dgX12_turns_0 (27, (.iload_n 2, 1)) (List.mem_of_getElem? (i := 16) rfl)
theorem dX12_turns_28 : decode cX12_turns 28 = .ok (.iconst 4, 1) := dgX12_turns_0 (28, (.iconst 4, 1)) (List.mem_of_getElem? (i := 17) rfl)
theorem dX12_turns_29 : decode cX12_turns 29 = .ok (.irem, 1) := dgX12_turns_0 (29, (.irem, 1)) (List.mem_of_getElem? (i := 18) rfl)
theorem dX12_turns_30 : decode cX12_turns 30 = .ok (.if_icmp .eq 5, 3) := dgX12_turns_0 (30, (.if_icmp .eq 5, 3)) (List.mem_of_getElem? (i := 19) rfl)
theorem dX12_turns_33 : decode cX12_turns 33 = .ok (.iconst 0, 1) := dgX12_turns_0 (33, (.iconst 0, 1)) (List.mem_of_getElem? (i := 20) rfl)
theorem dX12_turns_34 : decode cX12_turns 34 = .ok (.ireturn, 1) := dgX12_turns_0 (34, (.ireturn, 1)) (List.mem_of_getElem? (i := 21) rfl)
theorem dX12_turns_35 : decode cX12_turns 35 = .ok (.aload_n 0, 1) := dgX12_turns_0 (35, (.aload_n 0, 1)) (List.mem_of_getElem? (i := 22) rfl)
theorem dX12_turns_36 : decode cX12_turns 36 = .ok (.iconst 0, 1) := dgX12_turns_0 (36, (.iconst 0, 1)) (List.mem_of_getElem? (i := 23) rfl)
theorem dX12_turns_37 : decode cX12_turns 37 = .ok (.iload_n 1, 1) := dgX12_turns_0 (37, (.iload_n 1, 1)) (List.mem_of_getElem? (i := 24) rfl)
theorem dX12_turns_38 : decode cX12_turns 38 = .ok (.iconst (-1), 1) := dgX12_turns_0 (38, (.iconst (-1), 1)) (List.mem_of_getElem? (i := 25) rfl)
theorem dX12_turns_39 : decode cX12_turns 39 = .ok (.iload_n 3, 1) := dgX12_turns_0 (39, (.iload_n 3, 1)) (List.mem_of_getElem? (i := 26) rfl)
theorem dX12_turns_40 : decode cX12_turns 40 = .ok (.bipush 23, 2) := dgX12_turns_0 (40, (.bipush 23, 2)) (List.mem_of_getElem? (i := 27) rfl)
theorem dX12_turns_42 : decode cX12_turns 42 = .ok (.invokevirtual 383, 3) := dgX12_turns_0 (42, (.invokevirtual 383, 3)) (List.mem_of_getElem? (i := 28) rfl)
theorem dX12_turns_45 : decode cX12_turns 45 = .ok (.istore 6, 2) := dgX12_turns_0 (45, (.istore 6, 2)) (List.mem_of_getElem? (i := 29) rfl)
theorem dX12_turns_47 : decode cX12_turns 47 = .ok (.aload_n 0, 1) := dgX12_turns_0 (47, (.aload_n 0, 1)) (List.mem_of_getElem? (i := 30) rfl)
theorem dX12_turns_48 : decode cX12_turns 48 = .ok (.iconst 1, 1) := dgX12_turns_0 (48, (.iconst 1, 1)) (List.mem_of_getElem? (i := 31) rfl)
theorem dX12_turns_49 : decode cX12_turns 49 = .ok (.iload_n 1, 1) := dgX12_turns_0 (49, (.iload_n 1, 1)) (List.mem_of_getElem? (i := 32) rfl)
theorem dX12_turns_50 : decode cX12_turns 50 = .ok (.iconst (-1), 1) := dgX12_turns_0 (50, (.iconst (-1), 1)) (List.mem_of_getElem? (i := 33) rfl)
theorem dX12_turns_51 : decode cX12_turns 51 = .ok (.iload 4, 2) := dgX12_turns_0 (51, (.iload 4, 2)) (List.mem_of_getElem? (i := 34) rfl)
theorem dX12_turns_53 : decode cX12_turns 53 = .ok (.bipush 10, 2) := dgX12_turns_0 (53, (.bipush 10, 2)) (List.mem_of_getElem? (i := 35) rfl)
theorem dX12_turns_55 : decode cX12_turns 55 = .ok (.invokevirtual 383, 3) := dgX12_turns_0 (55, (.invokevirtual 383, 3)) (List.mem_of_getElem? (i := 36) rfl)
theorem dX12_turns_58 : decode cX12_turns 58 = .ok (.istore 7, 2) := dgX12_turns_0 (58, (.istore 7, 2)) (List.mem_of_getElem? (i := 37) rfl)
theorem dX12_turns_60 : decode cX12_turns 60 = .ok (.aload_n 0, 1) := dgX12_turns_0 (60, (.aload_n 0, 1)) (List.mem_of_getElem? (i := 38) rfl)
theorem dX12_turns_61 : decode cX12_turns 61 = .ok (.getfield 352, 3) := dgX12_turns_0 (61, (.getfield 352, 3)) (List.mem_of_getElem? (i := 39) rfl)
theorem dgX12_turns_1 : ∀ r ∈ ([(64, (.iload 6, 2)), (66, (.if_icmp .ge 5, 3)), (69, (.iconst 0, 1)), (70, (.ireturn, 1)), (71, (.aload_n 0, 1)), (72, (.dup, 1)), (73, (.getfield 352, 3)), (76, (.iload 6, 2)), (78, (.isub, 1)), (79, (.putfield 352, 3)), (82, (.aload_n 0, 1)), (83, (.aload_n 0, 1)), (84, (.getfield 361, 3)), (87, (.bipush 10, 2)), (89, (.iload 7, 2)), (91, (.isub, 1)), (92, (.imul, 1)), (93, (.bipush 10, 2)), (95, (.idiv, 1)), (96, (.putfield 361, 3)), (99, (.aload_n 0, 1)), (100, (.getfield 361, 3)), (103, (.aload_n 0, 1)), (104, (.getfield 13, 3)), (107, (.iconst 4, 1)), (108, (.iaload, 1)), (109, (.if_icmp .ge 5, 3)), (112, (.iconst 0, 1)), (113, (.ireturn, 1)), (114, (.aload_n 0, 1)), (115, (.iload_n 2, 1)), (116, (.ifCond .ne 12, 3)), (119, (.aload_n 0, 1)), (120, (.getfield 355, 3)), (123, (.iconst 1, 1)), (124, (.ixor, 1)), (125, (.goto 25, 3)), (128, (.iload_n 2, 1)), (129, (.iconst 1, 1)), (130, (.if_icmp .ne 12, 3))] : List (Nat × (Instr × Nat))), decode cX12_turns r.1 = .ok r.2 := by decide +kernel
theorem dX12_turns_64 : decode cX12_turns 64 = .ok (.iload 6, 2) := dgX12_turns_1 (64, (.iload 6, 2)) (List.mem_of_getElem? (i := 0) rfl)
theorem dX12_turns_66 : decode cX12_turns 66 = .ok (.if_icmp .ge 5, 3) := dgX12_turns_1 (66, (.if_icmp .ge 5, 3)) (List.mem_of_getElem? (i := 1) rfl)
theorem dX12_turns_69 : decode cX12_turns 69 = .ok (.iconst 0, 1) := dgX12_turns_1 (69, (.iconst 0, 1)) (List.mem_of_getElem? (i := 2) rfl)
theorem dX12_turns_70 : decode cX12_turns 70 = .ok (.ireturn, 1) := dgX12_turns_1 (70, (.ireturn, 1)) (List.mem_of_getElem? (i := 3) rfl)
theorem dX12_turns_71 : decode cX12_turns 71 = .ok (.aload_n 0, 1) := dgX12_turns_1 (71, (.aload_n 0, 1)) (List.mem_of_getElem? (i := 4) rfl)
theorem dX12_turns_72 : decode cX12_turns 72 = .ok (.dup, 1) := dgX12_turns_1 (72, (.dup, 1)) (List.mem_of_getElem? (i := 5) rfl)
theorem dX12_turns_73 : decode cX12_turns 73 = .ok (.getfield 352, 3) := dgX12_turns_1 (73, (.getfield 352, 3)) (List.mem_of_getElem? (i := 6) rfl)
theorem dX12_turns_76 : decode cX12_turns 76 = .ok (.iload 6, 2) := dgX12_turns_1 (76, (.iload 6, 2)) (List.mem_of_getElem? (i := 7) rfl)
theorem dX12_turns_78 : decode cX12_turns 78 = .ok (.isub, 1) := dgX12_turns_1 (78, (.isub, 1)) (List.mem_of_getElem? (i := 8) rfl)
theorem dX12_turns_79 : decode cX12_turns 79 = .ok (.putfield 352, 3) := dgX12_turns_1 (79, (.putfield 352, 3)) (List.mem_of_getElem? (i := 9) rfl)
theorem dX12_turns_82 : decode cX12_turns 82 = .ok (.aload_n 0, 1) := dgX12_turns_1 (82, (.aload_n 0, 1)) (List.mem_of_getElem? (i := 10) rfl)
theorem dX12_turns_83 : decode cX12_turns 83 = .ok (.aload_n 0, 1) := dgX12_turns_1 (83, (.aload_n 0, 1)) (List.mem_of_getElem? (i := 11) rfl)
theorem dX12_turns_84 : decode cX12_turns 84 = .ok (.getfield 361, 3) := dgX12_turns_1 (84, (.getfield 361, 3)) (List.mem_of_getElem? (i := 12) rfl)
theorem dX12_turns_87 : decode cX12_turns 87 = .ok (.bipush 10, 2) := dgX12_turns_1 (87, (.bipush 10, 2)) (List.mem_of_getElem? (i := 13) rfl)
theorem dX12_turns_89 : decode cX12_turns 89 = .ok (.iload 7, 2) := dgX12_turns_1 (89, (.iload 7, 2)) (List.mem_of_getElem? (i := 14) rfl)
theorem dX12_turns_91 : decode cX12_turns 91 = .ok (.isub, 1) := dgX12_turns_1 (91, (.isub, 1)) (List.mem_of_getElem? (i := 15) rfl)
theorem dX12_turns_92 : decode cX12_turns 92 = .ok (.imul, 1) := dgX12_turns_1 (92, (.imul, 1)) (List.mem_of_getElem? (i := 16) rfl)
theorem dX12_turns_93 : decode cX12_turns 93 = .ok (.bipush 10, 2) := dgX12_turns_1 (93, (.bipush 10, 2)) (List.mem_of_getElem? (i := 17) rfl)
theorem dX12_turns_95 : decode cX12_turns 95 = .ok (.idiv, 1) := dgX12_turns_1 (95, (.idiv, 1)) (List.mem_of_getElem? (i := 18) rfl)
theorem dX12_turns_96 : decode cX12_turns 96 = .ok (.putfield 361, 3) := dgX12_turns_1 (96, (.putfield 361, 3)) (List.mem_of_getElem? (i := 19) rfl)
theorem dX12_turns_99 : decode cX12_turns 99 = .ok (.aload_n 0, 1) := dgX12_turns_1 (99, (.aload_n 0, 1)) (List.mem_of_getElem? (i := 20) rfl)
theorem dX12_turns_100 : decode cX12_turns 100 = .ok (.getfield 361, 3) := dgX12_turns_1 (100, (.getfield 361, 3)) (List.mem_of_getElem? (i := 21) rfl)
theorem dX12_turns_103 : decode cX12_turns 103 = .ok (.aload_n 0, 1) := dgX12_turns_1 (103, (.aload_n 0, 1)) (List.mem_of_getElem? (i := 22) rfl)
theorem dX12_turns_104 : decode cX12_turns 104 = .ok (.getfield 13, 3) := dgX12_turns_1 (104, (.getfield 13, 3)) (List.mem_of_getElem? (i := 23) rfl)
theorem dX12_turns_107 : decode cX12_turns 107 = .ok (.iconst 4, 1) := dgX12_turns_1 (107, (.iconst 4, 1)) (List.mem_of_getElem? (i := 24) rfl)
theorem dX12_turns_108 : decode cX12_turns 108 = .ok (.iaload, 1) := dgX12_turns_1 (108, (.iaload, 1)) (List.mem_of_getElem? (i := 25) rfl)
theorem dX12_turns_109 : decode cX12_turns 109 = .ok (.if_icmp .ge 5, 3) := dgX12_turns_1 (109, (.if_icmp .ge 5, 3)) (List.mem_of_getElem? (i := 26) rfl)
theorem dX12_turns_112 : decode cX12_turns 112 = .ok (.iconst 0, 1) := dgX12_turns_1 (112, (.iconst 0, 1)) (List.mem_of_getElem? (i := 27) rfl)
theorem dX12_turns_113 : decode cX12_turns 113 = .ok (.ireturn, 1) := dgX12_turns_1 (113, (.ireturn, 1)) (List.mem_of_getElem? (i := 28) rfl)
theorem dX12_turns_114 : decode cX12_turns 114 = .ok (.aload_n 0, 1) := dgX12_turns_1 (114, (.aload_n 0, 1)) (List.mem_of_getElem? (i := 29) rfl)
theorem dX12_turns_115 : decode cX12_turns 115 = .ok (.iload_n 2, 1) := dgX12_turns_1 (115, (.iload_n 2, 1)) (List.mem_of_getElem? (i := 30) rfl)
theorem dX12_turns_116 : decode cX12_turns 116 = .ok (.ifCond .ne 12, 3) := dgX12_turns_1 (116, (.ifCond .ne 12, 3)) (List.mem_of_getElem? (i := 31) rfl)
theorem dX12_turns_119 : decode cX12_turns 119 = .ok (.aload_n 0, 1) := dgX12_turns_1 (119, (.aload_n 0, 1)) (List.mem_of_getElem? (i := 32) rfl)
theorem dX12_turns_120 : decode cX12_turns 120 = .ok (.getfield 355, 3) := dgX12_turns_1 (120, (.getfield 355, 3)) (List.mem_of_getElem? (i := 33) rfl)
theorem dX12_turns_123 : decode cX12_turns 123 = .ok (.iconst 1, 1) := dgX12_turns_1 (123, (.iconst 1, 1)) (List.mem_of_getElem? (i := 34) rfl)
theorem dX12_turns_124 : decode cX12_turns 124 = .ok (.ixor, 1) := dgX12_turns_1 (124, (.ixor, 1)) (List.mem_of_getElem? (i := 35) rfl)
theorem dX12_turns_125 : decode cX12_turns 125 = .ok (.goto 25, 3) := dgX12_turns_1 (125, (.goto 25, 3)) (List.mem_of_getElem? (i := 36) rfl)
theorem dX12_turns_128 : decode cX12_turns 128 = .ok (.iload_n 2, 1) := dgX12_turns_1 (128, (.iload_n 2, 1)) (List.mem_of_getElem? (i := 37) rfl)
theorem dX12_turns_129 : decode cX12_turns 129 = .ok (.iconst 1, 1) := dgX12_turns_1 (129, (.iconst 1, 1)) (List.mem_of_getElem? (i := 38) rfl)
theorem dX12_turns_130 : decode cX12_turns 130 = .ok (.if_icmp .ne 12, 3) := dgX12_turns_1 (130, (.if_icmp .ne 12, 3)) (List.mem_of_getElem? (i := 39) rfl)
theorem dgX12_turns_2 : ∀ r ∈ ([(133, (.iconst 3, 1)), (134, (.aload_n 0, 1)), (135, (.getfield 355, 3)), (138, (.isub, 1)), (139, (.goto 11, 3)), (142, (.aload_n 0, 1)), (143, (.getfield 355, 3)), (146, (.iconst 2, 1)), (147, (.iadd, 1)), (148, (.iconst 4, 1)), (149, (.irem, 1)), (150, (.putfield 355, 3)), (153, (.aload_n 0, 1)), (154, (.dup, 1)), (155, (.getfield 368, 3)), (158, (.iconst 1, 1)), (159, (.iload_n 1, 1)), (160, (.ishl, 1)), (161, (.ior, 1)), (162, (.putfield 368, 3)), (165, (.iconst 1, 1)), (166, (.ireturn, 1))] : List (Nat × (Instr × Nat))), decode cX12_turns r.1 = .ok r.2 := by decide +kernel
theorem dX12_turns_133 : decode cX12_turns 133 = .ok (.iconst 3, 1) := dgX12_turns_2 (133, (.iconst 3, 1)) (List.mem_of_getElem? (i := 0) rfl)
theorem dX12_turns_134 : decode cX12_turns 134 = .ok (.aload_n 0, 1) := dgX12_turns_2 (134, (.aload_n 0, 1)) (List.mem_of_getElem? (i := 1) rfl)
theorem dX12_turns_135 : decode cX12_turns 135 = .ok (.getfield 355, 3) := dgX12_turns_2 (135, (.getfield 355, 3)) (List.mem_of_getElem? (i := 2) rfl)
theorem dX12_turns_138 : decode cX12_turns 138 = .ok (.isub, 1) := dgX12_turns_2 (138, (.isub, 1)) (List.mem_of_getElem? (i := 3) rfl)
theorem dX12_turns_139 : decode cX12_turns 139 = .ok (.goto 11, 3) := dgX12_turns_2 (139, (.goto 11, 3)) (List.mem_of_getElem? (i := 4) rfl)
theorem dX12_turns_142 : decode cX12_turns 142 = .ok (.aload_n 0, 1) := dgX12_turns_2 (142, (.aload_n 0, 1)) (List.mem_of_getElem? (i := 5) rfl)
theorem dX12_turns_143 : decode cX12_turns 143 = .ok (.getfield 355, 3) := dgX12_turns_2 (143, (.getfield 355, 3)) (List.mem_of_getElem? (i := 6) rfl)
theorem dX12_turns_146 : decode cX12_turns 146 = .ok (.iconst 2, 1) := dgX12_turns_2 (146, (.iconst 2, 1)) (List.mem_of_getElem? (i := 7) rfl)
theorem dX12_turns_147 : decode cX12_turns 147 = .ok (.iadd, 1) := dgX12_turns_2 (147, (.iadd, 1)) (List.mem_of_getElem? (i := 8) rfl)
theorem dX12_turns_148 : decode cX12_turns 148 = .ok (.iconst 4, 1) := dgX12_turns_2 (148, (.iconst 4, 1)) (List.mem_of_getElem? (i := 9) rfl)
theorem dX12_turns_149 : decode cX12_turns 149 = .ok (.irem, 1) := dgX12_turns_2 (149, (.irem, 1)) (List.mem_of_getElem? (i := 10) rfl)
theorem dX12_turns_150 : decode cX12_turns 150 = .ok (.putfield 355, 3) := dgX12_turns_2 (150, (.putfield 355, 3)) (List.mem_of_getElem? (i := 11) rfl)
theorem dX12_turns_153 : decode cX12_turns 153 = .ok (.aload_n 0, 1) := dgX12_turns_2 (153, (.aload_n 0, 1)) (List.mem_of_getElem? (i := 12) rfl)
theorem dX12_turns_154 : decode cX12_turns 154 = .ok (.dup, 1) := dgX12_turns_2 (154, (.dup, 1)) (List.mem_of_getElem? (i := 13) rfl)
theorem dX12_turns_155 : decode cX12_turns 155 = .ok (.getfield 368, 3) := dgX12_turns_2 (155, (.getfield 368, 3)) (List.mem_of_getElem? (i := 14) rfl)
theorem dX12_turns_158 : decode cX12_turns 158 = .ok (.iconst 1, 1) := dgX12_turns_2 (158, (.iconst 1, 1)) (List.mem_of_getElem? (i := 15) rfl)
theorem dX12_turns_159 : decode cX12_turns 159 = .ok (.iload_n 1, 1) := dgX12_turns_2 (159, (.iload_n 1, 1)) (List.mem_of_getElem? (i := 16) rfl)
theorem dX12_turns_160 : decode cX12_turns 160 = .ok (.ishl, 1) := dgX12_turns_2 (160, (.ishl, 1)) (List.mem_of_getElem? (i := 17) rfl)
theorem dX12_turns_161 : decode cX12_turns 161 = .ok (.ior, 1) := dgX12_turns_2 (161, (.ior, 1)) (List.mem_of_getElem? (i := 18) rfl)
theorem dX12_turns_162 : decode cX12_turns 162 = .ok (.putfield 368, 3) := dgX12_turns_2 (162, (.putfield 368, 3)) (List.mem_of_getElem? (i := 19) rfl)
theorem dX12_turns_165 : decode cX12_turns 165 = .ok (.iconst 1, 1) := dgX12_turns_2 (165, (.iconst 1, 1)) (List.mem_of_getElem? (i := 20) rfl)
theorem dX12_turns_166 : decode cX12_turns 166 = .ok (.ireturn, 1) := dgX12_turns_2 (166, (.ireturn, 1)) (List.mem_of_getElem? (i := 21) rfl)
theorem fl_X12_368 : Cond.fieldLink RX12 368 "LateGlassModel" "through" "I" ∈ tblG := tg 1242 (by decide +kernel) (by decide +kernel)
set_option maxHeartbeats 4000000 in
set_option maxRecDepth 100000 in
theorem n_turns (l : Launch) (G : g5_G) (b_o b_ro b_se b_re b_rf b_im b_ke b_tp b_nl b_op b_ar b_pi b_pa b_ws b_hw b_pt b_ip b_ah b_be b_me b_tr b_ld b_wn : Nat) (sz : Nat) (u_th : Int32) (u_sa : Int32) (u_fd : Int32) (u_td : Int32) (u_fr : Int32) (u_to : Int32) (u_so : Int32) (u_fa : Int32) (u_bd : Int32) (u_nc : Int32) (u_co : Int32) (u_le : Int32) (u_pd : Int32) (u_od : Int32) (u_la : Int32) (u_bk : Int32) (u_ce : Int32) (u_ho : Int32) (u_wy : Int32) (u_bt : Int32) (u_ps : Int32) (u_tg : Int32) (u_sn : Int32) (u_ic : Int32) (u_wd : Int32) (u_id : Int32) (p_1 : Int32) (p_2 : Int32) (p_3 : Int32) (p_4 : Int32) (p_5 : Int32) (u_wo : Int64) (u_va : Int64) (u_su : Int64) (u_st : Int64) (v_ro : Nat → Int32) (v_se : Nat → Int64) (v_re : Nat → Int64) (h_u_td : 0 ≤ u_td.toInt ∧ u_td.toInt ≤ 400) (h_u_fr : 0 ≤ u_fr.toInt ∧ u_fr.toInt ≤ 400) (h_u_to : 0 ≤ u_to.toInt ∧ u_to.toInt ≤ 400) (h_u_bd : 0 ≤ u_bd.toInt ∧ u_bd.toInt ≤ 1) (h_u_nc : 0 ≤ u_nc.toInt ∧ u_nc.toInt ≤ 12) (h_u_co : 0 ≤ u_co.toInt ∧ u_co.toInt ≤ 400) (h_u_pd : 0 ≤ u_pd.toInt ∧ u_pd.toInt ≤ 400) (h_u_la : 0 ≤ u_la.toInt ∧ u_la.toInt ≤ 4840) (h_u_bk : 0 ≤ u_bk.toInt ∧ u_bk.toInt ≤ 1) (h_u_ce : 0 ≤ u_ce.toInt ∧ u_ce.toInt ≤ 63) (h_u_ho : 0 ≤ u_ho.toInt ∧ u_ho.toInt ≤ 23) (h_u_wy : 0 ≤ u_wy.toInt ∧ u_wy.toInt ≤ 3) (h_u_bt : 0 ≤ u_bt.toInt ∧ u_bt.toInt ≤ 1000000) (h_u_ps : 0 ≤ u_ps.toInt ∧ u_ps.toInt ≤ 200) (h_u_ic : 0 ≤ u_ic.toInt ∧ u_ic.toInt ≤ 1) (h_u_id : 0 ≤ u_id.toInt ∧ u_id.toInt ≤ 1) (h_p_2 : 0 ≤ p_2.toInt ∧ p_2.toInt ≤ 5) (h_p_3 : 0 ≤ p_3.toInt ∧ p_3.toInt ≤ 23) (h_p_4 : 0 ≤ p_4.toInt ∧ p_4.toInt ≤ 10) (h_p_5 : 0 ≤ p_5.toInt ∧ p_5.toInt ≤ 1) (r_ro : MI v_ro) : Met l yX12_turns (wsG yX12_turns cX12_turns 8 (some .boolean)) ({ frames := 4, cells := 0, slots := 0, locals := 101 }) (va_Pc [.ref b_o, .int p_1, .int p_2, .int p_3, .int p_4, .int p_5] (g5_P G [(b_o, (oc12 u_th u_sa b_rf b_ro b_im b_ke u_fd b_tp u_td u_fr u_to u_so u_wo u_fa u_bd u_nc b_nl u_co b_op b_ar u_le b_pi b_pa u_pd u_od b_ws b_hw u_la b_se b_re u_bk u_va u_su u_ce u_ho u_wy u_bt u_ps b_pt u_tg u_sn b_ip u_ic b_ah b_be b_me u_wd b_tr b_ld u_st b_wn u_id)), (b_ro, (arI G 5740 v_ro)), (b_se, (arJ G 13 v_se)), (b_re, (arJ G 400 v_re))] sz)) (va_Qi (fun (r : Int32) (u : va_W) => (∃ (o_r : Int32) (o_la : Int32) (o_bk : Int32) (o_va : Int64) (o_su : Int64) (o_ho : Int32) (o_wy : Int32) (o_bt : Int32) (o_tg : Int32) (o_se : Nat → Int64) (o_re : Nat → Int64), (0 ≤ o_r.toInt ∧ o_r.toInt ≤ 1) ∧ (0 ≤ o_la.toInt ∧ o_la.toInt ≤ 4840) ∧ (0 ≤ o_bk.toInt ∧ o_bk.toInt ≤ 1) ∧ (0 ≤ o_ho.toInt ∧ o_ho.toInt ≤ 23) ∧ (0 ≤ o_wy.toInt ∧ o_wy.toInt ≤ 3) ∧ (0 ≤ o_bt.toInt ∧ o_bt.toInt ≤ 1000000) ∧ (r = o_r) ∧ (u = [(b_o, (oc12 u_th u_sa b_rf b_ro b_im b_ke u_fd b_tp u_td u_fr u_to u_so u_wo u_fa u_bd u_nc b_nl u_co b_op b_ar u_le b_pi b_pa u_pd u_od b_ws b_hw o_la b_se b_re o_bk o_va o_su u_ce o_ho o_wy o_bt u_ps b_pt o_tg u_sn b_ip u_ic b_ah b_be b_me u_wd b_tr b_ld u_st b_wn u_id)), (b_ro, (arI G 5740 v_ro)), (b_se, (arJ G 13 o_se)), (b_re, (arJ G 400 o_re))]))) (g5_B G (va_A [(b_o, (oc12 u_th u_sa b_rf b_ro b_im b_ke u_fd b_tp u_td u_fr u_to u_so u_wo u_fa u_bd u_nc b_nl u_co b_op b_ar u_le b_pi b_pa u_pd u_od b_ws b_hw u_la b_se b_re u_bk u_va u_su u_ce u_ho u_wy u_bt u_ps b_pt u_tg u_sn b_ip u_ic b_ah b_be b_me u_wd b_tr b_ld u_st b_wn u_id)), (b_ro, (arI G 5740 v_ro)), (b_se, (arJ G 13 v_se)), (b_re, (arJ G 400 v_re))] sz)) (va_A [(b_o, (oc12 u_th u_sa b_rf b_ro b_im b_ke u_fd b_tp u_td u_fr u_to u_so u_wo u_fa u_bd u_nc b_nl u_co b_op b_ar u_le b_pi b_pa u_pd u_od b_ws b_hw u_la b_se b_re u_bk u_va u_su u_ce u_ho u_wy u_bt u_ps b_pt u_tg u_sn b_ip u_ic b_ah b_be b_me u_wd b_tr b_ld u_st b_wn u_id)), (b_ro, (arI G 5740 v_ro)), (b_se, (arJ G 13 v_se)), (b_re, (arJ G 400 v_re))] sz)) 0 0 (va_A [(b_o, (oc12 u_th u_sa b_rf b_ro b_im b_ke u_fd b_tp u_td u_fr u_to u_so u_wo u_fa u_bd u_nc b_nl u_co b_op b_ar u_le b_pi b_pa u_pd u_od b_ws b_hw u_la b_se b_re u_bk u_va u_su u_ce u_ho u_wy u_bt u_ps b_pt u_tg u_sn b_ip u_ic b_ah b_be b_me u_wd b_tr b_ld u_st b_wn u_id)), (b_ro, (arI G 5740 v_ro)), (b_se, (arJ G 13 v_se)), (b_re, (arJ G 400 v_re))] sz) := by
  refine Met.ofW (cc := cX12_turns) (maxL := 8) (ret := (some .boolean)) (by decide) rfl ?_
  intro p e s m args below meth c s₁ B hml hv
  obtain ⟨rfl, hsz, hP, hK, hD0, hN, hT⟩ := hv
  have hx := B.exec
  have hb := B.bytes
  have hr := B.returns
  have hts : ∀ w ∈ tblG, w.before _ s = true := fun w h => atoms_spec (ws := (wsG yX12_turns cX12_turns 8 (some .boolean))) B.pre w (List.mem_cons_of_mem _ h)
  have hown : s.vm.findClass RX12 = some m.cls := findClass_of_methodNamed B.named
  have hlocks := B.notSynchronized
  subst hsz
  have hD := hD0.self (sz := s.heap.size)
  generalize hAe : va_A [(b_o, (oc12 u_th u_sa b_rf b_ro b_im b_ke u_fd b_tp u_td u_fr u_to u_so u_wo u_fa u_bd u_nc b_nl u_co b_op b_ar u_le b_pi b_pa u_pd u_od b_ws b_hw u_la b_se b_re u_bk u_va u_su u_ce u_ho u_wy u_bt u_ps b_pt u_tg u_sn b_ip u_ic b_ah b_be b_me u_wd b_tr b_ld u_st b_wn u_id)), (b_ro, (arI G 5740 v_ro)), (b_se, (arJ G 13 v_se)), (b_re, (arJ G 400 v_re))] s.heap.size = A at hD hT ⊢
  have hA : ∀ q : Nat, s.heap.size ≤ q → A q := fun q h => by rw [← hAe]; exact Or.inr h
  have hS : va_S A s.heap s.heap [] := va_S.rf
  have hP : va_P G.1 vwCl [(b_o, (oc12 u_th u_sa b_rf b_ro b_im b_ke u_fd b_tp u_td u_fr u_to u_so u_wo u_fa u_bd u_nc b_nl u_co b_op b_ar u_le b_pi b_pa u_pd u_od b_ws b_hw u_la b_se b_re u_bk u_va u_su u_ce u_ho u_wy u_bt u_ps b_pt u_tg u_sn b_ip u_ic b_ah b_be b_me u_wd b_tr b_ld u_st b_wn u_id)), (b_ro, (arI G 5740 v_ro)), (b_se, (arJ G 13 v_se)), (b_re, (arJ G 400 v_re))] s.heap := hP
  have hl := lv_entry ([.ref b_o, .int p_1, .int p_2, .int p_3, .int p_4, .int p_5]) (n := 8) (Nat.le_of_ble_eq_true rfl)
  rw [lg_entry_eq]
  generalize (lg_sl ([.ref b_o, .int p_1, .int p_2, .int p_3, .int p_4, .int p_5]) ++ List.replicate (8 - (lg_sl ([.ref b_o, .int p_1, .int p_2, .int p_3, .int p_4, .int p_5])).length) Slot.unset).toArray = ls at hl ⊢
  have hl : lv_has ls 8 [(0, .ref b_o), (1, .int p_1), (2, .int p_2), (3, .int p_3), (4, .int p_4), (5, .int p_5)] := hl
  have zk23 : (23 : Int32).toInt = 23 := (by decide)
  have zk10 : (10 : Int32).toInt = 10 := (by decide)
  refine lv_iload hx hb dX12_turns_0 (lv_at hl 5 rfl) ?_
  refine lv_if_ne (tgt := 33) hx hb dX12_turns_2 (by decide) (fun c_1 => ?_) (fun c_1 => ?_)
  ·
    have n_1 : gNe (p_5.toInt) (0) := by have z := g5_ne (a := p_5.toInt) (b := 0) (by rfl) (by decide) c_1; unfold gNe; omega
    have i_1 : p_5.toInt ≥ 1 := by have z := g5_ne (a := p_5.toInt) (b := 0) (by rfl) (by decide) c_1; omega
    refine lv_iconst (v := 0) hx hb dX12_turns_33 (by decide) ?_
    exact W.zret (v := 0) hx hb hr rfl (fun t ht hW => ⟨⟨0, [(b_o, (oc12 u_th u_sa b_rf b_ro b_im b_ke u_fd b_tp u_td u_fr u_to u_so u_wo u_fa u_bd u_nc b_nl u_co b_op b_ar u_le b_pi b_pa u_pd u_od b_ws b_hw u_la b_se b_re u_bk u_va u_su u_ce u_ho u_wy u_bt u_ps b_pt u_tg u_sn b_ip u_ic b_ah b_be b_me u_wd b_tr b_ld u_st b_wn u_id)), (b_ro, (arI G 5740 v_ro)), (b_se, (arJ G 13 v_se)), (b_re, (arJ G 400 v_re))], rfl, ⟨0, u_la, u_bk, u_va, u_su, u_ho, u_wy, u_bt, u_tg, v_se, v_re, ⟨by have zc_o_r : (0 : Int32).toInt = 0 := (by decide); omega, by have zc_o_r : (0 : Int32).toInt = 0 := (by decide); omega⟩, h_u_la, h_u_bk, h_u_ho, h_u_wy, h_u_bt, rfl, rfl⟩, by rw [ht]; exact hP.sub [0, 1, 2, 3] rfl, hD.sub [0, 1, 2, 3] (by decide) rfl⟩, hS.F ht⟩) hS.2.2 dX12_turns_34
  ·
    have i_1 : p_5.toInt = 0 := by have z := g5_neN (a := p_5.toInt) (b := 0) (by rfl) (by decide) c_1; omega
    refine lv_aload_n hx hb dX12_turns_5 rfl (lv_at hl 0 rfl) ?_
    refine lv_iconst (v := 2) hx hb dX12_turns_6 (by decide) ?_
    refine lv_iload_n hx hb dX12_turns_7 rfl (lv_at hl 1 rfl) ?_
    refine lv_iconst (v := (-1)) hx hb dX12_turns_8 (by decide) ?_
    refine lv_iconst (v := 0) hx hb dX12_turns_9 (by decide) ?_
    refine lv_iconst (v := 1) hx hb dX12_turns_10 (by decide) ?_
    obtain ⟨hPc, hDc, hFc⟩ := g5_sub3 (wc := [(b_o, (oc12 u_th u_sa b_rf b_ro b_im b_ke u_fd b_tp u_td u_fr u_to u_so u_wo u_fa u_bd u_nc b_nl u_co b_op b_ar u_le b_pi b_pa u_pd u_od b_ws b_hw u_la b_se b_re u_bk u_va u_su u_ce u_ho u_wy u_bt u_ps b_pt u_tg u_sn b_ip u_ic b_ah b_be b_me u_wd b_tr b_ld u_st b_wn u_id)), (b_ro, (arI G 5740 v_ro)), (b_se, (arJ G 13 v_se)), (b_re, (arJ G 400 v_re))]) hP hD hS hA [0, 1, 2, 3] (by decide) rfl
    refine va_calli (va_runV (As := [.int 2, .int p_1, .int (-1), .int 0, .int 1]) (rest := []) ⟨hx, hb, hml, hown, hts⟩ (n_asks l G b_o b_ro b_se b_re b_rf b_im b_ke b_tp b_nl b_op b_ar b_pi b_pa b_ws b_hw b_pt b_ip b_ah b_be b_me b_tr b_ld b_wn s.heap.size u_th u_sa u_fd u_td u_fr u_to u_so u_fa u_bd u_nc u_co u_le u_pd u_od u_la u_bk u_ce u_ho u_wy u_bt u_ps u_tg u_sn u_ic u_wd u_id 2 p_1 (-1) 0 1 u_wo u_va u_su u_st v_ro v_se v_re h_u_td h_u_fr h_u_to h_u_bd h_u_nc h_u_co h_u_pd h_u_la h_u_bk h_u_ce h_u_ho h_u_wy h_u_bt h_u_ps h_u_ic h_u_id ⟨by decide, by decide⟩ ⟨by decide, by decide⟩ (r_ro) (by decide)) (cwV 5 hts gV_X12_383 rfl rfl rfl hv_X12_asks ⟨Nat.le_of_ble_eq_true rfl, Nat.le_of_ble_eq_true rfl⟩) (g5_preV hPc hK hDc hN hT hS hFc (ci := 12) (q0 := 0) rfl rfl) rfl rfl hl.1 rfl (lv_room (Nat.le_of_ble_eq_true rfl)) dX12_turns_11 ⟨Nat.le_of_ble_eq_true rfl, Nat.le_of_ble_eq_true rfl⟩) hS (fun q _ h => hFc q h) hFc (fun r u t H1 locs ht hvm hw hB hz1 hk1 hS => ?_)
    obtain ⟨hP1, hD1⟩ := hB
    rw [ht] at hP1
    obtain ⟨z6, z7, z8, z9, z10, z11, z12, i_2, i_3, i_4, i_5, y13, rfl⟩ := hw
    have i_2 : 0 ≤ z6.toInt ∧ z6.toInt ≤ 23 := i_2
    have i_3 : 0 ≤ z6.toInt ∧ z6.toInt ≤ (1 : Int32).toInt := i_3
    have i_4 : 0 ≤ z7.toInt ∧ z7.toInt ≤ 4840 := i_4
    have i_5 : 0 ≤ z8.toInt ∧ z8.toInt ≤ 1 := i_5
    obtain ⟨hP, hD⟩ := va_join (wr := []) hP hD [0, 1, 2, 3] [] rfl rfl (by decide) (by decide) hk1 hFc hP1 hD1
    generalize H1 = H at hP hS ⊢
    refine g5_rs [(b_o, (oc12 u_th u_sa b_rf b_ro b_im b_ke u_fd b_tp u_td u_fr u_to u_so u_wo u_fa u_bd u_nc b_nl u_co b_op b_ar u_le b_pi b_pa u_pd u_od b_ws b_hw z7 b_se b_re z8 z9 z10 u_ce u_ho u_wy u_bt u_ps b_pt u_tg u_sn b_ip u_ic b_ah b_be b_me u_wd b_tr b_ld u_st b_wn u_id)), (b_ro, (arI G 5740 v_ro)), (b_se, (arJ G 13 z11)), (b_re, (arJ G 400 z12))] hP hD (fun hP hD => ?_)
    refine g5_ti (v := z6) y13 ?_
    refine lv_iconst (v := 1) hx hb dX12_turns_14 (by decide) ?_
    refine lv_icmp_eq (tgt := 33) hx hb dX12_turns_15 (by decide) (fun c_14 => ?_) (fun c_14 => ?_)
    ·
      have i_14 : z6.toInt = 1 := by have z := g5_eq (a := z6.toInt) (b := 1) (by rfl) (by decide) c_14; omega
      refine lv_iconst (v := 0) hx hb dX12_turns_33 (by decide) ?_
      exact W.zret (v := 0) hx hb hr rfl (fun t ht hW => ⟨⟨0, [(b_o, (oc12 u_th u_sa b_rf b_ro b_im b_ke u_fd b_tp u_td u_fr u_to u_so u_wo u_fa u_bd u_nc b_nl u_co b_op b_ar u_le b_pi b_pa u_pd u_od b_ws b_hw z7 b_se b_re z8 z9 z10 u_ce u_ho u_wy u_bt u_ps b_pt u_tg u_sn b_ip u_ic b_ah b_be b_me u_wd b_tr b_ld u_st b_wn u_id)), (b_ro, (arI G 5740 v_ro)), (b_se, (arJ G 13 z11)), (b_re, (arJ G 400 z12))], rfl, ⟨0, z7, z8, z9, z10, u_ho, u_wy, u_bt, u_tg, z11, z12, ⟨by have zc_o_r : (0 : Int32).toInt = 0 := (by decide); omega, by have zc_o_r : (0 : Int32).toInt = 0 := (by decide); omega⟩, i_4, i_5, h_u_ho, h_u_wy, h_u_bt, rfl, rfl⟩, by rw [ht]; exact hP.sub [0, 1, 2, 3] rfl, hD.sub [0, 1, 2, 3] (by decide) rfl⟩, hS.F ht⟩) hS.2.2 dX12_turns_34
    ·
      have n_14 : gNe (z6.toInt) (1) := by have z := g5_eqN (a := z6.toInt) (b := 1) (by rfl) (by decide) c_14; unfold gNe; omega
      refine lv_iload_n hx hb dX12_turns_18 rfl (lv_at hl 2 rfl) ?_
      refine lv_iconst (v := 1) hx hb dX12_turns_19 (by decide) ?_
      refine lv_icmp_le (tgt := 35) hx hb dX12_turns_20 (by decide) (fun c_15 => ?_) (fun c_15 => ?_)
      ·
        have i_15 : p_2.toInt ≤ 1 := by have z := g5_le (a := p_2.toInt) (b := 1) (by rfl) (by decide) c_15; omega
        refine lv_aload_n hx hb dX12_turns_35 rfl (lv_at hl 0 rfl) ?_
        refine lv_iconst (v := 0) hx hb dX12_turns_36 (by decide) ?_
        refine lv_iload_n hx hb dX12_turns_37 rfl (lv_at hl 1 rfl) ?_
        refine lv_iconst (v := (-1)) hx hb dX12_turns_38 (by decide) ?_
        refine lv_iload_n hx hb dX12_turns_39 rfl (lv_at hl 3 rfl) ?_
        refine lv_bipush (v := 23) hx hb dX12_turns_40 (by decide) ?_
        obtain ⟨hPc, hDc, hFc⟩ := g5_sub3 (wc := [(b_o, (oc12 u_th u_sa b_rf b_ro b_im b_ke u_fd b_tp u_td u_fr u_to u_so u_wo u_fa u_bd u_nc b_nl u_co b_op b_ar u_le b_pi b_pa u_pd u_od b_ws b_hw z7 b_se b_re z8 z9 z10 u_ce u_ho u_wy u_bt u_ps b_pt u_tg u_sn b_ip u_ic b_ah b_be b_me u_wd b_tr b_ld u_st b_wn u_id)), (b_ro, (arI G 5740 v_ro)), (b_se, (arJ G 13 z11)), (b_re, (arJ G 400 z12))]) hP hD hS hA [0, 1, 2, 3] (by decide) rfl
        refine va_calli (va_runV (As := [.int 0, .int p_1, .int (-1), .int p_3, .int 23]) (rest := []) ⟨hx, hb, hml, hown, hts⟩ (n_asks l G b_o b_ro b_se b_re b_rf b_im b_ke b_tp b_nl b_op b_ar b_pi b_pa b_ws b_hw b_pt b_ip b_ah b_be b_me b_tr b_ld b_wn H.size u_th u_sa u_fd u_td u_fr u_to u_so u_fa u_bd u_nc u_co u_le u_pd u_od z7 z8 u_ce u_ho u_wy u_bt u_ps u_tg u_sn u_ic u_wd u_id 0 p_1 (-1) p_3 23 u_wo z9 z10 u_st v_ro z11 z12 h_u_td h_u_fr h_u_to h_u_bd h_u_nc h_u_co h_u_pd i_4 i_5 h_u_ce h_u_ho h_u_wy h_u_bt h_u_ps h_u_ic h_u_id h_p_3 ⟨by decide, by decide⟩ (r_ro) (by have zk : (23 : Int32).toInt = 23 := (by decide); omega)) (cwV 5 hts gV_X12_383 rfl rfl rfl hv_X12_asks ⟨Nat.le_of_ble_eq_true rfl, Nat.le_of_ble_eq_true rfl⟩) (g5_preV hPc hK hDc hN hT hS hFc (ci := 12) (q0 := 0) rfl rfl) rfl rfl hl.1 rfl (lv_room (Nat.le_of_ble_eq_true rfl)) dX12_turns_42 ⟨Nat.le_of_ble_eq_true rfl, Nat.le_of_ble_eq_true rfl⟩) hS (fun q _ h => hFc q h) hFc (fun r u t H1 locs ht hvm hw hB hz1 hk1 hS => ?_)
        obtain ⟨hP1, hD1⟩ := hB
        rw [ht] at hP1
        obtain ⟨z20, z21, z22, z23, z24, z25, z26, i_16, i_17, i_18, i_19, y27, rfl⟩ := hw
        have i_16 : 0 ≤ z20.toInt ∧ z20.toInt ≤ 23 := i_16
        have i_17 : 0 ≤ z20.toInt ∧ z20.toInt ≤ (23 : Int32).toInt := i_17
        have i_18 : 0 ≤ z21.toInt ∧ z21.toInt ≤ 4840 := i_18
        have i_19 : 0 ≤ z22.toInt ∧ z22.toInt ≤ 1 := i_19
        obtain ⟨hP, hD⟩ := va_join (wr := []) hP hD [0, 1, 2, 3] [] rfl rfl (by decide) (by decide) hk1 hFc hP1 hD1
        generalize H1 = H at hP hS ⊢
        refine g5_rs [(b_o, (oc12 u_th u_sa b_rf b_ro b_im b_ke u_fd b_tp u_td u_fr u_to u_so u_wo u_fa u_bd u_nc b_nl u_co b_op b_ar u_le b_pi b_pa u_pd u_od b_ws b_hw z21 b_se b_re z22 z23 z24 u_ce u_ho u_wy u_bt u_ps b_pt u_tg u_sn b_ip u_ic b_ah b_be b_me u_wd b_tr b_ld u_st b_wn u_id)), (b_ro, (arI G 5740 v_ro)), (b_se, (arJ G 13 z25)), (b_re, (arJ G 400 z26))] hP hD (fun hP hD => ?_)
        refine g5_ti (v := z20) y27 ?_
        refine lv_istore (lv' := [(6, .int z20), (0, .ref b_o), (1, .int p_1), (2, .int p_2), (3, .int p_3), (4, .int p_4), (5, .int p_5)]) hx hb dX12_turns_45 hl (by decide) rfl (fun ls hl => ?_)
        refine lv_aload_n hx hb dX12_turns_47 rfl (lv_at hl 1 rfl) ?_
        refine lv_iconst (v := 1) hx hb dX12_turns_48 (by decide) ?_
        refine lv_iload_n hx hb dX12_turns_49 rfl (lv_at hl 2 rfl) ?_
        refine lv_iconst (v := (-1)) hx hb dX12_turns_50 (by decide) ?_
        refine lv_iload hx hb dX12_turns_51 (lv_at hl 5 rfl) ?_
        refine lv_bipush (v := 10) hx hb dX12_turns_53 (by decide) ?_
        obtain ⟨hPc, hDc, hFc⟩ := g5_sub3 (wc := [(b_o, (oc12 u_th u_sa b_rf b_ro b_im b_ke u_fd b_tp u_td u_fr u_to u_so u_wo u_fa u_bd u_nc b_nl u_co b_op b_ar u_le b_pi b_pa u_pd u_od b_ws b_hw z21 b_se b_re z22 z23 z24 u_ce u_ho u_wy u_bt u_ps b_pt u_tg u_sn b_ip u_ic b_ah b_be b_me u_wd b_tr b_ld u_st b_wn u_id)), (b_ro, (arI G 5740 v_ro)), (b_se, (arJ G 13 z25)), (b_re, (arJ G 400 z26))]) hP hD hS hA [0, 1, 2, 3] (by decide) rfl
        refine va_calli (va_runV (As := [.int 1, .int p_1, .int (-1), .int p_4, .int 10]) (rest := []) ⟨hx, hb, hml, hown, hts⟩ (n_asks l G b_o b_ro b_se b_re b_rf b_im b_ke b_tp b_nl b_op b_ar b_pi b_pa b_ws b_hw b_pt b_ip b_ah b_be b_me b_tr b_ld b_wn H.size u_th u_sa u_fd u_td u_fr u_to u_so u_fa u_bd u_nc u_co u_le u_pd u_od z21 z22 u_ce u_ho u_wy u_bt u_ps u_tg u_sn u_ic u_wd u_id 1 p_1 (-1) p_4 10 u_wo z23 z24 u_st v_ro z25 z26 h_u_td h_u_fr h_u_to h_u_bd h_u_nc h_u_co h_u_pd i_18 i_19 h_u_ce h_u_ho h_u_wy h_u_bt h_u_ps h_u_ic h_u_id ⟨by omega, by omega⟩ ⟨by decide, by decide⟩ (r_ro) (by have zk : (10 : Int32).toInt = 10 := (by decide); omega)) (cwV 5 hts gV_X12_383 rfl rfl rfl hv_X12_asks ⟨Nat.le_of_ble_eq_true rfl, Nat.le_of_ble_eq_true rfl⟩) (g5_preV hPc hK hDc hN hT hS hFc (ci := 12) (q0 := 0) rfl rfl) rfl rfl hl.1 rfl (lv_room (Nat.le_of_ble_eq_true rfl)) dX12_turns_55 ⟨Nat.le_of_ble_eq_true rfl, Nat.le_of_ble_eq_true rfl⟩) hS (fun q _ h => hFc q h) hFc (fun r u t H1 locs ht hvm hw hB hz1 hk1 hS => ?_)
        obtain ⟨hP1, hD1⟩ := hB
        rw [ht] at hP1
        obtain ⟨z32, z33, z34, z35, z36, z37, z38, i_28, i_29, i_30, i_31, y39, rfl⟩ := hw
        have i_28 : 0 ≤ z32.toInt ∧ z32.toInt ≤ 23 := i_28
        have i_29 : 0 ≤ z32.toInt ∧ z32.toInt ≤ (10 : Int32).toInt := i_29
        have i_30 : 0 ≤ z33.toInt ∧ z33.toInt ≤ 4840 := i_30
        have i_31 : 0 ≤ z34.toInt ∧ z34.toInt ≤ 1 := i_31
        obtain ⟨hP, hD⟩ := va_join (wr := []) hP hD [0, 1, 2, 3] [] rfl rfl (by decide) (by decide) hk1 hFc hP1 hD1
        generalize H1 = H at hP hS ⊢
        refine g5_rs [(b_o, (oc12 u_th u_sa b_rf b_ro b_im b_ke u_fd b_tp u_td u_fr u_to u_so u_wo u_fa u_bd u_nc b_nl u_co b_op b_ar u_le b_pi b_pa u_pd u_od b_ws b_hw z33 b_se b_re z34 z35 z36 u_ce u_ho u_wy u_bt u_ps b_pt u_tg u_sn b_ip u_ic b_ah b_be b_me u_wd b_tr b_ld u_st b_wn u_id)), (b_ro, (arI G 5740 v_ro)), (b_se, (arJ G 13 z37)), (b_re, (arJ G 400 z38))] hP hD (fun hP hD => ?_)
        refine g5_ti (v := z32) y39 ?_
        refine lv_istore (lv' := [(7, .int z32), (6, .int z20), (0, .ref b_o), (1, .int p_1), (2, .int p_2), (3, .int p_3), (4, .int p_4), (5, .int p_5)]) hx hb dX12_turns_58 hl (by decide) rfl (fun ls hl => ?_)
        refine lv_aload_n hx hb dX12_turns_60 rfl (lv_at hl 2 rfl) ?_
        refine va_get (D := G.1) (ci := 12) (v := .int u_ho) (C := RX12) (T := TX12) (N := 52) hx hb hts inG_X12 hown hK hP 0 rfl rfl 34 (by decide) (hts _ fl_X12_352) (fun _ h9 => h9) rfl dX12_turns_61 ?_
        refine lv_iload hx hb dX12_turns_64 (lv_at hl 1 rfl) ?_
        refine lv_icmp_ge (tgt := 71) hx hb dX12_turns_66 (by decide) (fun c_40 => ?_) (fun c_40 => ?_)
        ·
          have i_40 : u_ho.toInt ≥ z20.toInt := by have z := g5_ge (a := u_ho.toInt) (b := z20.toInt) (by rfl) (by rfl) c_40; omega
          refine lv_aload_n hx hb dX12_turns_71 rfl (lv_at hl 2 rfl) ?_
          refine lv_dup hx hb dX12_turns_72 rfl ?_
          refine va_get (D := G.1) (ci := 12) (v := .int u_ho) (C := RX12) (T := TX12) (N := 52) hx hb hts inG_X12 hown hK hP 0 rfl rfl 34 (by decide) (hts _ fl_X12_352) (fun _ h9 => h9) rfl dX12_turns_73 ?_
          refine lv_iload hx hb dX12_turns_76 (lv_at hl 1 rfl) ?_
          refine lv_isub hx hb dX12_turns_78 ?_
          have t_41 : (u_ho - z20).toInt = u_ho.toInt - z20.toInt := g5_isub (a := u_ho.toInt) (b := z20.toInt) (by rfl) (by rfl) (by omega) (by omega)
          refine va_put (D := G.1) (ci := 12) (v := .int (u_ho - z20)) (ty := .int) (C := RX12) (T := TX12) (N := 52) hx hb hts inG_X12 tyX12 tyX12_ok nmX12 hown hK hP hD hS 0 rfl rfl 34 (by decide) (hts _ fl_X12_352) (fun _ h9 => h9) rfl (by decide +kernel) rfl rfl (Nat.le_of_ble_eq_true rfl) dX12_turns_79 (fun H locs hP hD hS => ?_)
          refine g5_rs [(b_o, (oc12 u_th u_sa b_rf b_ro b_im b_ke u_fd b_tp u_td u_fr u_to u_so u_wo u_fa u_bd u_nc b_nl u_co b_op b_ar u_le b_pi b_pa u_pd u_od b_ws b_hw z33 b_se b_re z34 z35 z36 u_ce (u_ho - z20) u_wy u_bt u_ps b_pt u_tg u_sn b_ip u_ic b_ah b_be b_me u_wd b_tr b_ld u_st b_wn u_id)), (b_ro, (arI G 5740 v_ro)), (b_se, (arJ G 13 z37)), (b_re, (arJ G 400 z38))] hP hD (fun hP hD => ?_)
          refine lv_aload_n hx hb dX12_turns_82 rfl (lv_at hl 2 rfl) ?_
          refine lv_aload_n hx hb dX12_turns_83 rfl (lv_at hl 2 rfl) ?_
          refine va_get (D := G.1) (ci := 12) (v := .int u_bt) (C := RX12) (T := TX12) (N := 52) hx hb hts inG_X12 hown hK hP 0 rfl rfl 36 (by decide) (hts _ fl_X12_361) (fun _ h9 => h9) rfl dX12_turns_84 ?_
          refine lv_bipush (v := 10) hx hb dX12_turns_87 (by decide) ?_
          refine lv_iload hx hb dX12_turns_89 (lv_at hl 0 rfl) ?_
          refine lv_isub hx hb dX12_turns_91 ?_
          have t_42 : (10 - z32).toInt = 10 - z32.toInt := g5_isub (a := 10) (b := z32.toInt) (by decide) (by rfl) (by omega) (by omega)
          refine lv_imul hx hb dX12_turns_92 ?_
          refine lv_bipush (v := 10) hx hb dX12_turns_93 (by decide) ?_
          refine lv_idiv hx hb dX12_turns_95 (by decide) ?_
          have hb_43 : 0 ≤ ((u_bt * (10 - z32)) / 10).toInt ∧ ((u_bt * (10 - z32)) / 10).toInt ≤ 1000000 := g_dust (by omega) (by omega)
          refine va_put (D := G.1) (ci := 12) (v := .int ((u_bt * (10 - z32)) / 10)) (ty := .int) (C := RX12) (T := TX12) (N := 52) hx hb hts inG_X12 tyX12 tyX12_ok nmX12 hown hK hP hD hS 0 rfl rfl 36 (by decide) (hts _ fl_X12_361) (fun _ h9 => h9) rfl (by decide +kernel) rfl rfl (Nat.le_of_ble_eq_true rfl) dX12_turns_96 (fun H locs hP hD hS => ?_)
          refine g5_rs [(b_o, (oc12 u_th u_sa b_rf b_ro b_im b_ke u_fd b_tp u_td u_fr u_to u_so u_wo u_fa u_bd u_nc b_nl u_co b_op b_ar u_le b_pi b_pa u_pd u_od b_ws b_hw z33 b_se b_re z34 z35 z36 u_ce (u_ho - z20) u_wy ((u_bt * (10 - z32)) / 10) u_ps b_pt u_tg u_sn b_ip u_ic b_ah b_be b_me u_wd b_tr b_ld u_st b_wn u_id)), (b_ro, (arI G 5740 v_ro)), (b_se, (arJ G 13 z37)), (b_re, (arJ G 400 z38))] hP hD (fun hP hD => ?_)
          refine lv_aload_n hx hb dX12_turns_99 rfl (lv_at hl 2 rfl) ?_
          refine va_get (D := G.1) (ci := 12) (v := .int ((u_bt * (10 - z32)) / 10)) (C := RX12) (T := TX12) (N := 52) hx hb hts inG_X12 hown hK hP 0 rfl rfl 36 (by decide) (hts _ fl_X12_361) (fun _ h9 => h9) rfl dX12_turns_100 ?_
          refine lv_aload_n hx hb dX12_turns_103 rfl (lv_at hl 2 rfl) ?_
          refine va_get (D := G.1) (ci := 12) (v := .ref b_ro) (C := RX12) (T := TX12) (N := 52) hx hb hts inG_X12 hown hK hP 0 rfl rfl 3 (by decide) (hts _ fl_X12_13) (fun _ h9 => h9) rfl dX12_turns_104 ?_
          refine lv_iconst (v := 4) hx hb dX12_turns_107 (by decide) ?_
          refine va_iald hx hb hK hP 1 0 rfl rfl (i := 4) (by unfold vp_in; decide) dX12_turns_108 ?_
          refine g5_ti (v := (v_ro 4)) rfl ?_
          refine lv_icmp_ge (tgt := 114) hx hb dX12_turns_109 (by decide) (fun c_44 => ?_) (fun c_44 => ?_)
          ·
            have i_44 : ((u_bt * (10 - z32)) / 10).toInt ≥ (v_ro 4).toInt := by have z := g5_ge (a := ((u_bt * (10 - z32)) / 10).toInt) (b := (v_ro 4).toInt) (by rfl) (by rfl) c_44; omega
            refine lv_aload_n hx hb dX12_turns_114 rfl (lv_at hl 2 rfl) ?_
            refine lv_iload_n hx hb dX12_turns_115 rfl (lv_at hl 4 rfl) ?_
            refine lv_if_ne (tgt := 128) hx hb dX12_turns_116 (by decide) (fun c_45 => ?_) (fun c_45 => ?_)
            ·
              have n_45 : gNe (p_2.toInt) (0) := by have z := g5_ne (a := p_2.toInt) (b := 0) (by rfl) (by decide) c_45; unfold gNe; omega
              have i_45 : p_2.toInt ≥ 1 := by have z := g5_ne (a := p_2.toInt) (b := 0) (by rfl) (by decide) c_45; omega
              refine lv_iload_n hx hb dX12_turns_128 rfl (lv_at hl 4 rfl) ?_
              refine lv_iconst (v := 1) hx hb dX12_turns_129 (by decide) ?_
              refine lv_icmp_ne (tgt := 142) hx hb dX12_turns_130 (by decide) (fun c_46 => ?_) (fun c_46 => ?_)
              ·
                have i_46 : p_2.toInt ≠ 1 := by have z := g5_ne (a := p_2.toInt) (b := 1) (by rfl) (by decide) c_46; omega
                omega
              ·
                have i_46 : p_2.toInt = 1 := by have z := g5_neN (a := p_2.toInt) (b := 1) (by rfl) (by decide) c_46; omega
                refine lv_iconst (v := 3) hx hb dX12_turns_133 (by decide) ?_
                refine lv_aload_n hx hb dX12_turns_134 rfl (lv_at hl 2 rfl) ?_
                refine va_get (D := G.1) (ci := 12) (v := .int u_wy) (C := RX12) (T := TX12) (N := 52) hx hb hts inG_X12 hown hK hP 0 rfl rfl 35 (by decide) (hts _ fl_X12_355) (fun _ h9 => h9) rfl dX12_turns_135 ?_
                refine lv_isub hx hb dX12_turns_138 ?_
                have t_47 : (3 - u_wy).toInt = 3 - u_wy.toInt := g5_isub (a := 3) (b := u_wy.toInt) (by decide) (by rfl) (by omega) (by omega)
                refine lv_goto (tgt := 150) hx hb dX12_turns_139 (by decide) ?_
                refine va_put (D := G.1) (ci := 12) (v := .int (3 - u_wy)) (ty := .int) (C := RX12) (T := TX12) (N := 52) hx hb hts inG_X12 tyX12 tyX12_ok nmX12 hown hK hP hD hS 0 rfl rfl 35 (by decide) (hts _ fl_X12_355) (fun _ h9 => h9) rfl (by decide +kernel) rfl rfl (Nat.le_of_ble_eq_true rfl) dX12_turns_150 (fun H locs hP hD hS => ?_)
                refine g5_rs [(b_o, (oc12 u_th u_sa b_rf b_ro b_im b_ke u_fd b_tp u_td u_fr u_to u_so u_wo u_fa u_bd u_nc b_nl u_co b_op b_ar u_le b_pi b_pa u_pd u_od b_ws b_hw z33 b_se b_re z34 z35 z36 u_ce (u_ho - z20) (3 - u_wy) ((u_bt * (10 - z32)) / 10) u_ps b_pt u_tg u_sn b_ip u_ic b_ah b_be b_me u_wd b_tr b_ld u_st b_wn u_id)), (b_ro, (arI G 5740 v_ro)), (b_se, (arJ G 13 z37)), (b_re, (arJ G 400 z38))] hP hD (fun hP hD => ?_)
                refine lv_aload_n hx hb dX12_turns_153 rfl (lv_at hl 2 rfl) ?_
                refine lv_dup hx hb dX12_turns_154 rfl ?_
                refine va_get (D := G.1) (ci := 12) (v := .int u_tg) (C := RX12) (T := TX12) (N := 52) hx hb hts inG_X12 hown hK hP 0 rfl rfl 39 (by decide) (hts _ fl_X12_368) (fun _ h9 => h9) rfl dX12_turns_155 ?_
                refine lv_iconst (v := 1) hx hb dX12_turns_158 (by decide) ?_
                refine lv_iload_n hx hb dX12_turns_159 rfl (lv_at hl 3 rfl) ?_
                refine lv_ishl hx hb dX12_turns_160 ?_
                refine lv_ior hx hb dX12_turns_161 ?_
                refine va_put (D := G.1) (ci := 12) (v := .int (u_tg ||| (1 <<< (p_1 &&& 31)))) (ty := .int) (C := RX12) (T := TX12) (N := 52) hx hb hts inG_X12 tyX12 tyX12_ok nmX12 hown hK hP hD hS 0 rfl rfl 39 (by decide) (hts _ fl_X12_368) (fun _ h9 => h9) rfl (by decide +kernel) rfl rfl (Nat.le_of_ble_eq_true rfl) dX12_turns_162 (fun H locs hP hD hS => ?_)
                refine g5_rs [(b_o, (oc12 u_th u_sa b_rf b_ro b_im b_ke u_fd b_tp u_td u_fr u_to u_so u_wo u_fa u_bd u_nc b_nl u_co b_op b_ar u_le b_pi b_pa u_pd u_od b_ws b_hw z33 b_se b_re z34 z35 z36 u_ce (u_ho - z20) (3 - u_wy) ((u_bt * (10 - z32)) / 10) u_ps b_pt (u_tg ||| (1 <<< (p_1 &&& 31))) u_sn b_ip u_ic b_ah b_be b_me u_wd b_tr b_ld u_st b_wn u_id)), (b_ro, (arI G 5740 v_ro)), (b_se, (arJ G 13 z37)), (b_re, (arJ G 400 z38))] hP hD (fun hP hD => ?_)
                refine lv_iconst (v := 1) hx hb dX12_turns_165 (by decide) ?_
                exact W.zret (v := 1) hx hb hr rfl (fun t ht hW => ⟨⟨1, [(b_o, (oc12 u_th u_sa b_rf b_ro b_im b_ke u_fd b_tp u_td u_fr u_to u_so u_wo u_fa u_bd u_nc b_nl u_co b_op b_ar u_le b_pi b_pa u_pd u_od b_ws b_hw z33 b_se b_re z34 z35 z36 u_ce (u_ho - z20) (3 - u_wy) ((u_bt * (10 - z32)) / 10) u_ps b_pt (u_tg ||| (1 <<< (p_1 &&& 31))) u_sn b_ip u_ic b_ah b_be b_me u_wd b_tr b_ld u_st b_wn u_id)), (b_ro, (arI G 5740 v_ro)), (b_se, (arJ G 13 z37)), (b_re, (arJ G 400 z38))], rfl, ⟨1, z33, z34, z35, z36, (u_ho - z20), (3 - u_wy), ((u_bt * (10 - z32)) / 10), (u_tg ||| (1 <<< (p_1 &&& 31))), z37, z38, ⟨by have zc_o_r : (1 : Int32).toInt = 1 := (by decide); omega, by have zc_o_r : (1 : Int32).toInt = 1 := (by decide); omega⟩, i_30, i_31, ⟨by omega, by omega⟩, ⟨by omega, by omega⟩, ⟨by omega, by omega⟩, rfl, rfl⟩, by rw [ht]; exact hP.sub [0, 1, 2, 3] rfl, hD.sub [0, 1, 2, 3] (by decide) rfl⟩, hS.F ht⟩) hS.2.2 dX12_turns_166
            ·
              have i_45 : p_2.toInt = 0 := by have z := g5_neN (a := p_2.toInt) (b := 0) (by rfl) (by decide) c_45; omega
              refine lv_aload_n hx hb dX12_turns_119 rfl (lv_at hl 2 rfl) ?_
              refine va_get (D := G.1) (ci := 12) (v := .int u_wy) (C := RX12) (T := TX12) (N := 52) hx hb hts inG_X12 hown hK hP 0 rfl rfl 35 (by decide) (hts _ fl_X12_355) (fun _ h9 => h9) rfl dX12_turns_120 ?_
              refine lv_iconst (v := 1) hx hb dX12_turns_123 (by decide) ?_
              refine lv_ixor hx hb dX12_turns_124 ?_
              have hx_48 := (g_xor (w := u_wy) (by omega) (by omega)).1
              refine lv_goto (tgt := 150) hx hb dX12_turns_125 (by decide) ?_
              refine va_put (D := G.1) (ci := 12) (v := .int (u_wy ^^^ 1)) (ty := .int) (C := RX12) (T := TX12) (N := 52) hx hb hts inG_X12 tyX12 tyX12_ok nmX12 hown hK hP hD hS 0 rfl rfl 35 (by decide) (hts _ fl_X12_355) (fun _ h9 => h9) rfl (by decide +kernel) rfl rfl (Nat.le_of_ble_eq_true rfl) dX12_turns_150 (fun H locs hP hD hS => ?_)
              refine g5_rs [(b_o, (oc12 u_th u_sa b_rf b_ro b_im b_ke u_fd b_tp u_td u_fr u_to u_so u_wo u_fa u_bd u_nc b_nl u_co b_op b_ar u_le b_pi b_pa u_pd u_od b_ws b_hw z33 b_se b_re z34 z35 z36 u_ce (u_ho - z20) (u_wy ^^^ 1) ((u_bt * (10 - z32)) / 10) u_ps b_pt u_tg u_sn b_ip u_ic b_ah b_be b_me u_wd b_tr b_ld u_st b_wn u_id)), (b_ro, (arI G 5740 v_ro)), (b_se, (arJ G 13 z37)), (b_re, (arJ G 400 z38))] hP hD (fun hP hD => ?_)
              refine lv_aload_n hx hb dX12_turns_153 rfl (lv_at hl 2 rfl) ?_
              refine lv_dup hx hb dX12_turns_154 rfl ?_
              refine va_get (D := G.1) (ci := 12) (v := .int u_tg) (C := RX12) (T := TX12) (N := 52) hx hb hts inG_X12 hown hK hP 0 rfl rfl 39 (by decide) (hts _ fl_X12_368) (fun _ h9 => h9) rfl dX12_turns_155 ?_
              refine lv_iconst (v := 1) hx hb dX12_turns_158 (by decide) ?_
              refine lv_iload_n hx hb dX12_turns_159 rfl (lv_at hl 3 rfl) ?_
              refine lv_ishl hx hb dX12_turns_160 ?_
              refine lv_ior hx hb dX12_turns_161 ?_
              refine va_put (D := G.1) (ci := 12) (v := .int (u_tg ||| (1 <<< (p_1 &&& 31)))) (ty := .int) (C := RX12) (T := TX12) (N := 52) hx hb hts inG_X12 tyX12 tyX12_ok nmX12 hown hK hP hD hS 0 rfl rfl 39 (by decide) (hts _ fl_X12_368) (fun _ h9 => h9) rfl (by decide +kernel) rfl rfl (Nat.le_of_ble_eq_true rfl) dX12_turns_162 (fun H locs hP hD hS => ?_)
              refine g5_rs [(b_o, (oc12 u_th u_sa b_rf b_ro b_im b_ke u_fd b_tp u_td u_fr u_to u_so u_wo u_fa u_bd u_nc b_nl u_co b_op b_ar u_le b_pi b_pa u_pd u_od b_ws b_hw z33 b_se b_re z34 z35 z36 u_ce (u_ho - z20) (u_wy ^^^ 1) ((u_bt * (10 - z32)) / 10) u_ps b_pt (u_tg ||| (1 <<< (p_1 &&& 31))) u_sn b_ip u_ic b_ah b_be b_me u_wd b_tr b_ld u_st b_wn u_id)), (b_ro, (arI G 5740 v_ro)), (b_se, (arJ G 13 z37)), (b_re, (arJ G 400 z38))] hP hD (fun hP hD => ?_)
              refine lv_iconst (v := 1) hx hb dX12_turns_165 (by decide) ?_
              exact W.zret (v := 1) hx hb hr rfl (fun t ht hW => ⟨⟨1, [(b_o, (oc12 u_th u_sa b_rf b_ro b_im b_ke u_fd b_tp u_td u_fr u_to u_so u_wo u_fa u_bd u_nc b_nl u_co b_op b_ar u_le b_pi b_pa u_pd u_od b_ws b_hw z33 b_se b_re z34 z35 z36 u_ce (u_ho - z20) (u_wy ^^^ 1) ((u_bt * (10 - z32)) / 10) u_ps b_pt (u_tg ||| (1 <<< (p_1 &&& 31))) u_sn b_ip u_ic b_ah b_be b_me u_wd b_tr b_ld u_st b_wn u_id)), (b_ro, (arI G 5740 v_ro)), (b_se, (arJ G 13 z37)), (b_re, (arJ G 400 z38))], rfl, ⟨1, z33, z34, z35, z36, (u_ho - z20), (u_wy ^^^ 1), ((u_bt * (10 - z32)) / 10), (u_tg ||| (1 <<< (p_1 &&& 31))), z37, z38, ⟨by have zc_o_r : (1 : Int32).toInt = 1 := (by decide); omega, by have zc_o_r : (1 : Int32).toInt = 1 := (by decide); omega⟩, i_30, i_31, ⟨by omega, by omega⟩, ⟨by omega, by omega⟩, ⟨by omega, by omega⟩, rfl, rfl⟩, by rw [ht]; exact hP.sub [0, 1, 2, 3] rfl, hD.sub [0, 1, 2, 3] (by decide) rfl⟩, hS.F ht⟩) hS.2.2 dX12_turns_166
          ·
            have i_44 : ((u_bt * (10 - z32)) / 10).toInt < (v_ro 4).toInt := by have z := g5_geN (a := ((u_bt * (10 - z32)) / 10).toInt) (b := (v_ro 4).toInt) (by rfl) (by rfl) c_44; omega
            refine lv_iconst (v := 0) hx hb dX12_turns_112 (by decide) ?_
            exact W.zret (v := 0) hx hb hr rfl (fun t ht hW => ⟨⟨0, [(b_o, (oc12 u_th u_sa b_rf b_ro b_im b_ke u_fd b_tp u_td u_fr u_to u_so u_wo u_fa u_bd u_nc b_nl u_co b_op b_ar u_le b_pi b_pa u_pd u_od b_ws b_hw z33 b_se b_re z34 z35 z36 u_ce (u_ho - z20) u_wy ((u_bt * (10 - z32)) / 10) u_ps b_pt u_tg u_sn b_ip u_ic b_ah b_be b_me u_wd b_tr b_ld u_st b_wn u_id)), (b_ro, (arI G 5740 v_ro)), (b_se, (arJ G 13 z37)), (b_re, (arJ G 400 z38))], rfl, ⟨0, z33, z34, z35, z36, (u_ho - z20), u_wy, ((u_bt * (10 - z32)) / 10), u_tg, z37, z38, ⟨by have zc_o_r : (0 : Int32).toInt = 0 := (by decide); omega, by have zc_o_r : (0 : Int32).toInt = 0 := (by decide); omega⟩, i_30, i_31, ⟨by omega, by omega⟩, h_u_wy, ⟨by omega, by omega⟩, rfl, rfl⟩, by rw [ht]; exact hP.sub [0, 1, 2, 3] rfl, hD.sub [0, 1, 2, 3] (by decide) rfl⟩, hS.F ht⟩) hS.2.2 dX12_turns_113
        ·
          have i_40 : u_ho.toInt < z20.toInt := by have z := g5_geN (a := u_ho.toInt) (b := z20.toInt) (by rfl) (by rfl) c_40; omega
          refine lv_iconst (v := 0) hx hb dX12_turns_69 (by decide) ?_
          exact W.zret (v := 0) hx hb hr rfl (fun t ht hW => ⟨⟨0, [(b_o, (oc12 u_th u_sa b_rf b_ro b_im b_ke u_fd b_tp u_td u_fr u_to u_so u_wo u_fa u_bd u_nc b_nl u_co b_op b_ar u_le b_pi b_pa u_pd u_od b_ws b_hw z33 b_se b_re z34 z35 z36 u_ce u_ho u_wy u_bt u_ps b_pt u_tg u_sn b_ip u_ic b_ah b_be b_me u_wd b_tr b_ld u_st b_wn u_id)), (b_ro, (arI G 5740 v_ro)), (b_se, (arJ G 13 z37)), (b_re, (arJ G 400 z38))], rfl, ⟨0, z33, z34, z35, z36, u_ho, u_wy, u_bt, u_tg, z37, z38, ⟨by have zc_o_r : (0 : Int32).toInt = 0 := (by decide); omega, by have zc_o_r : (0 : Int32).toInt = 0 := (by decide); omega⟩, i_30, i_31, h_u_ho, h_u_wy, h_u_bt, rfl, rfl⟩, by rw [ht]; exact hP.sub [0, 1, 2, 3] rfl, hD.sub [0, 1, 2, 3] (by decide) rfl⟩, hS.F ht⟩) hS.2.2 dX12_turns_70
      ·
        have i_15 : p_2.toInt > 1 := by have z := g5_leN (a := p_2.toInt) (b := 1) (by rfl) (by decide) c_15; omega
        refine lv_aload_n hx hb dX12_turns_23 rfl (lv_at hl 0 rfl) ?_
        refine va_get (D := G.1) (ci := 12) (v := .int u_wy) (C := RX12) (T := TX12) (N := 52) hx hb hts inG_X12 hown hK hP 0 rfl rfl 35 (by decide) (hts _ fl_X12_355) (fun _ h9 => h9) rfl dX12_turns_24 ?_
        refine lv_iload_n hx hb dX12_turns_27 rfl (lv_at hl 2 rfl) ?_
        refine lv_iconst (v := 4) hx hb dX12_turns_28 (by decide) ?_
        refine lv_irem hx hb dX12_turns_29 (by decide) ?_
        have t_49 : (p_2 - p_2 / 4 * 4).toInt = p_2.toInt % 4 := g5_irem (a := p_2.toInt) (b := 4) rfl (by decide) (by omega) (by decide)
        refine lv_icmp_eq (tgt := 35) hx hb dX12_turns_30 (by decide) (fun c_50 => ?_) (fun c_50 => ?_)
        ·
          have i_50 : u_wy.toInt = (p_2.toInt % 4) := by have z := g5_eq (a := u_wy.toInt) (b := (p_2 - p_2 / 4 * 4).toInt) (by rfl) (by rfl) c_50; omega
          refine lv_aload_n hx hb dX12_turns_35 rfl (lv_at hl 0 rfl) ?_
          refine lv_iconst (v := 0) hx hb dX12_turns_36 (by decide) ?_
          refine lv_iload_n hx hb dX12_turns_37 rfl (lv_at hl 1 rfl) ?_
          refine lv_iconst (v := (-1)) hx hb dX12_turns_38 (by decide) ?_
          refine lv_iload_n hx hb dX12_turns_39 rfl (lv_at hl 3 rfl) ?_
          refine lv_bipush (v := 23) hx hb dX12_turns_40 (by decide) ?_
          obtain ⟨hPc, hDc, hFc⟩ := g5_sub3 (wc := [(b_o, (oc12 u_th u_sa b_rf b_ro b_im b_ke u_fd b_tp u_td u_fr u_to u_so u_wo u_fa u_bd u_nc b_nl u_co b_op b_ar u_le b_pi b_pa u_pd u_od b_ws b_hw z7 b_se b_re z8 z9 z10 u_ce u_ho u_wy u_bt u_ps b_pt u_tg u_sn b_ip u_ic b_ah b_be b_me u_wd b_tr b_ld u_st b_wn u_id)), (b_ro, (arI G 5740 v_ro)), (b_se, (arJ G 13 z11)), (b_re, (arJ G 400 z12))]) hP hD hS hA [0, 1, 2, 3] (by decide) rfl
          refine va_calli (va_runV (As := [.int 0, .int p_1, .int (-1), .int p_3, .int 23]) (rest := []) ⟨hx, hb, hml, hown, hts⟩ (n_asks l G b_o b_ro b_se b_re b_rf b_im b_ke b_tp b_nl b_op b_ar b_pi b_pa b_ws b_hw b_pt b_ip b_ah b_be b_me b_tr b_ld b_wn H.size u_th u_sa u_fd u_td u_fr u_to u_so u_fa u_bd u_nc u_co u_le u_pd u_od z7 z8 u_ce u_ho u_wy u_bt u_ps u_tg u_sn u_ic u_wd u_id 0 p_1 (-1) p_3 23 u_wo z9 z10 u_st v_ro z11 z12 h_u_td h_u_fr h_u_to h_u_bd h_u_nc h_u_co h_u_pd i_4 i_5 h_u_ce h_u_ho h_u_wy h_u_bt h_u_ps h_u_ic h_u_id h_p_3 ⟨by decide, by decide⟩ (r_ro) (by have zk : (23 : Int32).toInt = 23 := (by decide); omega)) (cwV 5 hts gV_X12_383 rfl rfl rfl hv_X12_asks ⟨Nat.le_of_ble_eq_true rfl, Nat.le_of_ble_eq_true rfl⟩) (g5_preV hPc hK hDc hN hT hS hFc (ci := 12) (q0 := 0) rfl rfl) rfl rfl hl.1 rfl (lv_room (Nat.le_of_ble_eq_true rfl)) dX12_turns_42 ⟨Nat.le_of_ble_eq_true rfl, Nat.le_of_ble_eq_true rfl⟩) hS (fun q _ h => hFc q h) hFc (fun r u t H1 locs ht hvm hw hB hz1 hk1 hS => ?_)
          obtain ⟨hP1, hD1⟩ := hB
          rw [ht] at hP1
          obtain ⟨z55, z56, z57, z58, z59, z60, z61, i_51, i_52, i_53, i_54, y62, rfl⟩ := hw
          have i_51 : 0 ≤ z55.toInt ∧ z55.toInt ≤ 23 := i_51
          have i_52 : 0 ≤ z55.toInt ∧ z55.toInt ≤ (23 : Int32).toInt := i_52
          have i_53 : 0 ≤ z56.toInt ∧ z56.toInt ≤ 4840 := i_53
          have i_54 : 0 ≤ z57.toInt ∧ z57.toInt ≤ 1 := i_54
          obtain ⟨hP, hD⟩ := va_join (wr := []) hP hD [0, 1, 2, 3] [] rfl rfl (by decide) (by decide) hk1 hFc hP1 hD1
          generalize H1 = H at hP hS ⊢
          refine g5_rs [(b_o, (oc12 u_th u_sa b_rf b_ro b_im b_ke u_fd b_tp u_td u_fr u_to u_so u_wo u_fa u_bd u_nc b_nl u_co b_op b_ar u_le b_pi b_pa u_pd u_od b_ws b_hw z56 b_se b_re z57 z58 z59 u_ce u_ho u_wy u_bt u_ps b_pt u_tg u_sn b_ip u_ic b_ah b_be b_me u_wd b_tr b_ld u_st b_wn u_id)), (b_ro, (arI G 5740 v_ro)), (b_se, (arJ G 13 z60)), (b_re, (arJ G 400 z61))] hP hD (fun hP hD => ?_)
          refine g5_ti (v := z55) y62 ?_
          refine lv_istore (lv' := [(6, .int z55), (0, .ref b_o), (1, .int p_1), (2, .int p_2), (3, .int p_3), (4, .int p_4), (5, .int p_5)]) hx hb dX12_turns_45 hl (by decide) rfl (fun ls hl => ?_)
          refine lv_aload_n hx hb dX12_turns_47 rfl (lv_at hl 1 rfl) ?_
          refine lv_iconst (v := 1) hx hb dX12_turns_48 (by decide) ?_
          refine lv_iload_n hx hb dX12_turns_49 rfl (lv_at hl 2 rfl) ?_
          refine lv_iconst (v := (-1)) hx hb dX12_turns_50 (by decide) ?_
          refine lv_iload hx hb dX12_turns_51 (lv_at hl 5 rfl) ?_
          refine lv_bipush (v := 10) hx hb dX12_turns_53 (by decide) ?_
          obtain ⟨hPc, hDc, hFc⟩ := g5_sub3 (wc := [(b_o, (oc12 u_th u_sa b_rf b_ro b_im b_ke u_fd b_tp u_td u_fr u_to u_so u_wo u_fa u_bd u_nc b_nl u_co b_op b_ar u_le b_pi b_pa u_pd u_od b_ws b_hw z56 b_se b_re z57 z58 z59 u_ce u_ho u_wy u_bt u_ps b_pt u_tg u_sn b_ip u_ic b_ah b_be b_me u_wd b_tr b_ld u_st b_wn u_id)), (b_ro, (arI G 5740 v_ro)), (b_se, (arJ G 13 z60)), (b_re, (arJ G 400 z61))]) hP hD hS hA [0, 1, 2, 3] (by decide) rfl
          refine va_calli (va_runV (As := [.int 1, .int p_1, .int (-1), .int p_4, .int 10]) (rest := []) ⟨hx, hb, hml, hown, hts⟩ (n_asks l G b_o b_ro b_se b_re b_rf b_im b_ke b_tp b_nl b_op b_ar b_pi b_pa b_ws b_hw b_pt b_ip b_ah b_be b_me b_tr b_ld b_wn H.size u_th u_sa u_fd u_td u_fr u_to u_so u_fa u_bd u_nc u_co u_le u_pd u_od z56 z57 u_ce u_ho u_wy u_bt u_ps u_tg u_sn u_ic u_wd u_id 1 p_1 (-1) p_4 10 u_wo z58 z59 u_st v_ro z60 z61 h_u_td h_u_fr h_u_to h_u_bd h_u_nc h_u_co h_u_pd i_53 i_54 h_u_ce h_u_ho h_u_wy h_u_bt h_u_ps h_u_ic h_u_id ⟨by omega, by omega⟩ ⟨by decide, by decide⟩ (r_ro) (by have zk : (10 : Int32).toInt = 10 := (by decide); omega)) (cwV 5 hts gV_X12_383 rfl rfl rfl hv_X12_asks ⟨Nat.le_of_ble_eq_true rfl, Nat.le_of_ble_eq_true rfl⟩) (g5_preV hPc hK hDc hN hT hS hFc (ci := 12) (q0 := 0) rfl rfl) rfl rfl hl.1 rfl (lv_room (Nat.le_of_ble_eq_true rfl)) dX12_turns_55 ⟨Nat.le_of_ble_eq_true rfl, Nat.le_of_ble_eq_true rfl⟩) hS (fun q _ h => hFc q h) hFc (fun r u t H1 locs ht hvm hw hB hz1 hk1 hS => ?_)
          obtain ⟨hP1, hD1⟩ := hB
          rw [ht] at hP1
          obtain ⟨z67, z68, z69, z70, z71, z72, z73, i_63, i_64, i_65, i_66, y74, rfl⟩ := hw
          have i_63 : 0 ≤ z67.toInt ∧ z67.toInt ≤ 23 := i_63
          have i_64 : 0 ≤ z67.toInt ∧ z67.toInt ≤ (10 : Int32).toInt := i_64
          have i_65 : 0 ≤ z68.toInt ∧ z68.toInt ≤ 4840 := i_65
          have i_66 : 0 ≤ z69.toInt ∧ z69.toInt ≤ 1 := i_66
          obtain ⟨hP, hD⟩ := va_join (wr := []) hP hD [0, 1, 2, 3] [] rfl rfl (by decide) (by decide) hk1 hFc hP1 hD1
          generalize H1 = H at hP hS ⊢
          refine g5_rs [(b_o, (oc12 u_th u_sa b_rf b_ro b_im b_ke u_fd b_tp u_td u_fr u_to u_so u_wo u_fa u_bd u_nc b_nl u_co b_op b_ar u_le b_pi b_pa u_pd u_od b_ws b_hw z68 b_se b_re z69 z70 z71 u_ce u_ho u_wy u_bt u_ps b_pt u_tg u_sn b_ip u_ic b_ah b_be b_me u_wd b_tr b_ld u_st b_wn u_id)), (b_ro, (arI G 5740 v_ro)), (b_se, (arJ G 13 z72)), (b_re, (arJ G 400 z73))] hP hD (fun hP hD => ?_)
          refine g5_ti (v := z67) y74 ?_
          refine lv_istore (lv' := [(7, .int z67), (6, .int z55), (0, .ref b_o), (1, .int p_1), (2, .int p_2), (3, .int p_3), (4, .int p_4), (5, .int p_5)]) hx hb dX12_turns_58 hl (by decide) rfl (fun ls hl => ?_)
          refine lv_aload_n hx hb dX12_turns_60 rfl (lv_at hl 2 rfl) ?_
          refine va_get (D := G.1) (ci := 12) (v := .int u_ho) (C := RX12) (T := TX12) (N := 52) hx hb hts inG_X12 hown hK hP 0 rfl rfl 34 (by decide) (hts _ fl_X12_352) (fun _ h9 => h9) rfl dX12_turns_61 ?_
          refine lv_iload hx hb dX12_turns_64 (lv_at hl 1 rfl) ?_
          refine lv_icmp_ge (tgt := 71) hx hb dX12_turns_66 (by decide) (fun c_75 => ?_) (fun c_75 => ?_)
          ·
            have i_75 : u_ho.toInt ≥ z55.toInt := by have z := g5_ge (a := u_ho.toInt) (b := z55.toInt) (by rfl) (by rfl) c_75; omega
            refine lv_aload_n hx hb dX12_turns_71 rfl (lv_at hl 2 rfl) ?_
            refine lv_dup hx hb dX12_turns_72 rfl ?_
            refine va_get (D := G.1) (ci := 12) (v := .int u_ho) (C := RX12) (T := TX12) (N := 52) hx hb hts inG_X12 hown hK hP 0 rfl rfl 34 (by decide) (hts _ fl_X12_352) (fun _ h9 => h9) rfl dX12_turns_73 ?_
            refine lv_iload hx hb dX12_turns_76 (lv_at hl 1 rfl) ?_
            refine lv_isub hx hb dX12_turns_78 ?_
            have t_76 : (u_ho - z55).toInt = u_ho.toInt - z55.toInt := g5_isub (a := u_ho.toInt) (b := z55.toInt) (by rfl) (by rfl) (by omega) (by omega)
            refine va_put (D := G.1) (ci := 12) (v := .int (u_ho - z55)) (ty := .int) (C := RX12) (T := TX12) (N := 52) hx hb hts inG_X12 tyX12 tyX12_ok nmX12 hown hK hP hD hS 0 rfl rfl 34 (by decide) (hts _ fl_X12_352) (fun _ h9 => h9) rfl (by decide +kernel) rfl rfl (Nat.le_of_ble_eq_true rfl) dX12_turns_79 (fun H locs hP hD hS => ?_)
            refine g5_rs [(b_o, (oc12 u_th u_sa b_rf b_ro b_im b_ke u_fd b_tp u_td u_fr u_to u_so u_wo u_fa u_bd u_nc b_nl u_co b_op b_ar u_le b_pi b_pa u_pd u_od b_ws b_hw z68 b_se b_re z69 z70 z71 u_ce (u_ho - z55) u_wy u_bt u_ps b_pt u_tg u_sn b_ip u_ic b_ah b_be b_me u_wd b_tr b_ld u_st b_wn u_id)), (b_ro, (arI G 5740 v_ro)), (b_se, (arJ G 13 z72)), (b_re, (arJ G 400 z73))] hP hD (fun hP hD => ?_)
            refine lv_aload_n hx hb dX12_turns_82 rfl (lv_at hl 2 rfl) ?_
            refine lv_aload_n hx hb dX12_turns_83 rfl (lv_at hl 2 rfl) ?_
            refine va_get (D := G.1) (ci := 12) (v := .int u_bt) (C := RX12) (T := TX12) (N := 52) hx hb hts inG_X12 hown hK hP 0 rfl rfl 36 (by decide) (hts _ fl_X12_361) (fun _ h9 => h9) rfl dX12_turns_84 ?_
            refine lv_bipush (v := 10) hx hb dX12_turns_87 (by decide) ?_
            refine lv_iload hx hb dX12_turns_89 (lv_at hl 0 rfl) ?_
            refine lv_isub hx hb dX12_turns_91 ?_
            have t_77 : (10 - z67).toInt = 10 - z67.toInt := g5_isub (a := 10) (b := z67.toInt) (by decide) (by rfl) (by omega) (by omega)
            refine lv_imul hx hb dX12_turns_92 ?_
            refine lv_bipush (v := 10) hx hb dX12_turns_93 (by decide) ?_
            refine lv_idiv hx hb dX12_turns_95 (by decide) ?_
            have hb_78 : 0 ≤ ((u_bt * (10 - z67)) / 10).toInt ∧ ((u_bt * (10 - z67)) / 10).toInt ≤ 1000000 := g_dust (by omega) (by omega)
            refine va_put (D := G.1) (ci := 12) (v := .int ((u_bt * (10 - z67)) / 10)) (ty := .int) (C := RX12) (T := TX12) (N := 52) hx hb hts inG_X12 tyX12 tyX12_ok nmX12 hown hK hP hD hS 0 rfl rfl 36 (by decide) (hts _ fl_X12_361) (fun _ h9 => h9) rfl (by decide +kernel) rfl rfl (Nat.le_of_ble_eq_true rfl) dX12_turns_96 (fun H locs hP hD hS => ?_)
            refine g5_rs [(b_o, (oc12 u_th u_sa b_rf b_ro b_im b_ke u_fd b_tp u_td u_fr u_to u_so u_wo u_fa u_bd u_nc b_nl u_co b_op b_ar u_le b_pi b_pa u_pd u_od b_ws b_hw z68 b_se b_re z69 z70 z71 u_ce (u_ho - z55) u_wy ((u_bt * (10 - z67)) / 10) u_ps b_pt u_tg u_sn b_ip u_ic b_ah b_be b_me u_wd b_tr b_ld u_st b_wn u_id)), (b_ro, (arI G 5740 v_ro)), (b_se, (arJ G 13 z72)), (b_re, (arJ G 400 z73))] hP hD (fun hP hD => ?_)
            refine lv_aload_n hx hb dX12_turns_99 rfl (lv_at hl 2 rfl) ?_
            refine va_get (D := G.1) (ci := 12) (v := .int ((u_bt * (10 - z67)) / 10)) (C := RX12) (T := TX12) (N := 52) hx hb hts inG_X12 hown hK hP 0 rfl rfl 36 (by decide) (hts _ fl_X12_361) (fun _ h9 => h9) rfl dX12_turns_100 ?_
            refine lv_aload_n hx hb dX12_turns_103 rfl (lv_at hl 2 rfl) ?_
            refine va_get (D := G.1) (ci := 12) (v := .ref b_ro) (C := RX12) (T := TX12) (N := 52) hx hb hts inG_X12 hown hK hP 0 rfl rfl 3 (by decide) (hts _ fl_X12_13) (fun _ h9 => h9) rfl dX12_turns_104 ?_
            refine lv_iconst (v := 4) hx hb dX12_turns_107 (by decide) ?_
            refine va_iald hx hb hK hP 1 0 rfl rfl (i := 4) (by unfold vp_in; decide) dX12_turns_108 ?_
            refine g5_ti (v := (v_ro 4)) rfl ?_
            refine lv_icmp_ge (tgt := 114) hx hb dX12_turns_109 (by decide) (fun c_79 => ?_) (fun c_79 => ?_)
            ·
              have i_79 : ((u_bt * (10 - z67)) / 10).toInt ≥ (v_ro 4).toInt := by have z := g5_ge (a := ((u_bt * (10 - z67)) / 10).toInt) (b := (v_ro 4).toInt) (by rfl) (by rfl) c_79; omega
              refine lv_aload_n hx hb dX12_turns_114 rfl (lv_at hl 2 rfl) ?_
              refine lv_iload_n hx hb dX12_turns_115 rfl (lv_at hl 4 rfl) ?_
              refine lv_if_ne (tgt := 128) hx hb dX12_turns_116 (by decide) (fun c_80 => ?_) (fun c_80 => ?_)
              ·
                have n_80 : gNe (p_2.toInt) (0) := by have z := g5_ne (a := p_2.toInt) (b := 0) (by rfl) (by decide) c_80; unfold gNe; omega
                refine lv_iload_n hx hb dX12_turns_128 rfl (lv_at hl 4 rfl) ?_
                refine lv_iconst (v := 1) hx hb dX12_turns_129 (by decide) ?_
                refine lv_icmp_ne (tgt := 142) hx hb dX12_turns_130 (by decide) (fun c_81 => ?_) (fun c_81 => ?_)
                ·
                  have n_81 : gNe (p_2.toInt) (1) := by have z := g5_ne (a := p_2.toInt) (b := 1) (by rfl) (by decide) c_81; unfold gNe; omega
                  refine lv_aload_n hx hb dX12_turns_142 rfl (lv_at hl 2 rfl) ?_
                  refine va_get (D := G.1) (ci := 12) (v := .int u_wy) (C := RX12) (T := TX12) (N := 52) hx hb hts inG_X12 hown hK hP 0 rfl rfl 35 (by decide) (hts _ fl_X12_355) (fun _ h9 => h9) rfl dX12_turns_143 ?_
                  refine lv_iconst (v := 2) hx hb dX12_turns_146 (by decide) ?_
                  refine lv_iadd hx hb dX12_turns_147 ?_
                  have t_82 : (u_wy + 2).toInt = u_wy.toInt + 2 := g5_iadd (a := u_wy.toInt) (b := 2) (by rfl) (by decide) (by omega) (by omega)
                  refine lv_iconst (v := 4) hx hb dX12_turns_148 (by decide) ?_
                  refine lv_irem hx hb dX12_turns_149 (by decide) ?_
                  have t_83 : ((u_wy + 2) - (u_wy + 2) / 4 * 4).toInt = (u_wy + 2).toInt % 4 := g5_irem (a := (u_wy + 2).toInt) (b := 4) rfl (by decide) (by omega) (by decide)
                  refine va_put (D := G.1) (ci := 12) (v := .int ((u_wy + 2) - (u_wy + 2) / 4 * 4)) (ty := .int) (C := RX12) (T := TX12) (N := 52) hx hb hts inG_X12 tyX12 tyX12_ok nmX12 hown hK hP hD hS 0 rfl rfl 35 (by decide) (hts _ fl_X12_355) (fun _ h9 => h9) rfl (by decide +kernel) rfl rfl (Nat.le_of_ble_eq_true rfl) dX12_turns_150 (fun H locs hP hD hS => ?_)
                  refine g5_rs [(b_o, (oc12 u_th u_sa b_rf b_ro b_im b_ke u_fd b_tp u_td u_fr u_to u_so u_wo u_fa u_bd u_nc b_nl u_co b_op b_ar u_le b_pi b_pa u_pd u_od b_ws b_hw z68 b_se b_re z69 z70 z71 u_ce (u_ho - z55) ((u_wy + 2) - (u_wy + 2) / 4 * 4) ((u_bt * (10 - z67)) / 10) u_ps b_pt u_tg u_sn b_ip u_ic b_ah b_be b_me u_wd b_tr b_ld u_st b_wn u_id)), (b_ro, (arI G 5740 v_ro)), (b_se, (arJ G 13 z72)), (b_re, (arJ G 400 z73))] hP hD (fun hP hD => ?_)
                  refine lv_aload_n hx hb dX12_turns_153 rfl (lv_at hl 2 rfl) ?_
                  refine lv_dup hx hb dX12_turns_154 rfl ?_
                  refine va_get (D := G.1) (ci := 12) (v := .int u_tg) (C := RX12) (T := TX12) (N := 52) hx hb hts inG_X12 hown hK hP 0 rfl rfl 39 (by decide) (hts _ fl_X12_368) (fun _ h9 => h9) rfl dX12_turns_155 ?_
                  refine lv_iconst (v := 1) hx hb dX12_turns_158 (by decide) ?_
                  refine lv_iload_n hx hb dX12_turns_159 rfl (lv_at hl 3 rfl) ?_
                  refine lv_ishl hx hb dX12_turns_160 ?_
                  refine lv_ior hx hb dX12_turns_161 ?_
                  refine va_put (D := G.1) (ci := 12) (v := .int (u_tg ||| (1 <<< (p_1 &&& 31)))) (ty := .int) (C := RX12) (T := TX12) (N := 52) hx hb hts inG_X12 tyX12 tyX12_ok nmX12 hown hK hP hD hS 0 rfl rfl 39 (by decide) (hts _ fl_X12_368) (fun _ h9 => h9) rfl (by decide +kernel) rfl rfl (Nat.le_of_ble_eq_true rfl) dX12_turns_162 (fun H locs hP hD hS => ?_)
                  refine g5_rs [(b_o, (oc12 u_th u_sa b_rf b_ro b_im b_ke u_fd b_tp u_td u_fr u_to u_so u_wo u_fa u_bd u_nc b_nl u_co b_op b_ar u_le b_pi b_pa u_pd u_od b_ws b_hw z68 b_se b_re z69 z70 z71 u_ce (u_ho - z55) ((u_wy + 2) - (u_wy + 2) / 4 * 4) ((u_bt * (10 - z67)) / 10) u_ps b_pt (u_tg ||| (1 <<< (p_1 &&& 31))) u_sn b_ip u_ic b_ah b_be b_me u_wd b_tr b_ld u_st b_wn u_id)), (b_ro, (arI G 5740 v_ro)), (b_se, (arJ G 13 z72)), (b_re, (arJ G 400 z73))] hP hD (fun hP hD => ?_)
                  refine lv_iconst (v := 1) hx hb dX12_turns_165 (by decide) ?_
                  exact W.zret (v := 1) hx hb hr rfl (fun t ht hW => ⟨⟨1, [(b_o, (oc12 u_th u_sa b_rf b_ro b_im b_ke u_fd b_tp u_td u_fr u_to u_so u_wo u_fa u_bd u_nc b_nl u_co b_op b_ar u_le b_pi b_pa u_pd u_od b_ws b_hw z68 b_se b_re z69 z70 z71 u_ce (u_ho - z55) ((u_wy + 2) - (u_wy + 2) / 4 * 4) ((u_bt * (10 - z67)) / 10) u_ps b_pt (u_tg ||| (1 <<< (p_1 &&& 31))) u_sn b_ip u_ic b_ah b_be b_me u_wd b_tr b_ld u_st b_wn u_id)), (b_ro, (arI G 5740 v_ro)), (b_se, (arJ G 13 z72)), (b_re, (arJ G 400 z73))], rfl, ⟨1, z68, z69, z70, z71, (u_ho - z55), ((u_wy + 2) - (u_wy + 2) / 4 * 4), ((u_bt * (10 - z67)) / 10), (u_tg ||| (1 <<< (p_1 &&& 31))), z72, z73, ⟨by have zc_o_r : (1 : Int32).toInt = 1 := (by decide); omega, by have zc_o_r : (1 : Int32).toInt = 1 := (by decide); omega⟩, i_65, i_66, ⟨by omega, by omega⟩, ⟨by omega, by omega⟩, ⟨by omega, by omega⟩, rfl, rfl⟩, by rw [ht]; exact hP.sub [0, 1, 2, 3] rfl, hD.sub [0, 1, 2, 3] (by decide) rfl⟩, hS.F ht⟩) hS.2.2 dX12_turns_166
                ·
                  have i_81 : p_2.toInt = 1 := by have z := g5_neN (a := p_2.toInt) (b := 1) (by rfl) (by decide) c_81; omega
                  omega
              ·
                have i_80 : p_2.toInt = 0 := by have z := g5_neN (a := p_2.toInt) (b := 0) (by rfl) (by decide) c_80; omega
                omega
            ·
              have i_79 : ((u_bt * (10 - z67)) / 10).toInt < (v_ro 4).toInt := by have z := g5_geN (a := ((u_bt * (10 - z67)) / 10).toInt) (b := (v_ro 4).toInt) (by rfl) (by rfl) c_79; omega
              refine lv_iconst (v := 0) hx hb dX12_turns_112 (by decide) ?_
              exact W.zret (v := 0) hx hb hr rfl (fun t ht hW => ⟨⟨0, [(b_o, (oc12 u_th u_sa b_rf b_ro b_im b_ke u_fd b_tp u_td u_fr u_to u_so u_wo u_fa u_bd u_nc b_nl u_co b_op b_ar u_le b_pi b_pa u_pd u_od b_ws b_hw z68 b_se b_re z69 z70 z71 u_ce (u_ho - z55) u_wy ((u_bt * (10 - z67)) / 10) u_ps b_pt u_tg u_sn b_ip u_ic b_ah b_be b_me u_wd b_tr b_ld u_st b_wn u_id)), (b_ro, (arI G 5740 v_ro)), (b_se, (arJ G 13 z72)), (b_re, (arJ G 400 z73))], rfl, ⟨0, z68, z69, z70, z71, (u_ho - z55), u_wy, ((u_bt * (10 - z67)) / 10), u_tg, z72, z73, ⟨by have zc_o_r : (0 : Int32).toInt = 0 := (by decide); omega, by have zc_o_r : (0 : Int32).toInt = 0 := (by decide); omega⟩, i_65, i_66, ⟨by omega, by omega⟩, h_u_wy, ⟨by omega, by omega⟩, rfl, rfl⟩, by rw [ht]; exact hP.sub [0, 1, 2, 3] rfl, hD.sub [0, 1, 2, 3] (by decide) rfl⟩, hS.F ht⟩) hS.2.2 dX12_turns_113
          ·
            have i_75 : u_ho.toInt < z55.toInt := by have z := g5_geN (a := u_ho.toInt) (b := z55.toInt) (by rfl) (by rfl) c_75; omega
            refine lv_iconst (v := 0) hx hb dX12_turns_69 (by decide) ?_
            exact W.zret (v := 0) hx hb hr rfl (fun t ht hW => ⟨⟨0, [(b_o, (oc12 u_th u_sa b_rf b_ro b_im b_ke u_fd b_tp u_td u_fr u_to u_so u_wo u_fa u_bd u_nc b_nl u_co b_op b_ar u_le b_pi b_pa u_pd u_od b_ws b_hw z68 b_se b_re z69 z70 z71 u_ce u_ho u_wy u_bt u_ps b_pt u_tg u_sn b_ip u_ic b_ah b_be b_me u_wd b_tr b_ld u_st b_wn u_id)), (b_ro, (arI G 5740 v_ro)), (b_se, (arJ G 13 z72)), (b_re, (arJ G 400 z73))], rfl, ⟨0, z68, z69, z70, z71, u_ho, u_wy, u_bt, u_tg, z72, z73, ⟨by have zc_o_r : (0 : Int32).toInt = 0 := (by decide); omega, by have zc_o_r : (0 : Int32).toInt = 0 := (by decide); omega⟩, i_65, i_66, h_u_ho, h_u_wy, h_u_bt, rfl, rfl⟩, by rw [ht]; exact hP.sub [0, 1, 2, 3] rfl, hD.sub [0, 1, 2, 3] (by decide) rfl⟩, hS.F ht⟩) hS.2.2 dX12_turns_70
        ·
          have n_50 : gNe (u_wy.toInt) ((p_2.toInt % 4)) := by have z := g5_eqN (a := u_wy.toInt) (b := (p_2 - p_2 / 4 * 4).toInt) (by rfl) (by rfl) c_50; unfold gNe; omega
          refine lv_iconst (v := 0) hx hb dX12_turns_33 (by decide) ?_
          exact W.zret (v := 0) hx hb hr rfl (fun t ht hW => ⟨⟨0, [(b_o, (oc12 u_th u_sa b_rf b_ro b_im b_ke u_fd b_tp u_td u_fr u_to u_so u_wo u_fa u_bd u_nc b_nl u_co b_op b_ar u_le b_pi b_pa u_pd u_od b_ws b_hw z7 b_se b_re z8 z9 z10 u_ce u_ho u_wy u_bt u_ps b_pt u_tg u_sn b_ip u_ic b_ah b_be b_me u_wd b_tr b_ld u_st b_wn u_id)), (b_ro, (arI G 5740 v_ro)), (b_se, (arJ G 13 z11)), (b_re, (arJ G 400 z12))], rfl, ⟨0, z7, z8, z9, z10, u_ho, u_wy, u_bt, u_tg, z11, z12, ⟨by have zc_o_r : (0 : Int32).toInt = 0 := (by decide); omega, by have zc_o_r : (0 : Int32).toInt = 0 := (by decide); omega⟩, i_4, i_5, h_u_ho, h_u_wy, h_u_bt, rfl, rfl⟩, by rw [ht]; exact hP.sub [0, 1, 2, 3] rfl, hD.sub [0, 1, 2, 3] (by decide) rfl⟩, hS.F ht⟩) hS.2.2 dX12_turns_34
theorem dgX12_passes_0 : ∀ r ∈ ([(0, (.iconst 0, 1)), (1, (.istore_n 2, 1)), (2, (.iload_n 2, 1)), (3, (.aload_n 0, 1)), (4, (.getfield 13, 3)), (7, (.iconst 0, 1)), (8, (.iaload, 1)), (9, (.if_icmp .ge 59, 3)), (12, (.aload_n 0, 1)), (13, (.iload_n 2, 1)), (14, (.iconst 0, 1)), (15, (.invokevirtual 134, 3)), (18, (.aload_n 0, 1)), (19, (.getfield 349, 3)), (22, (.if_icmp .ne 40, 3)), (25, (.aload_n 0, 1)), (26, (.iload_n 2, 1)), (27, (.aload_n 0, 1)), (28, (.iload_n 2, 1)), (29, (.iconst 1, 1)), (30, (.invokevirtual 134, 3)), (33, (.aload_n 0, 1)), (34, (.iload_n 2, 1)), (35, (.iconst 2, 1)), (36, (.invokevirtual 134, 3)), (39, (.aload_n 0, 1)), (40, (.iload_n 2, 1)), (41, (.iconst 3, 1)), (42, (.invokevirtual 134, 3)), (45, (.aload_n 0, 1)), (46, (.iload_n 2, 1)), (47, (.iconst 4, 1)), (48, (.invokevirtual 134, 3)), (51, (.aload_n 0, 1)), (52, (.getfield 352, 3)), (55, (.invokestatic 387, 3)), (58, (.invokevirtual 390, 3)), (61, (.ireturn, 1)), (62, (.iinc 2 1, 3)), (65, (.goto (-63), 3))] : List (Nat × (Instr × Nat))), decode cX12_passes r.1 = .ok r.2 := by decide +kernel
theorem dX12_passes_0 : decode cX12_passes 0 = .ok (.iconst 0, 1) := dgX12_passes_0 (0, (.iconst 0, 1)) (List.mem_of_getElem? (i := 0) rfl)
theorem dX12_passes_1 : decode cX12_passes 1 = .ok (.istore_n 2, 1) := dgX12_passes_0 (1, (.istore_n 2, 1)) (List.mem_of_getElem? (i := 1) rfl)
theorem dX12_passes_2 : decode cX12_passes 2 = .ok (.iload_n 2, 1) := dgX12_passes_0 (2, (.iload_n 2, 1)) (List.mem_of_getElem? (i := 2) rfl)
theorem dX12_passes_3 : decode cX12_passes 3 = .ok (.aload_n 0, 1) := dgX12_passes_0 (3, (.aload_n 0, 1)) (List.mem_of_getElem? (i := 3) rfl)
theorem dX12_passes_4 : decode cX12_passes 4 = .ok (.getfield 13, 3) := dgX12_passes_0 (4, (.getfield 13, 3)) (List.mem_of_getElem? (i := 4) rfl)
theorem dX12_passes_7 : decode cX12_passes 7 = .ok (.iconst 0, 1) := dgX12_passes_0 (7, (.iconst 0, 1)) (List.mem_of_getElem? (i := 5) rfl)
theorem dX12_passes_8 : decode cX12_passes 8 = .ok (.iaload, 1) := dgX12_passes_0 (8, (.iaload, 1)) (List.mem_of_getElem? (i := 6) rfl)
theorem dX12_passes_9 : decode cX12_passes 9 = .ok (.if_icmp .ge 59, 3) := dgX12_passes_0 (9, (.if_icmp .ge 59, 3)) (List.mem_of_getElem? (i := 7) rfl)
theorem dX12_passes_12 : decode cX12_passes 12 = .ok (.aload_n 0, 1) := dgX12_passes_0 (12, (.aload_n 0, 1)) (List.mem_of_getElem? (i := 8) rfl)
theorem dX12_passes_13 : decode cX12_passes 13 = .ok (.iload_n 2, 1) := dgX12_passes_0 (13, (.iload_n 2, 1)) (List.mem_of_getElem? (i := 9) rfl)
theorem dX12_passes_14 : decode cX12_passes 14 = .ok (.iconst 0, 1) := dgX12_passes_0 (14, (.iconst 0, 1)) (List.mem_of_getElem? (i := 10) rfl)
theorem dX12_passes_15 : decode cX12_passes 15 = .ok (.invokevirtual 134, 3) := dgX12_passes_0 (15, (.invokevirtual 134, 3)) (List.mem_of_getElem? (i := 11) rfl)
theorem dX12_passes_18 : decode cX12_passes 18 = .ok (.aload_n 0, 1) := dgX12_passes_0 (18, (.aload_n 0, 1)) (List.mem_of_getElem? (i := 12) rfl)
theorem dX12_passes_19 : decode cX12_passes 19 = .ok (.getfield 349, 3) := dgX12_passes_0 (19, (.getfield 349, 3)) (List.mem_of_getElem? (i := 13) rfl)
theorem dX12_passes_22 : decode cX12_passes 22 = .ok (.if_icmp .ne 40, 3) := dgX12_passes_0 (22, (.if_icmp .ne 40, 3)) (List.mem_of_getElem? (i := 14) rfl)
theorem dX12_passes_25 : decode cX12_passes 25 = .ok (.aload_n 0, 1) := dgX12_passes_0 (25, (.aload_n 0, 1)) (List.mem_of_getElem? (i := 15) rfl)
theorem dX12_passes_26 : decode cX12_passes 26 = .ok (.iload_n 2, 1) := dgX12_passes_0 (26, (.iload_n 2, 1)) (List.mem_of_getElem? (i := 16) rfl)
theorem dX12_passes_27 : decode cX12_passes 27 = .ok (.aload_n 0, 1) := dgX12_passes_0 (27, (.aload_n 0, 1)) (List.mem_of_getElem? (i := 17) rfl)
theorem dX12_passes_28 : decode cX12_passes 28 = .ok (.iload_n 2, 1) := dgX12_passes_0 (28, (.iload_n 2, 1)) (List.mem_of_getElem? (i := 18) rfl)
theorem dX12_passes_29 : decode cX12_passes 29 = .ok (.iconst 1, 1) := dgX12_passes_0 (29, (.iconst 1, 1)) (List.mem_of_getElem? (i := 19) rfl)
theorem dX12_passes_30 : decode cX12_passes 30 = .ok (.invokevirtual 134, 3) := dgX12_passes_0 (30, (.invokevirtual 134, 3)) (List.mem_of_getElem? (i := 20) rfl)
theorem dX12_passes_33 : decode cX12_passes 33 = .ok (.aload_n 0, 1) := dgX12_passes_0 (33, (.aload_n 0, 1)) (List.mem_of_getElem? (i := 21) rfl)
theorem dX12_passes_34 : decode cX12_passes 34 = .ok (.iload_n 2, 1) := dgX12_passes_0 (34, (.iload_n 2, 1)) (List.mem_of_getElem? (i := 22) rfl)
theorem dX12_passes_35 : decode cX12_passes 35 = .ok (.iconst 2, 1) := dgX12_passes_0 (35, (.iconst 2, 1)) (List.mem_of_getElem? (i := 23) rfl)
theorem dX12_passes_36 : decode cX12_passes 36 = .ok (.invokevirtual 134, 3) := dgX12_passes_0 (36, (.invokevirtual 134, 3)) (List.mem_of_getElem? (i := 24) rfl)
theorem dX12_passes_39 : decode cX12_passes 39 = .ok (.aload_n 0, 1) := dgX12_passes_0 (39, (.aload_n 0, 1)) (List.mem_of_getElem? (i := 25) rfl)
theorem dX12_passes_40 : decode cX12_passes 40 = .ok (.iload_n 2, 1) := dgX12_passes_0 (40, (.iload_n 2, 1)) (List.mem_of_getElem? (i := 26) rfl)
theorem dX12_passes_41 : decode cX12_passes 41 = .ok (.iconst 3, 1) := dgX12_passes_0 (41, (.iconst 3, 1)) (List.mem_of_getElem? (i := 27) rfl)
theorem dX12_passes_42 : decode cX12_passes 42 = .ok (.invokevirtual 134, 3) := dgX12_passes_0 (42, (.invokevirtual 134, 3)) (List.mem_of_getElem? (i := 28) rfl)
theorem dX12_passes_45 : decode cX12_passes 45 = .ok (.aload_n 0, 1) := dgX12_passes_0 (45, (.aload_n 0, 1)) (List.mem_of_getElem? (i := 29) rfl)
theorem dX12_passes_46 : decode cX12_passes 46 = .ok (.iload_n 2, 1) := dgX12_passes_0 (46, (.iload_n 2, 1)) (List.mem_of_getElem? (i := 30) rfl)
theorem dX12_passes_47 : decode cX12_passes 47 = .ok (.iconst 4, 1) := dgX12_passes_0 (47, (.iconst 4, 1)) (List.mem_of_getElem? (i := 31) rfl)
theorem dX12_passes_48 : decode cX12_passes 48 = .ok (.invokevirtual 134, 3) := dgX12_passes_0 (48, (.invokevirtual 134, 3)) (List.mem_of_getElem? (i := 32) rfl)
theorem dX12_passes_51 : decode cX12_passes 51 = .ok (.aload_n 0, 1) := dgX12_passes_0 (51, (.aload_n 0, 1)) (List.mem_of_getElem? (i := 33) rfl)
theorem dX12_passes_52 : decode cX12_passes 52 = .ok (.getfield 352, 3) := dgX12_passes_0 (52, (.getfield 352, 3)) (List.mem_of_getElem? (i := 34) rfl)
theorem dX12_passes_55 : decode cX12_passes 55 = .ok (.invokestatic 387, 3) := dgX12_passes_0 (55, (.invokestatic 387, 3)) (List.mem_of_getElem? (i := 35) rfl)
theorem dX12_passes_58 : decode cX12_passes 58 = .ok (.invokevirtual 390, 3) := dgX12_passes_0 (58, (.invokevirtual 390, 3)) (List.mem_of_getElem? (i := 36) rfl)
theorem dX12_passes_61 : decode cX12_passes 61 = .ok (.ireturn, 1) := dgX12_passes_0 (61, (.ireturn, 1)) (List.mem_of_getElem? (i := 37) rfl)
theorem dX12_passes_62 : decode cX12_passes 62 = .ok (.iinc 2 1, 3) := dgX12_passes_0 (62, (.iinc 2 1, 3)) (List.mem_of_getElem? (i := 38) rfl)
theorem dX12_passes_65 : decode cX12_passes 65 = .ok (.goto (-63), 3) := dgX12_passes_0 (65, (.goto (-63), 3)) (List.mem_of_getElem? (i := 39) rfl)
theorem dgX12_passes_1 : ∀ r ∈ ([(68, (.iconst 0, 1)), (69, (.istore_n 2, 1)), (70, (.iload_n 2, 1)), (71, (.aload_n 0, 1)), (72, (.getfield 13, 3)), (75, (.bipush 7, 2)), (77, (.iaload, 1)), (78, (.if_icmp .ge 75, 3)), (81, (.iload_n 1, 1)), (82, (.iload_n 2, 1)), (83, (.invokestatic 387, 3)), (86, (.ifCond .eq 61, 3)), (89, (.aload_n 0, 1)), (90, (.getfield 13, 3)), (93, (.sipush 270, 3)), (96, (.iconst 3, 1)), (97, (.iload_n 2, 1)), (98, (.imul, 1)), (99, (.iadd, 1)), (100, (.iaload, 1)), (101, (.aload_n 0, 1)), (102, (.getfield 349, 3)), (105, (.if_icmp .ne 42, 3)), (108, (.aload_n 0, 1)), (109, (.bipush 6, 2)), (111, (.iload_n 2, 1)), (112, (.iadd, 1)), (113, (.aload_n 0, 1)), (114, (.getfield 13, 3)), (117, (.sipush 270, 3)), (120, (.iconst 3, 1)), (121, (.iload_n 2, 1)), (122, (.imul, 1)), (123, (.iadd, 1)), (124, (.iconst 1, 1)), (125, (.iadd, 1)), (126, (.iaload, 1)), (127, (.aload_n 0, 1)), (128, (.getfield 13, 3)), (131, (.sipush 270, 3))] : List (Nat × (Instr × Nat))), decode cX12_passes r.1 = .ok r.2 := by decide +kernel
theorem dX12_passes_68 : decode cX12_passes 68 = .ok (.iconst 0, 1) := dgX12_passes_1 (68, (.iconst 0, 1)) (List.mem_of_getElem? (i := 0) rfl)
theorem dX12_passes_69 : decode cX12_passes 69 = .ok (.istore_n 2, 1) := dgX12_passes_1 (69, (.istore_n 2, 1)) (List.mem_of_getElem? (i := 1) rfl)
theorem dX12_passes_70 : decode cX12_passes 70 = .ok (.iload_n 2, 1) := dgX12_passes_1 (70, (.iload_n 2, 1)) (List.mem_of_getElem? (i := 2) rfl)
theorem dX12_passes_71 : decode cX12_passes 71 = .ok (.aload_n 0, 1) := dgX12_passes_1 (71, (.aload_n 0, 1)) (List.mem_of_getElem? (i := 3) rfl)
theorem dX12_passes_72 : decode cX12_passes 72 = .ok (.getfield 13, 3) := dgX12_passes_1 (72, (.getfield 13, 3)) (List.mem_of_getElem? (i := 4) rfl)
theorem dX12_passes_75 : decode cX12_passes 75 = .ok (.bipush 7, 2) := dgX12_passes_1 (75, (.bipush 7, 2)) (List.mem_of_getElem? (i := 5) rfl)
theorem dX12_passes_77 : decode cX12_passes 77 = .ok (.iaload, 1) := dgX12_passes_1 (77, (.iaload, 1)) (List.mem_of_getElem? (i := 6) rfl)
theorem dX12_passes_78 : decode cX12_passes 78 = .ok (.if_icmp .ge 75, 3) := dgX12_passes_1 (78, (.if_icmp .ge 75, 3)) (List.mem_of_getElem? (i := 7) rfl)
theorem dX12_passes_81 : decode cX12_passes 81 = .ok (.iload_n 1, 1) := dgX12_passes_1 (81, (.iload_n 1, 1)) (List.mem_of_getElem? (i := 8) rfl)
theorem dX12_passes_82 : decode cX12_passes 82 = .ok (.iload_n 2, 1) := dgX12_passes_1 (82, (.iload_n 2, 1)) (List.mem_of_getElem? (i := 9) rfl)
theorem dX12_passes_83 : decode cX12_passes 83 = .ok (.invokestatic 387, 3) := dgX12_passes_1 (83, (.invokestatic 387, 3)) (List.mem_of_getElem? (i := 10) rfl)
theorem dX12_passes_86 : decode cX12_passes 86 = .ok (.ifCond .eq 61, 3) := dgX12_passes_1 (86, (.ifCond .eq 61, 3)) (List.mem_of_getElem? (i := 11) rfl)
theorem dX12_passes_89 : decode cX12_passes 89 = .ok (.aload_n 0, 1) := dgX12_passes_1 (89, (.aload_n 0, 1)) (List.mem_of_getElem? (i := 12) rfl)
theorem dX12_passes_90 : decode cX12_passes 90 = .ok (.getfield 13, 3) := dgX12_passes_1 (90, (.getfield 13, 3)) (List.mem_of_getElem? (i := 13) rfl)
theorem dX12_passes_93 : decode cX12_passes 93 = .ok (.sipush 270, 3) := dgX12_passes_1 (93, (.sipush 270, 3)) (List.mem_of_getElem? (i := 14) rfl)
theorem dX12_passes_96 : decode cX12_passes 96 = .ok (.iconst 3, 1) := dgX12_passes_1 (96, (.iconst 3, 1)) (List.mem_of_getElem? (i := 15) rfl)
theorem dX12_passes_97 : decode cX12_passes 97 = .ok (.iload_n 2, 1) := dgX12_passes_1 (97, (.iload_n 2, 1)) (List.mem_of_getElem? (i := 16) rfl)
theorem dX12_passes_98 : decode cX12_passes 98 = .ok (.imul, 1) := dgX12_passes_1 (98, (.imul, 1)) (List.mem_of_getElem? (i := 17) rfl)
theorem dX12_passes_99 : decode cX12_passes 99 = .ok (.iadd, 1) := dgX12_passes_1 (99, (.iadd, 1)) (List.mem_of_getElem? (i := 18) rfl)
theorem dX12_passes_100 : decode cX12_passes 100 = .ok (.iaload, 1) := dgX12_passes_1 (100, (.iaload, 1)) (List.mem_of_getElem? (i := 19) rfl)
theorem dX12_passes_101 : decode cX12_passes 101 = .ok (.aload_n 0, 1) := dgX12_passes_1 (101, (.aload_n 0, 1)) (List.mem_of_getElem? (i := 20) rfl)
theorem dX12_passes_102 : decode cX12_passes 102 = .ok (.getfield 349, 3) := dgX12_passes_1 (102, (.getfield 349, 3)) (List.mem_of_getElem? (i := 21) rfl)
theorem dX12_passes_105 : decode cX12_passes 105 = .ok (.if_icmp .ne 42, 3) := dgX12_passes_1 (105, (.if_icmp .ne 42, 3)) (List.mem_of_getElem? (i := 22) rfl)
theorem dX12_passes_108 : decode cX12_passes 108 = .ok (.aload_n 0, 1) := dgX12_passes_1 (108, (.aload_n 0, 1)) (List.mem_of_getElem? (i := 23) rfl)
theorem dX12_passes_109 : decode cX12_passes 109 = .ok (.bipush 6, 2) := dgX12_passes_1 (109, (.bipush 6, 2)) (List.mem_of_getElem? (i := 24) rfl)
theorem dX12_passes_111 : decode cX12_passes 111 = .ok (.iload_n 2, 1) := dgX12_passes_1 (111, (.iload_n 2, 1)) (List.mem_of_getElem? (i := 25) rfl)
theorem dX12_passes_112 : decode cX12_passes 112 = .ok (.iadd, 1) := dgX12_passes_1 (112, (.iadd, 1)) (List.mem_of_getElem? (i := 26) rfl)
theorem dX12_passes_113 : decode cX12_passes 113 = .ok (.aload_n 0, 1) := dgX12_passes_1 (113, (.aload_n 0, 1)) (List.mem_of_getElem? (i := 27) rfl)
theorem dX12_passes_114 : decode cX12_passes 114 = .ok (.getfield 13, 3) := dgX12_passes_1 (114, (.getfield 13, 3)) (List.mem_of_getElem? (i := 28) rfl)
theorem dX12_passes_117 : decode cX12_passes 117 = .ok (.sipush 270, 3) := dgX12_passes_1 (117, (.sipush 270, 3)) (List.mem_of_getElem? (i := 29) rfl)
theorem dX12_passes_120 : decode cX12_passes 120 = .ok (.iconst 3, 1) := dgX12_passes_1 (120, (.iconst 3, 1)) (List.mem_of_getElem? (i := 30) rfl)
theorem dX12_passes_121 : decode cX12_passes 121 = .ok (.iload_n 2, 1) := dgX12_passes_1 (121, (.iload_n 2, 1)) (List.mem_of_getElem? (i := 31) rfl)
theorem dX12_passes_122 : decode cX12_passes 122 = .ok (.imul, 1) := dgX12_passes_1 (122, (.imul, 1)) (List.mem_of_getElem? (i := 32) rfl)
theorem dX12_passes_123 : decode cX12_passes 123 = .ok (.iadd, 1) := dgX12_passes_1 (123, (.iadd, 1)) (List.mem_of_getElem? (i := 33) rfl)
theorem dX12_passes_124 : decode cX12_passes 124 = .ok (.iconst 1, 1) := dgX12_passes_1 (124, (.iconst 1, 1)) (List.mem_of_getElem? (i := 34) rfl)
theorem dX12_passes_125 : decode cX12_passes 125 = .ok (.iadd, 1) := dgX12_passes_1 (125, (.iadd, 1)) (List.mem_of_getElem? (i := 35) rfl)
theorem dX12_passes_126 : decode cX12_passes 126 = .ok (.iaload, 1) := dgX12_passes_1 (126, (.iaload, 1)) (List.mem_of_getElem? (i := 36) rfl)
theorem dX12_passes_127 : decode cX12_passes 127 = .ok (.aload_n 0, 1) := dgX12_passes_1 (127, (.aload_n 0, 1)) (List.mem_of_getElem? (i := 37) rfl)
theorem dX12_passes_128 : decode cX12_passes 128 = .ok (.getfield 13, 3) := dgX12_passes_1 (128, (.getfield 13, 3)) (List.mem_of_getElem? (i := 38) rfl)
theorem dX12_passes_131 : decode cX12_passes 131 = .ok (.sipush 270, 3) := dgX12_passes_1 (131, (.sipush 270, 3)) (List.mem_of_getElem? (i := 39) rfl)
theorem dgX12_passes_2 : ∀ r ∈ ([(134, (.iconst 3, 1)), (135, (.iload_n 2, 1)), (136, (.imul, 1)), (137, (.iadd, 1)), (138, (.iconst 2, 1)), (139, (.iadd, 1)), (140, (.iaload, 1)), (141, (.iconst 0, 1)), (142, (.iconst 0, 1)), (143, (.invokevirtual 390, 3)), (146, (.ireturn, 1)), (147, (.iinc 2 1, 3)), (150, (.goto (-80), 3)), (153, (.iconst 1, 1)), (154, (.ireturn, 1))] : List (Nat × (Instr × Nat))), decode cX12_passes r.1 = .ok r.2 := by decide +kernel
theorem dX12_passes_134 : decode cX12_passes 134 = .ok (.iconst 3, 1) := dgX12_passes_2 (134, (.iconst 3, 1)) (List.mem_of_getElem? (i := 0) rfl)
theorem dX12_passes_135 : decode cX12_passes 135 = .ok (.iload_n 2, 1) := dgX12_passes_2 (135, (.iload_n 2, 1)) (List.mem_of_getElem? (i := 1) rfl)
theorem dX12_passes_136 : decode cX12_passes 136 = .ok (.imul, 1) := dgX12_passes_2 (136, (.imul, 1)) (List.mem_of_getElem? (i := 2) rfl)
theorem dX12_passes_137 : decode cX12_passes 137 = .ok (.iadd, 1) := dgX12_passes_2 (137, (.iadd, 1)) (List.mem_of_getElem? (i := 3) rfl)
theorem dX12_passes_138 : decode cX12_passes 138 = .ok (.iconst 2, 1) := dgX12_passes_2 (138, (.iconst 2, 1)) (List.mem_of_getElem? (i := 4) rfl)
theorem dX12_passes_139 : decode cX12_passes 139 = .ok (.iadd, 1) := dgX12_passes_2 (139, (.iadd, 1)) (List.mem_of_getElem? (i := 5) rfl)
theorem dX12_passes_140 : decode cX12_passes 140 = .ok (.iaload, 1) := dgX12_passes_2 (140, (.iaload, 1)) (List.mem_of_getElem? (i := 6) rfl)
theorem dX12_passes_141 : decode cX12_passes 141 = .ok (.iconst 0, 1) := dgX12_passes_2 (141, (.iconst 0, 1)) (List.mem_of_getElem? (i := 7) rfl)
theorem dX12_passes_142 : decode cX12_passes 142 = .ok (.iconst 0, 1) := dgX12_passes_2 (142, (.iconst 0, 1)) (List.mem_of_getElem? (i := 8) rfl)
theorem dX12_passes_143 : decode cX12_passes 143 = .ok (.invokevirtual 390, 3) := dgX12_passes_2 (143, (.invokevirtual 390, 3)) (List.mem_of_getElem? (i := 9) rfl)
theorem dX12_passes_146 : decode cX12_passes 146 = .ok (.ireturn, 1) := dgX12_passes_2 (146, (.ireturn, 1)) (List.mem_of_getElem? (i := 10) rfl)
theorem dX12_passes_147 : decode cX12_passes 147 = .ok (.iinc 2 1, 3) := dgX12_passes_2 (147, (.iinc 2 1, 3)) (List.mem_of_getElem? (i := 11) rfl)
theorem dX12_passes_150 : decode cX12_passes 150 = .ok (.goto (-80), 3) := dgX12_passes_2 (150, (.goto (-80), 3)) (List.mem_of_getElem? (i := 12) rfl)
theorem dX12_passes_153 : decode cX12_passes 153 = .ok (.iconst 1, 1) := dgX12_passes_2 (153, (.iconst 1, 1)) (List.mem_of_getElem? (i := 13) rfl)
theorem dX12_passes_154 : decode cX12_passes 154 = .ok (.ireturn, 1) := dgX12_passes_2 (154, (.ireturn, 1)) (List.mem_of_getElem? (i := 14) rfl)
theorem ml_X12_387 : Cond.methodLink RX12 387 yX12_is ∈ tblG := tg 1644 (by decide +kernel) (by decide +kernel)
theorem st_X12_is : Cond.static yX12_is ∈ tblG := tg 1645 (by decide +kernel) (by decide +kernel)
theorem cd_X12_is : Cond.code yX12_is cX12_is 2 (some .boolean) ∈ tblG := tg 1646 (by decide +kernel) (by decide +kernel)
theorem gW_X12_is : GoodIn tblG (wsG yX12_is cX12_is 2 (some .boolean)) := tgi cd_X12_is
theorem gS_X12_387 : GoodIn tblG (va_wsS RX12 387 yX12_is (wsG yX12_is cX12_is 2 (some .boolean))) := tgS ml_X12_387 st_X12_is ini_X12 gW_X12_is
theorem hs_X12_is : yX12_is.cls ≠ "java/lang/invoke/MethodHandle" ∧ yX12_is.cls ≠ "java/lang/invoke/VarHandle" ∧ (parseMethodDescriptor yX12_is.desc).map (fun d => d.parameters.length) = some 2 := by decide +kernel
theorem ml_X12_390 : Cond.methodLink RX12 390 yX12_turns ∈ tblG := tg 1647 (by decide +kernel) (by decide +kernel)
theorem im_X12_turns : Cond.instanceMethod yX12_turns ∈ tblG := tg 1649 (by decide +kernel) (by decide +kernel)
theorem se_X12_turns : Cond.selects RX12 yX12_turns yX12_turns ∈ tblG := tg 69 (by decide +kernel) (by decide +kernel)
theorem cd_X12_turns : Cond.code yX12_turns cX12_turns 8 (some .boolean) ∈ tblG := tg 1650 (by decide +kernel) (by decide +kernel)
theorem gW_X12_turns : GoodIn tblG (wsG yX12_turns cX12_turns 8 (some .boolean)) := tgi cd_X12_turns
theorem gV_X12_390 : GoodIn tblG (wsV RX12 390 RX12 yX12_turns (wsG yX12_turns cX12_turns 8 (some .boolean))) := tgV ml_X12_390 im_X12_turns se_X12_turns ini_X12 gW_X12_turns
theorem hv_X12_turns : yX12_turns.cls = RX12 ∧ yX12_turns.cls ≠ "java/lang/invoke/MethodHandle" ∧ yX12_turns.cls ≠ "java/lang/invoke/VarHandle" ∧ (parseMethodDescriptor yX12_turns.desc).map (fun d => d.parameters.length) = some 5 := by decide +kernel
