set_option maxHeartbeats 4000000 in
set_option maxRecDepth 100000 in
theorem n_hasBodyE (l : Launch) (G : g5_G) (b_o b_ro b_rf b_im b_ke b_tp b_nl b_op b_ar b_pi b_pa b_ws b_hw b_se b_re b_pt b_ip b_ah b_be b_me b_tr b_ld b_wn : Nat) (sz : Nat) (u_th : Int32) (u_sa : Int32) (u_fd : Int32) (u_td : Int32) (u_fr : Int32) (u_to : Int32) (u_so : Int32) (u_fa : Int32) (u_bd : Int32) (u_nc : Int32) (u_co : Int32) (u_le : Int32) (u_pd : Int32) (u_od : Int32) (u_la : Int32) (u_bk : Int32) (u_ce : Int32) (u_ho : Int32) (u_wy : Int32) (u_bt : Int32) (u_ps : Int32) (u_tg : Int32) (u_sn : Int32) (u_ic : Int32) (u_wd : Int32) (u_id : Int32) (p_1 : Int32) (u_wo : Int64) (u_va : Int64) (u_su : Int64) (u_st : Int64) (v_ro : Nat → Int32) (h_u_td : 0 ≤ u_td.toInt ∧ u_td.toInt ≤ 400) (h_u_fr : 0 ≤ u_fr.toInt ∧ u_fr.toInt ≤ 400) (h_u_to : 0 ≤ u_to.toInt ∧ u_to.toInt ≤ 400) (h_u_bd : 0 ≤ u_bd.toInt ∧ u_bd.toInt ≤ 1) (h_u_nc : 0 ≤ u_nc.toInt ∧ u_nc.toInt ≤ 12) (h_u_co : 0 ≤ u_co.toInt ∧ u_co.toInt ≤ 400) (h_u_pd : 0 ≤ u_pd.toInt ∧ u_pd.toInt ≤ 400) (h_u_la : 0 ≤ u_la.toInt ∧ u_la.toInt ≤ 4840) (h_u_bk : 0 ≤ u_bk.toInt ∧ u_bk.toInt ≤ 1) (h_u_ce : 0 ≤ u_ce.toInt ∧ u_ce.toInt ≤ 63) (h_u_ho : 0 ≤ u_ho.toInt ∧ u_ho.toInt ≤ 23) (h_u_wy : 0 ≤ u_wy.toInt ∧ u_wy.toInt ≤ 3) (h_u_bt : 0 ≤ u_bt.toInt ∧ u_bt.toInt ≤ 1000000) (h_u_ps : 0 ≤ u_ps.toInt ∧ u_ps.toInt ≤ 200) (h_u_ic : 0 ≤ u_ic.toInt ∧ u_ic.toInt ≤ 1) (h_u_id : 0 ≤ u_id.toInt ∧ u_id.toInt ≤ 1) (r_ro : MI v_ro) : Met l yX12_hasBody (wsG yX12_hasBody cX12_hasBody 4 (some .boolean)) ({ frames := 0, cells := 0, slots := 0, locals := 0 }) (va_Pc [.ref b_o, .int p_1] (g5_P G [(b_o, (oc12 u_th u_sa b_rf b_ro b_im b_ke u_fd b_tp u_td u_fr u_to u_so u_wo u_fa u_bd u_nc b_nl u_co b_op b_ar u_le b_pi b_pa u_pd u_od b_ws b_hw u_la b_se b_re u_bk u_va u_su u_ce u_ho u_wy u_bt u_ps b_pt u_tg u_sn b_ip u_ic b_ah b_be b_me u_wd b_tr b_ld u_st b_wn u_id)), (b_ro, (arI G 5740 v_ro))] sz)) (va_Qi (fun (r : Int32) (u : va_W) => (∃ (o_r : Int32), (0 ≤ o_r.toInt ∧ o_r.toInt ≤ 1) ∧ (bIff o_r.toInt (bAt v_ro p_1.toInt)) ∧ (r = o_r) ∧ (u = [(b_o, (oc12 u_th u_sa b_rf b_ro b_im b_ke u_fd b_tp u_td u_fr u_to u_so u_wo u_fa u_bd u_nc b_nl u_co b_op b_ar u_le b_pi b_pa u_pd u_od b_ws b_hw u_la b_se b_re u_bk u_va u_su u_ce u_ho u_wy u_bt u_ps b_pt u_tg u_sn b_ip u_ic b_ah b_be b_me u_wd b_tr b_ld u_st b_wn u_id)), (b_ro, (arI G 5740 v_ro))]))) (g5_B G (va_A [(b_o, (oc12 u_th u_sa b_rf b_ro b_im b_ke u_fd b_tp u_td u_fr u_to u_so u_wo u_fa u_bd u_nc b_nl u_co b_op b_ar u_le b_pi b_pa u_pd u_od b_ws b_hw u_la b_se b_re u_bk u_va u_su u_ce u_ho u_wy u_bt u_ps b_pt u_tg u_sn b_ip u_ic b_ah b_be b_me u_wd b_tr b_ld u_st b_wn u_id)), (b_ro, (arI G 5740 v_ro))] sz)) (va_A [(b_o, (oc12 u_th u_sa b_rf b_ro b_im b_ke u_fd b_tp u_td u_fr u_to u_so u_wo u_fa u_bd u_nc b_nl u_co b_op b_ar u_le b_pi b_pa u_pd u_od b_ws b_hw u_la b_se b_re u_bk u_va u_su u_ce u_ho u_wy u_bt u_ps b_pt u_tg u_sn b_ip u_ic b_ah b_be b_me u_wd b_tr b_ld u_st b_wn u_id)), (b_ro, (arI G 5740 v_ro))] sz)) 0 0 (va_A [(b_o, (oc12 u_th u_sa b_rf b_ro b_im b_ke u_fd b_tp u_td u_fr u_to u_so u_wo u_fa u_bd u_nc b_nl u_co b_op b_ar u_le b_pi b_pa u_pd u_od b_ws b_hw u_la b_se b_re u_bk u_va u_su u_ce u_ho u_wy u_bt u_ps b_pt u_tg u_sn b_ip u_ic b_ah b_be b_me u_wd b_tr b_ld u_st b_wn u_id)), (b_ro, (arI G 5740 v_ro))] sz) := by
  refine Met.ofW (cc := cX12_hasBody) (maxL := 4) (ret := (some .boolean)) (by decide) rfl ?_
  intro p e s m args below meth c s₁ B hml hv
  obtain ⟨rfl, hsz, hP, hK, hD0, hN, hT⟩ := hv
  have hx := B.exec
  have hb := B.bytes
  have hr := B.returns
  have hts : ∀ w ∈ tblG, w.before _ s = true := fun w h => atoms_spec (ws := (wsG yX12_hasBody cX12_hasBody 4 (some .boolean))) B.pre w (List.mem_cons_of_mem _ h)
  have hown : s.vm.findClass RX12 = some m.cls := findClass_of_methodNamed B.named
  have hlocks := B.notSynchronized
  subst hsz
  have hD := hD0.self (sz := s.heap.size)
  generalize hAe : va_A [(b_o, (oc12 u_th u_sa b_rf b_ro b_im b_ke u_fd b_tp u_td u_fr u_to u_so u_wo u_fa u_bd u_nc b_nl u_co b_op b_ar u_le b_pi b_pa u_pd u_od b_ws b_hw u_la b_se b_re u_bk u_va u_su u_ce u_ho u_wy u_bt u_ps b_pt u_tg u_sn b_ip u_ic b_ah b_be b_me u_wd b_tr b_ld u_st b_wn u_id)), (b_ro, (arI G 5740 v_ro))] s.heap.size = A at hD hT ⊢
  have hA : ∀ q : Nat, s.heap.size ≤ q → A q := fun q h => by rw [← hAe]; exact Or.inr h
  have hS : va_S A s.heap s.heap [] := va_S.rf
  have hP : va_P G.1 vwCl [(b_o, (oc12 u_th u_sa b_rf b_ro b_im b_ke u_fd b_tp u_td u_fr u_to u_so u_wo u_fa u_bd u_nc b_nl u_co b_op b_ar u_le b_pi b_pa u_pd u_od b_ws b_hw u_la b_se b_re u_bk u_va u_su u_ce u_ho u_wy u_bt u_ps b_pt u_tg u_sn b_ip u_ic b_ah b_be b_me u_wd b_tr b_ld u_st b_wn u_id)), (b_ro, (arI G 5740 v_ro))] s.heap := hP
  have hl := lv_entry ([.ref b_o, .int p_1]) (n := 4) (Nat.le_of_ble_eq_true rfl)
  rw [lg_entry_eq]
  generalize (lg_sl ([.ref b_o, .int p_1]) ++ List.replicate (4 - (lg_sl ([.ref b_o, .int p_1])).length) Slot.unset).toArray = ls at hl ⊢
  have hl : lv_has ls 4 [(0, .ref b_o), (1, .int p_1)] := hl
  refine lv_iconst (v := 0) hx hb dX12_hasBody_0 (by decide) ?_
  refine lv_istore_n (lv' := [(2, .int 0), (0, .ref b_o), (1, .int p_1)]) hx hb dX12_hasBody_1 rfl hl (by decide) rfl (fun ls hl => ?_)
  refine lv_iconst (v := 0) hx hb dX12_hasBody_2 (by decide) ?_
  refine lv_istore_n (lv' := [(3, .int 0), (2, .int 0), (0, .ref b_o), (1, .int p_1)]) hx hb dX12_hasBody_3 rfl hl (by decide) rfl (fun ls hl => ?_)
  refine g5_loop (α := (Int32) × (Int32)) (fun (q : (Int32) × (Int32)) (ls : Array Slot) (H : Heap) (locs : List Loc) => match q with | (k4_3, k4_2) => lv_has ls 4 [(2, .int k4_2), (3, .int k4_3), (0, .ref b_o), (1, .int p_1)] ∧ va_P G.1 vwCl [(b_o, (oc12 u_th u_sa b_rf b_ro b_im b_ke u_fd b_tp u_td u_fr u_to u_so u_wo u_fa u_bd u_nc b_nl u_co b_op b_ar u_le b_pi b_pa u_pd u_od b_ws b_hw u_la b_se b_re u_bk u_va u_su u_ce u_ho u_wy u_bt u_ps b_pt u_tg u_sn b_ip u_ic b_ah b_be b_me u_wd b_tr b_ld u_st b_wn u_id)), (b_ro, (arI G 5740 v_ro))] H ∧ va_D A [(b_o, (oc12 u_th u_sa b_rf b_ro b_im b_ke u_fd b_tp u_td u_fr u_to u_so u_wo u_fa u_bd u_nc b_nl u_co b_op b_ar u_le b_pi b_pa u_pd u_od b_ws b_hw u_la b_se b_re u_bk u_va u_su u_ce u_ho u_wy u_bt u_ps b_pt u_tg u_sn b_ip u_ic b_ah b_be b_me u_wd b_tr b_ld u_st b_wn u_id)), (b_ro, (arI G 5740 v_ro))] ∧ va_S A s.heap H locs ∧ (0 ≤ k4_3.toInt ∧ k4_3.toInt ≤ 120) ∧ (0 ≤ k4_2.toInt ∧ k4_2.toInt ≤ 1) ∧ (bIff k4_2.toInt (exB v_ro 110 1 k4_3.toInt p_1.toInt)) ∧ (k4_3.toInt ≤ 24 * (v_ro 1).toInt)) (fun (q : (Int32) × (Int32)) => match q with | (k4_3, k4_2) => Int.toNat (120 - k4_3.toInt)) (0, 0) ⟨lv_sub hl [1, 0, 2, 3] rfl, hP, hD, hS, ⟨by decide, by decide⟩, ⟨by decide, by decide⟩, exB_0 (by decide) (by decide), by have z := mi_1 r_ro; have z0 : (0 : Int32).toInt = 0 := (by decide); omega⟩ ?_
  rintro ⟨k4_3, k4_2⟩ ls H locs ⟨hl, hP, hD, hS, i_1, i_2, i_3, i_4⟩ ih_4_5
  have hl : lv_has ls 4 [(2, .int k4_2), (3, .int k4_3), (0, .ref b_o), (1, .int p_1)] := hl
  have i_1 : 0 ≤ k4_3.toInt ∧ k4_3.toInt ≤ 120 := i_1
  have i_2 : 0 ≤ k4_2.toInt ∧ k4_2.toInt ≤ 1 := i_2
  have i_3 : bIff k4_2.toInt (exB v_ro 110 1 k4_3.toInt p_1.toInt) := i_3
  have i_4 : k4_3.toInt ≤ 24 * (v_ro 1).toInt := i_4
  refine g5_rs [(b_o, (oc12 u_th u_sa b_rf b_ro b_im b_ke u_fd b_tp u_td u_fr u_to u_so u_wo u_fa u_bd u_nc b_nl u_co b_op b_ar u_le b_pi b_pa u_pd u_od b_ws b_hw u_la b_se b_re u_bk u_va u_su u_ce u_ho u_wy u_bt u_ps b_pt u_tg u_sn b_ip u_ic b_ah b_be b_me u_wd b_tr b_ld u_st b_wn u_id)), (b_ro, (arI G 5740 v_ro))] hP hD (fun hP hD => ?_)
  refine lv_iload_n hx hb dX12_hasBody_4 rfl (lv_at hl 1 rfl) ?_
  refine lv_bipush (v := 24) hx hb dX12_hasBody_5 (by decide) ?_
  refine lv_aload_n hx hb dX12_hasBody_7 rfl (lv_at hl 2 rfl) ?_
  refine va_get (D := G.1) (ci := 12) (v := .ref b_ro) (C := RX12) (T := TX12) (N := 52) hx hb hts inG_X12 hown hK hP 0 rfl rfl 3 (by decide) (hts _ fl_X12_13) (fun _ h9 => h9) rfl dX12_hasBody_8 ?_
  refine lv_iconst (v := 1) hx hb dX12_hasBody_11 (by decide) ?_
  refine va_iald hx hb hK hP 1 0 rfl rfl (i := 1) (by unfold vp_in; decide) dX12_hasBody_12 ?_
  refine g5_ti (v := (v_ro 1)) rfl ?_
  have hr_6 : 0 ≤ (v_ro 1).toInt ∧ (v_ro 1).toInt ≤ 5 := mi_1 r_ro
  refine lv_imul hx hb dX12_hasBody_13 ?_
  have t_7 : (24 * (v_ro 1)).toInt = 24 * (v_ro 1).toInt := g5_imul (a := 24) (b := (v_ro 1).toInt) (by decide) (by rfl) (by omega) (by omega)
  refine lv_icmp_ge (tgt := 46) hx hb dX12_hasBody_14 (by decide) (fun c_8 => ?_) (fun c_8 => ?_)
  ·
    have i_8 : k4_3.toInt ≥ (24 * (v_ro 1).toInt) := by have z := g5_ge (a := k4_3.toInt) (b := (24 * (v_ro 1)).toInt) (by rfl) (by rfl) c_8; omega
    refine lv_iload_n hx hb dX12_hasBody_46 rfl (lv_at hl 0 rfl) ?_
    exact W.zret (v := k4_2) hx hb hr (g_nb (by omega) (by omega)) (fun t ht hW => ⟨⟨k4_2, [(b_o, (oc12 u_th u_sa b_rf b_ro b_im b_ke u_fd b_tp u_td u_fr u_to u_so u_wo u_fa u_bd u_nc b_nl u_co b_op b_ar u_le b_pi b_pa u_pd u_od b_ws b_hw u_la b_se b_re u_bk u_va u_su u_ce u_ho u_wy u_bt u_ps b_pt u_tg u_sn b_ip u_ic b_ah b_be b_me u_wd b_tr b_ld u_st b_wn u_id)), (b_ro, (arI G 5740 v_ro))], rfl, ⟨k4_2, i_2, by have q := i_3; rw [show k4_3.toInt = 24 * (v_ro 1).toInt by omega] at q; exact bat_ex q, rfl, rfl⟩, by rw [ht]; exact hP.sub [0, 1] rfl, hD.sub [0, 1] (by decide) rfl⟩, hS.F ht⟩) hS.2.2 dX12_hasBody_47
  ·
    have i_8 : k4_3.toInt < (24 * (v_ro 1).toInt) := by have z := g5_geN (a := k4_3.toInt) (b := (24 * (v_ro 1)).toInt) (by rfl) (by rfl) c_8; omega
    refine lv_iload_n hx hb dX12_hasBody_17 rfl (lv_at hl 0 rfl) ?_
    refine lv_if_ne (tgt := 34) hx hb dX12_hasBody_18 (by decide) (fun c_9 => ?_) (fun c_9 => ?_)
    ·
      have n_9 : gNe (k4_2.toInt) (0) := by have z := g5_ne (a := k4_2.toInt) (b := 0) (by rfl) (by decide) c_9; unfold gNe; omega
      have i_9 : k4_2.toInt ≥ 1 := by have z := g5_ne (a := k4_2.toInt) (b := 0) (by rfl) (by decide) c_9; omega
      refine lv_iconst (v := 1) hx hb dX12_hasBody_34 (by decide) ?_
      refine lv_goto (tgt := 39) hx hb dX12_hasBody_35 (by decide) ?_
      refine lv_istore_n (lv' := [(2, .int 1), (3, .int k4_3), (0, .ref b_o), (1, .int p_1)]) hx hb dX12_hasBody_39 rfl hl (by decide) rfl (fun ls hl => ?_)
      refine lv_iinc (v := (k4_3 + 1)) (lv' := [(3, .int (k4_3 + 1)), (2, .int 1), (0, .ref b_o), (1, .int p_1)]) hx hb dX12_hasBody_40 hl (k := 1) rfl rfl (by decide) rfl (fun ls hl => ?_)
      have t_10 : (k4_3 + 1).toInt = k4_3.toInt + 1 := g5_iadd (a := k4_3.toInt) (b := 1) rfl (by decide) (by omega) (by omega)
      refine lv_goto (tgt := 4) hx hb dX12_hasBody_43 (by decide) ?_
      exact ih_4_5 ((k4_3 + 1), 1) ls H locs (show Int.toNat (120 - (k4_3 + 1).toInt) < Int.toNat (120 - k4_3.toInt) from g_up (show k4_3.toInt < (k4_3 + 1).toInt by omega) (show k4_3.toInt < 120 by omega)) ⟨lv_sub hl [1, 0, 2, 3] rfl, hP, hD, hS, ⟨by omega, by omega⟩, ⟨by decide, by decide⟩, exB_k i_3 (by omega) (by decide) (by omega), by omega⟩
    ·
      have i_9 : k4_2.toInt = 0 := by have z := g5_neN (a := k4_2.toInt) (b := 0) (by rfl) (by decide) c_9; omega
      refine lv_aload_n hx hb dX12_hasBody_21 rfl (lv_at hl 2 rfl) ?_
      refine va_get (D := G.1) (ci := 12) (v := .ref b_ro) (C := RX12) (T := TX12) (N := 52) hx hb hts inG_X12 hown hK hP 0 rfl rfl 3 (by decide) (hts _ fl_X12_13) (fun _ h9 => h9) rfl dX12_hasBody_22 ?_
      refine lv_bipush (v := 110) hx hb dX12_hasBody_25 (by decide) ?_
      refine lv_iload_n hx hb dX12_hasBody_27 rfl (lv_at hl 1 rfl) ?_
      refine lv_iadd hx hb dX12_hasBody_28 ?_
      have t_11 : (110 + k4_3).toInt = 110 + k4_3.toInt := g5_iadd (a := 110) (b := k4_3.toInt) (by decide) (by rfl) (by omega) (by omega)
      refine va_iald hx hb hK hP 1 0 rfl rfl (i := (110 + k4_3)) (vp_in_iff.mpr ⟨by omega, by omega⟩) dX12_hasBody_29 ?_
      refine lv_iload_n hx hb dX12_hasBody_30 rfl (lv_at hl 3 rfl) ?_
      refine lv_icmp_ne (tgt := 38) hx hb dX12_hasBody_31 (by decide) (fun c_12 => ?_) (fun c_12 => ?_)
      ·
        have n_12 : gNe ((v_ro (110 + k4_3).toNatClampNeg).toInt) (p_1.toInt) := by have z := g5_ne (a := (v_ro (110 + k4_3).toNatClampNeg).toInt) (b := p_1.toInt) (by rfl) (by rfl) c_12; unfold gNe; omega
        refine lv_iconst (v := 0) hx hb dX12_hasBody_38 (by decide) ?_
        refine lv_istore_n (lv' := [(2, .int 0), (3, .int k4_3), (0, .ref b_o), (1, .int p_1)]) hx hb dX12_hasBody_39 rfl hl (by decide) rfl (fun ls hl => ?_)
        refine lv_iinc (v := (k4_3 + 1)) (lv' := [(3, .int (k4_3 + 1)), (2, .int 0), (0, .ref b_o), (1, .int p_1)]) hx hb dX12_hasBody_40 hl (k := 1) rfl rfl (by decide) rfl (fun ls hl => ?_)
        have t_13 : (k4_3 + 1).toInt = k4_3.toInt + 1 := g5_iadd (a := k4_3.toInt) (b := 1) rfl (by decide) (by omega) (by omega)
        refine lv_goto (tgt := 4) hx hb dX12_hasBody_43 (by decide) ?_
        exact ih_4_5 ((k4_3 + 1), 0) ls H locs (show Int.toNat (120 - (k4_3 + 1).toInt) < Int.toNat (120 - k4_3.toInt) from g_up (show k4_3.toInt < (k4_3 + 1).toInt by omega) (show k4_3.toInt < 120 by omega)) ⟨lv_sub hl [1, 0, 2, 3] rfl, hP, hD, hS, ⟨by omega, by omega⟩, ⟨by decide, by decide⟩, exB_n i_3 (by omega) (by decide) (by omega) k4_3.toInt.toNat (by omega) (by rw [show 110 + 1 * k4_3.toInt.toNat = (110 + k4_3).toNatClampNeg by have zz := g5_clamp (110 + k4_3); omega]; exact n_12), by omega⟩
      ·
        have i_12 : (v_ro (110 + k4_3).toNatClampNeg).toInt = p_1.toInt := by have z := g5_neN (a := (v_ro (110 + k4_3).toNatClampNeg).toInt) (b := p_1.toInt) (by rfl) (by rfl) c_12; omega
        refine lv_iconst (v := 1) hx hb dX12_hasBody_34 (by decide) ?_
        refine lv_goto (tgt := 39) hx hb dX12_hasBody_35 (by decide) ?_
        refine lv_istore_n (lv' := [(2, .int 1), (3, .int k4_3), (0, .ref b_o), (1, .int p_1)]) hx hb dX12_hasBody_39 rfl hl (by decide) rfl (fun ls hl => ?_)
        refine lv_iinc (v := (k4_3 + 1)) (lv' := [(3, .int (k4_3 + 1)), (2, .int 1), (0, .ref b_o), (1, .int p_1)]) hx hb dX12_hasBody_40 hl (k := 1) rfl rfl (by decide) rfl (fun ls hl => ?_)
        have t_14 : (k4_3 + 1).toInt = k4_3.toInt + 1 := g5_iadd (a := k4_3.toInt) (b := 1) rfl (by decide) (by omega) (by omega)
        refine lv_goto (tgt := 4) hx hb dX12_hasBody_43 (by decide) ?_
        exact ih_4_5 ((k4_3 + 1), 1) ls H locs (show Int.toNat (120 - (k4_3 + 1).toInt) < Int.toNat (120 - k4_3.toInt) from g_up (show k4_3.toInt < (k4_3 + 1).toInt by omega) (show k4_3.toInt < 120 by omega)) ⟨lv_sub hl [1, 0, 2, 3] rfl, hP, hD, hS, ⟨by omega, by omega⟩, ⟨by decide, by decide⟩, exB_y (by decide) k4_3.toInt.toNat (by omega) (by rw [show 110 + 1 * k4_3.toInt.toNat = (110 + k4_3).toNatClampNeg by have zz := g5_clamp (110 + k4_3); omega]; omega), by omega⟩
set_option maxHeartbeats 4000000 in
set_option maxRecDepth 100000 in
theorem n_canHangE (l : Launch) (G : g5_G) (b_o b_ro b_rf b_im b_ke b_tp b_nl b_op b_ar b_pi b_pa b_ws b_hw b_se b_re b_pt b_ip b_ah b_be b_me b_tr b_ld b_wn : Nat) (sz : Nat) (u_th : Int32) (u_sa : Int32) (u_fd : Int32) (u_td : Int32) (u_fr : Int32) (u_to : Int32) (u_so : Int32) (u_fa : Int32) (u_bd : Int32) (u_nc : Int32) (u_co : Int32) (u_le : Int32) (u_pd : Int32) (u_od : Int32) (u_la : Int32) (u_bk : Int32) (u_ce : Int32) (u_ho : Int32) (u_wy : Int32) (u_bt : Int32) (u_ps : Int32) (u_tg : Int32) (u_sn : Int32) (u_ic : Int32) (u_wd : Int32) (u_id : Int32) (p_1 : Int32) (u_wo : Int64) (u_va : Int64) (u_su : Int64) (u_st : Int64) (v_ro : Nat → Int32) (h_u_td : 0 ≤ u_td.toInt ∧ u_td.toInt ≤ 400) (h_u_fr : 0 ≤ u_fr.toInt ∧ u_fr.toInt ≤ 400) (h_u_to : 0 ≤ u_to.toInt ∧ u_to.toInt ≤ 400) (h_u_bd : 0 ≤ u_bd.toInt ∧ u_bd.toInt ≤ 1) (h_u_nc : 0 ≤ u_nc.toInt ∧ u_nc.toInt ≤ 12) (h_u_co : 0 ≤ u_co.toInt ∧ u_co.toInt ≤ 400) (h_u_pd : 0 ≤ u_pd.toInt ∧ u_pd.toInt ≤ 400) (h_u_la : 0 ≤ u_la.toInt ∧ u_la.toInt ≤ 4840) (h_u_bk : 0 ≤ u_bk.toInt ∧ u_bk.toInt ≤ 1) (h_u_ce : 0 ≤ u_ce.toInt ∧ u_ce.toInt ≤ 63) (h_u_ho : 0 ≤ u_ho.toInt ∧ u_ho.toInt ≤ 23) (h_u_wy : 0 ≤ u_wy.toInt ∧ u_wy.toInt ≤ 3) (h_u_bt : 0 ≤ u_bt.toInt ∧ u_bt.toInt ≤ 1000000) (h_u_ps : 0 ≤ u_ps.toInt ∧ u_ps.toInt ≤ 200) (h_u_ic : 0 ≤ u_ic.toInt ∧ u_ic.toInt ≤ 1) (h_u_id : 0 ≤ u_id.toInt ∧ u_id.toInt ≤ 1) (h_p_1 : 0 ≤ p_1.toInt ∧ p_1.toInt ≤ 63) (r_ro : MI v_ro) : Met l yX12_canHang (wsG yX12_canHang cX12_canHang 2 (some .boolean)) ({ frames := 2, cells := 0, slots := 0, locals := 45 }) (va_Pc [.ref b_o, .int p_1] (g5_P G [(b_o, (oc12 u_th u_sa b_rf b_ro b_im b_ke u_fd b_tp u_td u_fr u_to u_so u_wo u_fa u_bd u_nc b_nl u_co b_op b_ar u_le b_pi b_pa u_pd u_od b_ws b_hw u_la b_se b_re u_bk u_va u_su u_ce u_ho u_wy u_bt u_ps b_pt u_tg u_sn b_ip u_ic b_ah b_be b_me u_wd b_tr b_ld u_st b_wn u_id)), (b_ro, (arI G 5740 v_ro))] sz)) (va_Qi (fun (r : Int32) (u : va_W) => ((canR v_ro p_1.toInt) ∧ (r = 1) ∧ (u = [(b_o, (oc12 u_th u_sa b_rf b_ro b_im b_ke u_fd b_tp u_td u_fr u_to u_so u_wo u_fa u_bd u_nc b_nl u_co b_op b_ar u_le b_pi b_pa u_pd u_od b_ws b_hw u_la b_se b_re u_bk u_va u_su u_ce u_ho u_wy u_bt u_ps b_pt u_tg u_sn b_ip u_ic b_ah b_be b_me u_wd b_tr b_ld u_st b_wn u_id)), (b_ro, (arI G 5740 v_ro))])) ∨ ((¬ canR v_ro p_1.toInt) ∧ (r = 0) ∧ (u = [(b_o, (oc12 u_th u_sa b_rf b_ro b_im b_ke u_fd b_tp u_td u_fr u_to u_so u_wo u_fa u_bd u_nc b_nl u_co b_op b_ar u_le b_pi b_pa u_pd u_od b_ws b_hw u_la b_se b_re u_bk u_va u_su u_ce u_ho u_wy u_bt u_ps b_pt u_tg u_sn b_ip u_ic b_ah b_be b_me u_wd b_tr b_ld u_st b_wn u_id)), (b_ro, (arI G 5740 v_ro))]))) (g5_B G (va_A [(b_o, (oc12 u_th u_sa b_rf b_ro b_im b_ke u_fd b_tp u_td u_fr u_to u_so u_wo u_fa u_bd u_nc b_nl u_co b_op b_ar u_le b_pi b_pa u_pd u_od b_ws b_hw u_la b_se b_re u_bk u_va u_su u_ce u_ho u_wy u_bt u_ps b_pt u_tg u_sn b_ip u_ic b_ah b_be b_me u_wd b_tr b_ld u_st b_wn u_id)), (b_ro, (arI G 5740 v_ro))] sz)) (va_A [(b_o, (oc12 u_th u_sa b_rf b_ro b_im b_ke u_fd b_tp u_td u_fr u_to u_so u_wo u_fa u_bd u_nc b_nl u_co b_op b_ar u_le b_pi b_pa u_pd u_od b_ws b_hw u_la b_se b_re u_bk u_va u_su u_ce u_ho u_wy u_bt u_ps b_pt u_tg u_sn b_ip u_ic b_ah b_be b_me u_wd b_tr b_ld u_st b_wn u_id)), (b_ro, (arI G 5740 v_ro))] sz)) 0 0 (va_A [(b_o, (oc12 u_th u_sa b_rf b_ro b_im b_ke u_fd b_tp u_td u_fr u_to u_so u_wo u_fa u_bd u_nc b_nl u_co b_op b_ar u_le b_pi b_pa u_pd u_od b_ws b_hw u_la b_se b_re u_bk u_va u_su u_ce u_ho u_wy u_bt u_ps b_pt u_tg u_sn b_ip u_ic b_ah b_be b_me u_wd b_tr b_ld u_st b_wn u_id)), (b_ro, (arI G 5740 v_ro))] sz) := by
  refine Met.ofW (cc := cX12_canHang) (maxL := 2) (ret := (some .boolean)) (by decide) rfl ?_
  intro p e s m args below meth c s₁ B hml hv
  obtain ⟨rfl, hsz, hP, hK, hD0, hN, hT⟩ := hv
  have hx := B.exec
  have hb := B.bytes
  have hr := B.returns
  have hts : ∀ w ∈ tblG, w.before _ s = true := fun w h => atoms_spec (ws := (wsG yX12_canHang cX12_canHang 2 (some .boolean))) B.pre w (List.mem_cons_of_mem _ h)
  have hown : s.vm.findClass RX12 = some m.cls := findClass_of_methodNamed B.named
  have hlocks := B.notSynchronized
  subst hsz
  have hD := hD0.self (sz := s.heap.size)
  generalize hAe : va_A [(b_o, (oc12 u_th u_sa b_rf b_ro b_im b_ke u_fd b_tp u_td u_fr u_to u_so u_wo u_fa u_bd u_nc b_nl u_co b_op b_ar u_le b_pi b_pa u_pd u_od b_ws b_hw u_la b_se b_re u_bk u_va u_su u_ce u_ho u_wy u_bt u_ps b_pt u_tg u_sn b_ip u_ic b_ah b_be b_me u_wd b_tr b_ld u_st b_wn u_id)), (b_ro, (arI G 5740 v_ro))] s.heap.size = A at hD hT ⊢
  have hA : ∀ q : Nat, s.heap.size ≤ q → A q := fun q h => by rw [← hAe]; exact Or.inr h
  have hS : va_S A s.heap s.heap [] := va_S.rf
  have hP : va_P G.1 vwCl [(b_o, (oc12 u_th u_sa b_rf b_ro b_im b_ke u_fd b_tp u_td u_fr u_to u_so u_wo u_fa u_bd u_nc b_nl u_co b_op b_ar u_le b_pi b_pa u_pd u_od b_ws b_hw u_la b_se b_re u_bk u_va u_su u_ce u_ho u_wy u_bt u_ps b_pt u_tg u_sn b_ip u_ic b_ah b_be b_me u_wd b_tr b_ld u_st b_wn u_id)), (b_ro, (arI G 5740 v_ro))] s.heap := hP
  have hl := lv_entry ([.ref b_o, .int p_1]) (n := 2) (Nat.le_of_ble_eq_true rfl)
  rw [lg_entry_eq]
  generalize (lg_sl ([.ref b_o, .int p_1]) ++ List.replicate (2 - (lg_sl ([.ref b_o, .int p_1])).length) Slot.unset).toArray = ls at hl ⊢
  have hl : lv_has ls 2 [(0, .ref b_o), (1, .int p_1)] := hl
  refine lv_aload_n hx hb dX12_canHang_0 rfl (lv_at hl 0 rfl) ?_
  refine lv_iload_n hx hb dX12_canHang_1 rfl (lv_at hl 1 rfl) ?_
  obtain ⟨hPc, hDc, hFc⟩ := g5_sub3 (wc := [(b_o, (oc12 u_th u_sa b_rf b_ro b_im b_ke u_fd b_tp u_td u_fr u_to u_so u_wo u_fa u_bd u_nc b_nl u_co b_op b_ar u_le b_pi b_pa u_pd u_od b_ws b_hw u_la b_se b_re u_bk u_va u_su u_ce u_ho u_wy u_bt u_ps b_pt u_tg u_sn b_ip u_ic b_ah b_be b_me u_wd b_tr b_ld u_st b_wn u_id)), (b_ro, (arI G 5740 v_ro))]) hP hD hS hA [0, 1] (by decide) rfl
  refine va_calli (va_runV (As := [.int p_1]) (rest := []) ⟨hx, hb, hml, hown, hts⟩ (n_isWallE l G b_o b_ro b_rf b_im b_ke b_tp b_nl b_op b_ar b_pi b_pa b_ws b_hw b_se b_re b_pt b_ip b_ah b_be b_me b_tr b_ld b_wn s.heap.size u_th u_sa u_fd u_td u_fr u_to u_so u_fa u_bd u_nc u_co u_le u_pd u_od u_la u_bk u_ce u_ho u_wy u_bt u_ps u_tg u_sn u_ic u_wd u_id p_1 u_wo u_va u_su u_st v_ro h_u_td h_u_fr h_u_to h_u_bd h_u_nc h_u_co h_u_pd h_u_la h_u_bk h_u_ce h_u_ho h_u_wy h_u_bt h_u_ps h_u_ic h_u_id h_p_1 (r_ro)) (cwV 1 hts gV_X12_160 rfl rfl rfl hv_X12_isWall ⟨Nat.le_of_ble_eq_true rfl, Nat.le_of_ble_eq_true rfl⟩) (g5_preV hPc hK hDc hN hT hS hFc (ci := 12) (q0 := 0) rfl rfl) rfl rfl hl.1 rfl (lv_room (Nat.le_of_ble_eq_true rfl)) dX12_canHang_2 ⟨Nat.le_of_ble_eq_true rfl, Nat.le_of_ble_eq_true rfl⟩) hS (fun q _ h => hFc q h) hFc (fun r u t H1 locs ht hvm hw hB hz1 hk1 hS => ?_)
  obtain ⟨hP1, hD1⟩ := hB
  rw [ht] at hP1
  rcases hw with ⟨i_1, rfl, rfl⟩ | ⟨i_2, rfl, rfl⟩
  ·
    have i_1 : wallAt v_ro p_1.toInt := i_1
    obtain ⟨hP, hD⟩ := va_join (wr := []) hP hD [0, 1] [] rfl rfl (by decide) (by decide) hk1 hFc hP1 hD1
    generalize H1 = H at hP hS ⊢
    refine g5_rs [(b_o, (oc12 u_th u_sa b_rf b_ro b_im b_ke u_fd b_tp u_td u_fr u_to u_so u_wo u_fa u_bd u_nc b_nl u_co b_op b_ar u_le b_pi b_pa u_pd u_od b_ws b_hw u_la b_se b_re u_bk u_va u_su u_ce u_ho u_wy u_bt u_ps b_pt u_tg u_sn b_ip u_ic b_ah b_be b_me u_wd b_tr b_ld u_st b_wn u_id)), (b_ro, (arI G 5740 v_ro))] hP hD (fun hP hD => ?_)
    refine lv_if_ne (tgt := 28) hx hb dX12_canHang_5 (by decide) (fun c_3 => ?_) (fun c_3 => ?_)
    ·
      refine lv_iconst (v := 0) hx hb dX12_canHang_28 (by decide) ?_
      exact W.zret (v := 0) hx hb hr rfl (fun t ht hW => ⟨⟨0, [(b_o, (oc12 u_th u_sa b_rf b_ro b_im b_ke u_fd b_tp u_td u_fr u_to u_so u_wo u_fa u_bd u_nc b_nl u_co b_op b_ar u_le b_pi b_pa u_pd u_od b_ws b_hw u_la b_se b_re u_bk u_va u_su u_ce u_ho u_wy u_bt u_ps b_pt u_tg u_sn b_ip u_ic b_ah b_be b_me u_wd b_tr b_ld u_st b_wn u_id)), (b_ro, (arI G 5740 v_ro))], rfl, Or.inr (⟨can_w i_1, rfl, rfl⟩), by rw [ht]; exact hP.sub [0, 1] rfl, hD.sub [0, 1] (by decide) rfl⟩, hS.F ht⟩) hS.2.2 dX12_canHang_29
    ·
      exact absurd c_3 (by decide)
  ·
    have i_2 : ¬ wallAt v_ro p_1.toInt := i_2
    obtain ⟨hP, hD⟩ := va_join (wr := []) hP hD [0, 1] [] rfl rfl (by decide) (by decide) hk1 hFc hP1 hD1
    generalize H1 = H at hP hS ⊢
    refine g5_rs [(b_o, (oc12 u_th u_sa b_rf b_ro b_im b_ke u_fd b_tp u_td u_fr u_to u_so u_wo u_fa u_bd u_nc b_nl u_co b_op b_ar u_le b_pi b_pa u_pd u_od b_ws b_hw u_la b_se b_re u_bk u_va u_su u_ce u_ho u_wy u_bt u_ps b_pt u_tg u_sn b_ip u_ic b_ah b_be b_me u_wd b_tr b_ld u_st b_wn u_id)), (b_ro, (arI G 5740 v_ro))] hP hD (fun hP hD => ?_)
    refine lv_if_ne (tgt := 28) hx hb dX12_canHang_5 (by decide) (fun c_4 => ?_) (fun c_4 => ?_)
    ·
      exact absurd c_4 (by decide)
    ·
      refine lv_aload_n hx hb dX12_canHang_8 rfl (lv_at hl 0 rfl) ?_
      refine lv_iload_n hx hb dX12_canHang_9 rfl (lv_at hl 1 rfl) ?_
      obtain ⟨hPc, hDc, hFc⟩ := g5_sub3 (wc := [(b_o, (oc12 u_th u_sa b_rf b_ro b_im b_ke u_fd b_tp u_td u_fr u_to u_so u_wo u_fa u_bd u_nc b_nl u_co b_op b_ar u_le b_pi b_pa u_pd u_od b_ws b_hw u_la b_se b_re u_bk u_va u_su u_ce u_ho u_wy u_bt u_ps b_pt u_tg u_sn b_ip u_ic b_ah b_be b_me u_wd b_tr b_ld u_st b_wn u_id)), (b_ro, (arI G 5740 v_ro))]) hP hD hS hA [0, 1] (by decide) rfl
      refine va_calli (va_runV (As := [.int p_1]) (rest := []) ⟨hx, hb, hml, hown, hts⟩ (n_hasGlassE l G b_o b_ro b_rf b_im b_ke b_tp b_nl b_op b_ar b_pi b_pa b_ws b_hw b_se b_re b_pt b_ip b_ah b_be b_me b_tr b_ld b_wn H.size u_th u_sa u_fd u_td u_fr u_to u_so u_fa u_bd u_nc u_co u_le u_pd u_od u_la u_bk u_ce u_ho u_wy u_bt u_ps u_tg u_sn u_ic u_wd u_id p_1 u_wo u_va u_su u_st v_ro h_u_td h_u_fr h_u_to h_u_bd h_u_nc h_u_co h_u_pd h_u_la h_u_bk h_u_ce h_u_ho h_u_wy h_u_bt h_u_ps h_u_ic h_u_id (r_ro)) (cwV 1 hts gV_X12_142 rfl rfl rfl hv_X12_hasGlass ⟨Nat.le_of_ble_eq_true rfl, Nat.le_of_ble_eq_true rfl⟩) (g5_preV hPc hK hDc hN hT hS hFc (ci := 12) (q0 := 0) rfl rfl) rfl rfl hl.1 rfl (lv_room (Nat.le_of_ble_eq_true rfl)) dX12_canHang_10 ⟨Nat.le_of_ble_eq_true rfl, Nat.le_of_ble_eq_true rfl⟩) hS (fun q _ h => hFc q h) hFc (fun r u t H1 locs ht hvm hw hB hz1 hk1 hS => ?_)
      obtain ⟨hP1, hD1⟩ := hB
      rw [ht] at hP1
      obtain ⟨z7, i_5, i_6, y8, rfl⟩ := hw
      have i_5 : 0 ≤ z7.toInt ∧ z7.toInt ≤ 1 := i_5
      have i_6 : bIff z7.toInt (gAt v_ro p_1.toInt) := i_6
      obtain ⟨hP, hD⟩ := va_join (wr := []) hP hD [0, 1] [] rfl rfl (by decide) (by decide) hk1 hFc hP1 hD1
      generalize H1 = H at hP hS ⊢
      refine g5_rs [(b_o, (oc12 u_th u_sa b_rf b_ro b_im b_ke u_fd b_tp u_td u_fr u_to u_so u_wo u_fa u_bd u_nc b_nl u_co b_op b_ar u_le b_pi b_pa u_pd u_od b_ws b_hw u_la b_se b_re u_bk u_va u_su u_ce u_ho u_wy u_bt u_ps b_pt u_tg u_sn b_ip u_ic b_ah b_be b_me u_wd b_tr b_ld u_st b_wn u_id)), (b_ro, (arI G 5740 v_ro))] hP hD (fun hP hD => ?_)
      refine g5_ti (v := z7) y8 ?_
      refine lv_if_ne (tgt := 28) hx hb dX12_canHang_13 (by decide) (fun c_9 => ?_) (fun c_9 => ?_)
      ·
        have n_9 : gNe (z7.toInt) (0) := by have z := g5_ne (a := z7.toInt) (b := 0) (by rfl) (by decide) c_9; unfold gNe; omega
        have i_9 : z7.toInt ≥ 1 := by have z := g5_ne (a := z7.toInt) (b := 0) (by rfl) (by decide) c_9; omega
        refine lv_iconst (v := 0) hx hb dX12_canHang_28 (by decide) ?_
        exact W.zret (v := 0) hx hb hr rfl (fun t ht hW => ⟨⟨0, [(b_o, (oc12 u_th u_sa b_rf b_ro b_im b_ke u_fd b_tp u_td u_fr u_to u_so u_wo u_fa u_bd u_nc b_nl u_co b_op b_ar u_le b_pi b_pa u_pd u_od b_ws b_hw u_la b_se b_re u_bk u_va u_su u_ce u_ho u_wy u_bt u_ps b_pt u_tg u_sn b_ip u_ic b_ah b_be b_me u_wd b_tr b_ld u_st b_wn u_id)), (b_ro, (arI G 5740 v_ro))], rfl, Or.inr (⟨can_g (bI_y i_6 (by omega)), rfl, rfl⟩), by rw [ht]; exact hP.sub [0, 1] rfl, hD.sub [0, 1] (by decide) rfl⟩, hS.F ht⟩) hS.2.2 dX12_canHang_29
      ·
        have i_9 : z7.toInt = 0 := by have z := g5_neN (a := z7.toInt) (b := 0) (by rfl) (by decide) c_9; omega
        refine lv_aload_n hx hb dX12_canHang_16 rfl (lv_at hl 0 rfl) ?_
        refine lv_iload_n hx hb dX12_canHang_17 rfl (lv_at hl 1 rfl) ?_
        obtain ⟨hPc, hDc, hFc⟩ := g5_sub3 (wc := [(b_o, (oc12 u_th u_sa b_rf b_ro b_im b_ke u_fd b_tp u_td u_fr u_to u_so u_wo u_fa u_bd u_nc b_nl u_co b_op b_ar u_le b_pi b_pa u_pd u_od b_ws b_hw u_la b_se b_re u_bk u_va u_su u_ce u_ho u_wy u_bt u_ps b_pt u_tg u_sn b_ip u_ic b_ah b_be b_me u_wd b_tr b_ld u_st b_wn u_id)), (b_ro, (arI G 5740 v_ro))]) hP hD hS hA [0, 1] (by decide) rfl
        refine va_calli (va_runV (As := [.int p_1]) (rest := []) ⟨hx, hb, hml, hown, hts⟩ (n_hasSpotE l G b_o b_ro b_rf b_im b_ke b_tp b_nl b_op b_ar b_pi b_pa b_ws b_hw b_se b_re b_pt b_ip b_ah b_be b_me b_tr b_ld b_wn H.size u_th u_sa u_fd u_td u_fr u_to u_so u_fa u_bd u_nc u_co u_le u_pd u_od u_la u_bk u_ce u_ho u_wy u_bt u_ps u_tg u_sn u_ic u_wd u_id p_1 u_wo u_va u_su u_st v_ro h_u_td h_u_fr h_u_to h_u_bd h_u_nc h_u_co h_u_pd h_u_la h_u_bk h_u_ce h_u_ho h_u_wy h_u_bt h_u_ps h_u_ic h_u_id (r_ro)) (cwV 1 hts gV_X12_145 rfl rfl rfl hv_X12_hasSpot ⟨Nat.le_of_ble_eq_true rfl, Nat.le_of_ble_eq_true rfl⟩) (g5_preV hPc hK hDc hN hT hS hFc (ci := 12) (q0 := 0) rfl rfl) rfl rfl hl.1 rfl (lv_room (Nat.le_of_ble_eq_true rfl)) dX12_canHang_18 ⟨Nat.le_of_ble_eq_true rfl, Nat.le_of_ble_eq_true rfl⟩) hS (fun q _ h => hFc q h) hFc (fun r u t H1 locs ht hvm hw hB hz1 hk1 hS => ?_)
        obtain ⟨hP1, hD1⟩ := hB
        rw [ht] at hP1
        obtain ⟨z12, i_10, i_11, y13, rfl⟩ := hw
        have i_10 : 0 ≤ z12.toInt ∧ z12.toInt ≤ 1 := i_10
        have i_11 : bIff z12.toInt (sAt v_ro p_1.toInt) := i_11
        obtain ⟨hP, hD⟩ := va_join (wr := []) hP hD [0, 1] [] rfl rfl (by decide) (by decide) hk1 hFc hP1 hD1
        generalize H1 = H at hP hS ⊢
        refine g5_rs [(b_o, (oc12 u_th u_sa b_rf b_ro b_im b_ke u_fd b_tp u_td u_fr u_to u_so u_wo u_fa u_bd u_nc b_nl u_co b_op b_ar u_le b_pi b_pa u_pd u_od b_ws b_hw u_la b_se b_re u_bk u_va u_su u_ce u_ho u_wy u_bt u_ps b_pt u_tg u_sn b_ip u_ic b_ah b_be b_me u_wd b_tr b_ld u_st b_wn u_id)), (b_ro, (arI G 5740 v_ro))] hP hD (fun hP hD => ?_)
        refine g5_ti (v := z12) y13 ?_
        refine lv_if_ne (tgt := 28) hx hb dX12_canHang_21 (by decide) (fun c_14 => ?_) (fun c_14 => ?_)
        ·
          have n_14 : gNe (z12.toInt) (0) := by have z := g5_ne (a := z12.toInt) (b := 0) (by rfl) (by decide) c_14; unfold gNe; omega
          have i_14 : z12.toInt ≥ 1 := by have z := g5_ne (a := z12.toInt) (b := 0) (by rfl) (by decide) c_14; omega
          refine lv_iconst (v := 0) hx hb dX12_canHang_28 (by decide) ?_
          exact W.zret (v := 0) hx hb hr rfl (fun t ht hW => ⟨⟨0, [(b_o, (oc12 u_th u_sa b_rf b_ro b_im b_ke u_fd b_tp u_td u_fr u_to u_so u_wo u_fa u_bd u_nc b_nl u_co b_op b_ar u_le b_pi b_pa u_pd u_od b_ws b_hw u_la b_se b_re u_bk u_va u_su u_ce u_ho u_wy u_bt u_ps b_pt u_tg u_sn b_ip u_ic b_ah b_be b_me u_wd b_tr b_ld u_st b_wn u_id)), (b_ro, (arI G 5740 v_ro))], rfl, Or.inr (⟨can_s (bI_y i_11 (by omega)), rfl, rfl⟩), by rw [ht]; exact hP.sub [0, 1] rfl, hD.sub [0, 1] (by decide) rfl⟩, hS.F ht⟩) hS.2.2 dX12_canHang_29
        ·
          have i_14 : z12.toInt = 0 := by have z := g5_neN (a := z12.toInt) (b := 0) (by rfl) (by decide) c_14; omega
          refine lv_iconst (v := 1) hx hb dX12_canHang_24 (by decide) ?_
          refine lv_goto (tgt := 29) hx hb dX12_canHang_25 (by decide) ?_
          exact W.zret (v := 1) hx hb hr rfl (fun t ht hW => ⟨⟨1, [(b_o, (oc12 u_th u_sa b_rf b_ro b_im b_ke u_fd b_tp u_td u_fr u_to u_so u_wo u_fa u_bd u_nc b_nl u_co b_op b_ar u_le b_pi b_pa u_pd u_od b_ws b_hw u_la b_se b_re u_bk u_va u_su u_ce u_ho u_wy u_bt u_ps b_pt u_tg u_sn b_ip u_ic b_ah b_be b_me u_wd b_tr b_ld u_st b_wn u_id)), (b_ro, (arI G 5740 v_ro))], rfl, Or.inl (⟨can_y (by omega) i_2 (bI_n i_6 (by omega)) (bI_n i_11 (by omega)), rfl, rfl⟩), by rw [ht]; exact hP.sub [0, 1] rfl, hD.sub [0, 1] (by decide) rfl⟩, hS.F ht⟩) hS.2.2 dX12_canHang_29
set_option maxHeartbeats 4000000 in
set_option maxRecDepth 100000 in
theorem n_wallE (l : Launch) (G : g5_G) (b_o b_rf b_ro b_im b_ke b_tp b_nl b_op b_ar b_pi b_pa b_ws b_hw b_se b_re b_pt b_ip b_ah b_be b_me b_tr b_ld b_wn : Nat) (sz : Nat) (u_th : Int32) (u_sa : Int32) (u_fd : Int32) (u_td : Int32) (u_fr : Int32) (u_to : Int32) (u_so : Int32) (u_fa : Int32) (u_bd : Int32) (u_nc : Int32) (u_co : Int32) (u_le : Int32) (u_pd : Int32) (u_od : Int32) (u_la : Int32) (u_bk : Int32) (u_ce : Int32) (u_ho : Int32) (u_wy : Int32) (u_bt : Int32) (u_ps : Int32) (u_tg : Int32) (u_sn : Int32) (u_ic : Int32) (u_wd : Int32) (u_id : Int32) (p_1 : Int32) (p_2 : Int32) (u_wo : Int64) (u_va : Int64) (u_su : Int64) (u_st : Int64) (v_rf : Nat → Int32) (v_ro : Nat → Int32) (h_u_td : 0 ≤ u_td.toInt ∧ u_td.toInt ≤ 400) (h_u_fr : 0 ≤ u_fr.toInt ∧ u_fr.toInt ≤ 400) (h_u_to : 0 ≤ u_to.toInt ∧ u_to.toInt ≤ 400) (h_u_bd : 0 ≤ u_bd.toInt ∧ u_bd.toInt ≤ 1) (h_u_nc : 0 ≤ u_nc.toInt ∧ u_nc.toInt ≤ 12) (h_u_co : 0 ≤ u_co.toInt ∧ u_co.toInt ≤ 400) (h_u_pd : 0 ≤ u_pd.toInt ∧ u_pd.toInt ≤ 400) (h_u_la : 0 ≤ u_la.toInt ∧ u_la.toInt ≤ 4840) (h_u_bk : 0 ≤ u_bk.toInt ∧ u_bk.toInt ≤ 1) (h_u_ce : 0 ≤ u_ce.toInt ∧ u_ce.toInt ≤ 63) (h_u_ho : 0 ≤ u_ho.toInt ∧ u_ho.toInt ≤ 23) (h_u_wy : 0 ≤ u_wy.toInt ∧ u_wy.toInt ≤ 3) (h_u_bt : 0 ≤ u_bt.toInt ∧ u_bt.toInt ≤ 1000000) (h_u_ps : 0 ≤ u_ps.toInt ∧ u_ps.toInt ≤ 200) (h_u_ic : 0 ≤ u_ic.toInt ∧ u_ic.toInt ≤ 1) (h_u_id : 0 ≤ u_id.toInt ∧ u_id.toInt ≤ 1) (r_ro : MI v_ro) : Met l yX12_wall (wsG yX12_wall cX12_wall 3 (some .int)) ({ frames := 2, cells := 0, slots := 0, locals := 45 }) (va_Pc [.ref b_o, .int p_1, .int p_2] (g5_P G [(b_o, (oc12 u_th u_sa b_rf b_ro b_im b_ke u_fd b_tp u_td u_fr u_to u_so u_wo u_fa u_bd u_nc b_nl u_co b_op b_ar u_le b_pi b_pa u_pd u_od b_ws b_hw u_la b_se b_re u_bk u_va u_su u_ce u_ho u_wy u_bt u_ps b_pt u_tg u_sn b_ip u_ic b_ah b_be b_me u_wd b_tr b_ld u_st b_wn u_id)), (b_rf, (arI G 7 v_rf)), (b_ro, (arI G 5740 v_ro))] sz)) (va_Qi (fun (r : Int32) (u : va_W) => (∃ (o_r : Int32) (o_th : Int32) (o_sa : Int32) (o_ic : Int32) (o_rf : Nat → Int32) (o_ro : Nat → Int32), (MI o_ro) ∧ (0 ≤ o_ic.toInt ∧ o_ic.toInt ≤ 1) ∧ (o_ro = swall v_ro p_1 p_2) ∧ (r = o_r) ∧ (u = [(b_o, (oc12 o_th o_sa b_rf b_ro b_im b_ke u_fd b_tp u_td u_fr u_to u_so u_wo u_fa u_bd u_nc b_nl u_co b_op b_ar u_le b_pi b_pa u_pd u_od b_ws b_hw u_la b_se b_re u_bk u_va u_su u_ce u_ho u_wy u_bt u_ps b_pt u_tg u_sn b_ip o_ic b_ah b_be b_me u_wd b_tr b_ld u_st b_wn u_id)), (b_rf, (arI G 7 o_rf)), (b_ro, (arI G 5740 o_ro))]))) (g5_B G (va_A [(b_o, (oc12 u_th u_sa b_rf b_ro b_im b_ke u_fd b_tp u_td u_fr u_to u_so u_wo u_fa u_bd u_nc b_nl u_co b_op b_ar u_le b_pi b_pa u_pd u_od b_ws b_hw u_la b_se b_re u_bk u_va u_su u_ce u_ho u_wy u_bt u_ps b_pt u_tg u_sn b_ip u_ic b_ah b_be b_me u_wd b_tr b_ld u_st b_wn u_id)), (b_rf, (arI G 7 v_rf)), (b_ro, (arI G 5740 v_ro))] sz)) (va_A [(b_o, (oc12 u_th u_sa b_rf b_ro b_im b_ke u_fd b_tp u_td u_fr u_to u_so u_wo u_fa u_bd u_nc b_nl u_co b_op b_ar u_le b_pi b_pa u_pd u_od b_ws b_hw u_la b_se b_re u_bk u_va u_su u_ce u_ho u_wy u_bt u_ps b_pt u_tg u_sn b_ip u_ic b_ah b_be b_me u_wd b_tr b_ld u_st b_wn u_id)), (b_rf, (arI G 7 v_rf)), (b_ro, (arI G 5740 v_ro))] sz)) 0 0 (va_A [(b_o, (oc12 u_th u_sa b_rf b_ro b_im b_ke u_fd b_tp u_td u_fr u_to u_so u_wo u_fa u_bd u_nc b_nl u_co b_op b_ar u_le b_pi b_pa u_pd u_od b_ws b_hw u_la b_se b_re u_bk u_va u_su u_ce u_ho u_wy u_bt u_ps b_pt u_tg u_sn b_ip u_ic b_ah b_be b_me u_wd b_tr b_ld u_st b_wn u_id)), (b_rf, (arI G 7 v_rf)), (b_ro, (arI G 5740 v_ro))] sz) := by
  refine Met.ofW (cc := cX12_wall) (maxL := 3) (ret := (some .int)) (by decide) rfl ?_
  intro p e s m args below meth c s₁ B hml hv
  obtain ⟨rfl, hsz, hP, hK, hD0, hN, hT⟩ := hv
  have hx := B.exec
  have hb := B.bytes
  have hr := B.returns
  have hts : ∀ w ∈ tblG, w.before _ s = true := fun w h => atoms_spec (ws := (wsG yX12_wall cX12_wall 3 (some .int))) B.pre w (List.mem_cons_of_mem _ h)
  have hown : s.vm.findClass RX12 = some m.cls := findClass_of_methodNamed B.named
  have hlocks := B.notSynchronized
  subst hsz
  have hD := hD0.self (sz := s.heap.size)
  generalize hAe : va_A [(b_o, (oc12 u_th u_sa b_rf b_ro b_im b_ke u_fd b_tp u_td u_fr u_to u_so u_wo u_fa u_bd u_nc b_nl u_co b_op b_ar u_le b_pi b_pa u_pd u_od b_ws b_hw u_la b_se b_re u_bk u_va u_su u_ce u_ho u_wy u_bt u_ps b_pt u_tg u_sn b_ip u_ic b_ah b_be b_me u_wd b_tr b_ld u_st b_wn u_id)), (b_rf, (arI G 7 v_rf)), (b_ro, (arI G 5740 v_ro))] s.heap.size = A at hD hT ⊢
  have hA : ∀ q : Nat, s.heap.size ≤ q → A q := fun q h => by rw [← hAe]; exact Or.inr h
  have hS : va_S A s.heap s.heap [] := va_S.rf
  have hP : va_P G.1 vwCl [(b_o, (oc12 u_th u_sa b_rf b_ro b_im b_ke u_fd b_tp u_td u_fr u_to u_so u_wo u_fa u_bd u_nc b_nl u_co b_op b_ar u_le b_pi b_pa u_pd u_od b_ws b_hw u_la b_se b_re u_bk u_va u_su u_ce u_ho u_wy u_bt u_ps b_pt u_tg u_sn b_ip u_ic b_ah b_be b_me u_wd b_tr b_ld u_st b_wn u_id)), (b_rf, (arI G 7 v_rf)), (b_ro, (arI G 5740 v_ro))] s.heap := hP
  have hl := lv_entry ([.ref b_o, .int p_1, .int p_2]) (n := 3) (Nat.le_of_ble_eq_true rfl)
  rw [lg_entry_eq]
  generalize (lg_sl ([.ref b_o, .int p_1, .int p_2]) ++ List.replicate (3 - (lg_sl ([.ref b_o, .int p_1, .int p_2])).length) Slot.unset).toArray = ls at hl ⊢
  have hl : lv_has ls 3 [(0, .ref b_o), (1, .int p_1), (2, .int p_2)] := hl
  refine lv_aload_n hx hb dX12_wall_0 rfl (lv_at hl 0 rfl) ?_
  refine lv_iconst (v := 0) hx hb dX12_wall_1 (by decide) ?_
  refine va_put (D := G.1) (ci := 12) (v := .int 0) (ty := .int) (C := RX12) (T := TX12) (N := 52) hx hb hts inG_X12 tyX12 tyX12_ok nmX12 hown hK hP hD hS 0 rfl rfl 0 (by decide) (hts _ fl_X12_107) (fun _ h9 => h9) rfl (by decide +kernel) rfl rfl (Nat.le_of_ble_eq_true rfl) dX12_wall_2 (fun H locs hP hD hS => ?_)
  refine g5_rs [(b_o, (oc12 0 u_sa b_rf b_ro b_im b_ke u_fd b_tp u_td u_fr u_to u_so u_wo u_fa u_bd u_nc b_nl u_co b_op b_ar u_le b_pi b_pa u_pd u_od b_ws b_hw u_la b_se b_re u_bk u_va u_su u_ce u_ho u_wy u_bt u_ps b_pt u_tg u_sn b_ip u_ic b_ah b_be b_me u_wd b_tr b_ld u_st b_wn u_id)), (b_rf, (arI G 7 v_rf)), (b_ro, (arI G 5740 v_ro))] hP hD (fun hP hD => ?_)
  refine lv_iload_n hx hb dX12_wall_5 rfl (lv_at hl 1 rfl) ?_
  obtain ⟨hPc, hDc, hFc⟩ := g5_sub3 (wc := []) hP hD hS hA [] (by decide) rfl
  refine va_calli (va_runS (As := [.int p_1]) (rest := []) ⟨hx, hb, hml, hown, hts⟩ (n_isCellE l G H.size p_1) (va_cwS 1 hts gS_X12_138 rfl rfl rfl hs_X12_isCell ⟨Nat.le_of_ble_eq_true rfl, Nat.le_of_ble_eq_true rfl⟩) (g5_preS hPc hK hDc hN hT hS hFc) rfl rfl hl.1 rfl (lv_room (Nat.le_of_ble_eq_true rfl)) dX12_wall_6 ⟨Nat.le_of_ble_eq_true rfl, Nat.le_of_ble_eq_true rfl⟩) hS (fun q _ h => hFc q h) hFc (fun r u t H1 locs ht hvm hw hB hz1 hk1 hS => ?_)
  obtain ⟨hP1, hD1⟩ := hB
  rw [ht] at hP1
  rcases hw with ⟨i_1, rfl, rfl⟩ | ⟨i_2, rfl, rfl⟩
  ·
    have i_1 : 0 ≤ p_1.toInt ∧ p_1.toInt ≤ 63 := i_1
    have hP := g5_same hP hk1
    generalize H1 = H at hP hS ⊢
    refine lv_if_eq (tgt := 22) hx hb dX12_wall_9 (by decide) (fun c_3 => ?_) (fun c_3 => ?_)
    ·
      exact absurd c_3 (by decide)
    ·
      refine lv_iload_n hx hb dX12_wall_12 rfl (lv_at hl 2 rfl) ?_
      refine lv_i2l (v := p_2.toInt64) hx hb dX12_wall_13 rfl ?_
      refine lv_lconst (v := 0) hx hb dX12_wall_14 (by decide) ?_
      refine lv_lconst (v := 1) hx hb dX12_wall_15 (by decide) ?_
      obtain ⟨hPc, hDc, hFc⟩ := g5_sub3 (wc := []) hP hD hS hA [] (by decide) rfl
      refine va_calli (va_runS (As := [.long p_2.toInt64, .long 0, .long 1]) (rest := []) ⟨hx, hb, hml, hown, hts⟩ (n_in_0_1 l G H.size p_2) (va_cwS 3 hts gS_X12_121 rfl rfl rfl hs_X12_in ⟨Nat.le_of_ble_eq_true rfl, Nat.le_of_ble_eq_true rfl⟩) (g5_preS hPc hK hDc hN hT hS hFc) rfl rfl hl.1 rfl (lv_room (Nat.le_of_ble_eq_true rfl)) dX12_wall_16 ⟨Nat.le_of_ble_eq_true rfl, Nat.le_of_ble_eq_true rfl⟩) hS (fun q _ h => hFc q h) hFc (fun r u t H1 locs ht hvm hw hB hz1 hk1 hS => ?_)
      obtain ⟨hP1, hD1⟩ := hB
      rw [ht] at hP1
      rcases hw with ⟨i_4, rfl, rfl⟩ | ⟨i_5, rfl, rfl⟩
      ·
        have i_4 : p_2.toInt < 0 ∨ 1 < p_2.toInt := i_4
        have hP := g5_same hP hk1
        generalize H1 = H at hP hS ⊢
        refine lv_if_ne (tgt := 28) hx hb dX12_wall_19 (by decide) (fun c_6 => ?_) (fun c_6 => ?_)
        ·
          exact absurd c_6 (by decide)
        ·
          refine lv_aload_n hx hb dX12_wall_22 rfl (lv_at hl 0 rfl) ?_
          refine lv_iconst (v := (-1)) hx hb dX12_wall_23 (by decide) ?_
          obtain ⟨hPc, hDc, hFc⟩ := g5_sub3 (wc := [(b_o, (oc12 0 u_sa b_rf b_ro b_im b_ke u_fd b_tp u_td u_fr u_to u_so u_wo u_fa u_bd u_nc b_nl u_co b_op b_ar u_le b_pi b_pa u_pd u_od b_ws b_hw u_la b_se b_re u_bk u_va u_su u_ce u_ho u_wy u_bt u_ps b_pt u_tg u_sn b_ip u_ic b_ah b_be b_me u_wd b_tr b_ld u_st b_wn u_id)), (b_rf, (arI G 7 v_rf))]) hP hD hS hA [0, 1] (by decide) rfl
          refine va_calli (va_runV (As := [.int (-1)]) (rest := []) ⟨hx, hb, hml, hown, hts⟩ (n_tell1 l G b_o b_rf b_ro b_im b_ke b_tp b_nl b_op b_ar b_pi b_pa b_ws b_hw b_se b_re b_pt b_ip b_ah b_be b_me b_tr b_ld b_wn H.size 0 u_sa u_fd u_td u_fr u_to u_so u_fa u_bd u_nc u_co u_le u_pd u_od u_la u_bk u_ce u_ho u_wy u_bt u_ps u_tg u_sn u_ic u_wd u_id u_wo u_va u_su u_st v_rf h_u_td h_u_fr h_u_to h_u_bd h_u_nc h_u_co h_u_pd h_u_la h_u_bk h_u_ce h_u_ho h_u_wy h_u_bt h_u_ps h_u_ic h_u_id) (cwV 1 hts gV_X12_125 rfl rfl rfl hv_X12_tell ⟨Nat.le_of_ble_eq_true rfl, Nat.le_of_ble_eq_true rfl⟩) (g5_preV hPc hK hDc hN hT hS hFc (ci := 12) (q0 := 0) rfl rfl) rfl rfl hl.1 rfl (lv_room (Nat.le_of_ble_eq_true rfl)) dX12_wall_24 ⟨Nat.le_of_ble_eq_true rfl, Nat.le_of_ble_eq_true rfl⟩) hS (fun q _ h => hFc q h) hFc (fun r u t H1 locs ht hvm hw hB hz1 hk1 hS => ?_)
          obtain ⟨hP1, hD1⟩ := hB
          rw [ht] at hP1
          obtain ⟨z8, z9, z10, i_7, rfl, rfl⟩ := hw
          have i_7 : 0 ≤ z9.toInt ∧ z9.toInt ≤ 1 := i_7
          obtain ⟨hP, hD⟩ := va_join (wr := [(b_ro, (arI G 5740 v_ro))]) hP hD [0, 1] [2] rfl rfl (by decide) (by decide) hk1 hFc hP1 hD1
          generalize H1 = H at hP hS ⊢
          refine g5_rs [(b_ro, (arI G 5740 v_ro)), (b_o, (oc12 0 z8 b_rf b_ro b_im b_ke u_fd b_tp u_td u_fr u_to u_so u_wo u_fa u_bd u_nc b_nl u_co b_op b_ar u_le b_pi b_pa u_pd u_od b_ws b_hw u_la b_se b_re u_bk u_va u_su u_ce u_ho u_wy u_bt u_ps b_pt u_tg u_sn b_ip z9 b_ah b_be b_me u_wd b_tr b_ld u_st b_wn u_id)), (b_rf, (arI G 7 z10))] hP hD (fun hP hD => ?_)
          exact W.iret (v := (-1)) hx hb hr (fun t ht hW => ⟨⟨(-1), [(b_o, (oc12 0 z8 b_rf b_ro b_im b_ke u_fd b_tp u_td u_fr u_to u_so u_wo u_fa u_bd u_nc b_nl u_co b_op b_ar u_le b_pi b_pa u_pd u_od b_ws b_hw u_la b_se b_re u_bk u_va u_su u_ce u_ho u_wy u_bt u_ps b_pt u_tg u_sn b_ip z9 b_ah b_be b_me u_wd b_tr b_ld u_st b_wn u_id)), (b_rf, (arI G 7 z10)), (b_ro, (arI G 5740 v_ro))], rfl, ⟨(-1), 0, z8, z9, z10, v_ro, r_ro, i_7, (wall_1 (f := v_ro) (c := p_1) (i := p_2) (fun q => by omega)).symm, rfl, rfl⟩, by rw [ht]; exact hP.sub [1, 2, 0] rfl, hD.sub [1, 2, 0] (by decide) rfl⟩, hS.F ht⟩) hS.2.2 dX12_wall_27
      ·
        have i_5 : 0 ≤ p_2.toInt ∧ p_2.toInt ≤ 1 := i_5
        have hP := g5_same hP hk1
        generalize H1 = H at hP hS ⊢
        refine lv_if_ne (tgt := 28) hx hb dX12_wall_19 (by decide) (fun c_11 => ?_) (fun c_11 => ?_)
        ·
          refine lv_iload_n hx hb dX12_wall_28 rfl (lv_at hl 2 rfl) ?_
          refine lv_iconst (v := 1) hx hb dX12_wall_29 (by decide) ?_
          refine lv_icmp_ne (tgt := 75) hx hb dX12_wall_30 (by decide) (fun c_12 => ?_) (fun c_12 => ?_)
          ·
            have n_12 : gNe (p_2.toInt) (1) := by have z := g5_ne (a := p_2.toInt) (b := 1) (by rfl) (by decide) c_12; unfold gNe; omega
            have i_12 : p_2.toInt ≤ 0 := by have z := g5_ne (a := p_2.toInt) (b := 1) (by rfl) (by decide) c_12; omega
            refine lv_aload_n hx hb dX12_wall_75 rfl (lv_at hl 0 rfl) ?_
            refine lv_bipush (v := 10) hx hb dX12_wall_76 (by decide) ?_
            refine lv_iload_n hx hb dX12_wall_78 rfl (lv_at hl 1 rfl) ?_
            refine lv_iadd hx hb dX12_wall_79 ?_
            have t_13 : (10 + p_1).toInt = 10 + p_1.toInt := g5_iadd (a := 10) (b := p_1.toInt) (by decide) (by rfl) (by omega) (by omega)
            refine lv_iload_n hx hb dX12_wall_80 rfl (lv_at hl 2 rfl) ?_
            obtain ⟨hPc, hDc, hFc⟩ := g5_sub3 (wc := [(b_o, (oc12 0 u_sa b_rf b_ro b_im b_ke u_fd b_tp u_td u_fr u_to u_so u_wo u_fa u_bd u_nc b_nl u_co b_op b_ar u_le b_pi b_pa u_pd u_od b_ws b_hw u_la b_se b_re u_bk u_va u_su u_ce u_ho u_wy u_bt u_ps b_pt u_tg u_sn b_ip u_ic b_ah b_be b_me u_wd b_tr b_ld u_st b_wn u_id)), (b_ro, (arI G 5740 v_ro))]) hP hD hS hA [0, 2] (by decide) rfl
            refine va_calli (va_runV (As := [.int (10 + p_1), .int p_2]) (rest := []) ⟨hx, hb, hml, hown, hts⟩ (n_changeE l G b_o b_ro b_rf b_im b_ke b_tp b_nl b_op b_ar b_pi b_pa b_ws b_hw b_se b_re b_pt b_ip b_ah b_be b_me b_tr b_ld b_wn H.size 0 u_sa u_fd u_td u_fr u_to u_so u_fa u_bd u_nc u_co u_le u_pd u_od u_la u_bk u_ce u_ho u_wy u_bt u_ps u_tg u_sn u_ic u_wd u_id (10 + p_1) p_2 u_wo u_va u_su u_st v_ro h_u_td h_u_fr h_u_to h_u_bd h_u_nc h_u_co h_u_pd h_u_la h_u_bk h_u_ce h_u_ho h_u_wy h_u_bt h_u_ps h_u_ic h_u_id ⟨by omega, by omega⟩ (r_ro) (mi_upd r_ro (by have zz := g5_clamp (10 + p_1); unfold rOK; refine ⟨?_, ?_, ?_, ?_, ?_, ?_, ?_, ?_, ?_, ?_, ?_, ?_, ?_, ?_, ?_, ?_, ?_, ?_, ?_, ?_, ?_, ?_, ?_⟩ <;> (intros; omega)) (by have zz := g5_clamp (10 + p_1); omega) (by have zz := g5_clamp (10 + p_1); omega) (by have zz := g5_clamp (10 + p_1); omega) (by have zz := g5_clamp (10 + p_1); omega) (by have zz := g5_clamp (10 + p_1); omega))) (cwV 2 hts gV_X12_151 rfl rfl rfl hv_X12_change ⟨Nat.le_of_ble_eq_true rfl, Nat.le_of_ble_eq_true rfl⟩) (g5_preV hPc hK hDc hN hT hS hFc (ci := 12) (q0 := 0) rfl rfl) rfl rfl hl.1 rfl (lv_room (Nat.le_of_ble_eq_true rfl)) dX12_wall_81 ⟨Nat.le_of_ble_eq_true rfl, Nat.le_of_ble_eq_true rfl⟩) hS (fun q _ h => hFc q h) hFc (fun r u t H1 locs ht hvm hw hB hz1 hk1 hS => ?_)
            obtain ⟨hP1, hD1⟩ := hB
            rw [ht] at hP1
            obtain ⟨z18, z19, z20, z21, i_14, i_15, i_16, i_17, y22, rfl⟩ := hw
            have i_14 : MI z21 := i_14
            have i_15 : 0 ≤ z20.toInt ∧ z20.toInt ≤ 1 := i_15
            have i_16 : z21 = upd v_ro (10 + p_1).toNatClampNeg p_2 := i_16
            have i_17 : z18 = v_ro (10 + p_1).toNatClampNeg := i_17
            obtain ⟨hP, hD⟩ := va_join (wr := [(b_rf, (arI G 7 v_rf))]) hP hD [0, 2] [1] rfl rfl (by decide) (by decide) hk1 hFc hP1 hD1
            generalize H1 = H at hP hS ⊢
            refine g5_rs [(b_rf, (arI G 7 v_rf)), (b_o, (oc12 0 z19 b_rf b_ro b_im b_ke u_fd b_tp u_td u_fr u_to u_so u_wo u_fa u_bd u_nc b_nl u_co b_op b_ar u_le b_pi b_pa u_pd u_od b_ws b_hw u_la b_se b_re u_bk u_va u_su u_ce u_ho u_wy u_bt u_ps b_pt u_tg u_sn b_ip z20 b_ah b_be b_me u_wd b_tr b_ld u_st b_wn u_id)), (b_ro, (arI G 5740 z21))] hP hD (fun hP hD => ?_)
            refine g5_ti (v := z18) y22 ?_
            exact W.iret (v := z18) hx hb hr (fun t ht hW => ⟨⟨z18, [(b_o, (oc12 0 z19 b_rf b_ro b_im b_ke u_fd b_tp u_td u_fr u_to u_so u_wo u_fa u_bd u_nc b_nl u_co b_op b_ar u_le b_pi b_pa u_pd u_od b_ws b_hw u_la b_se b_re u_bk u_va u_su u_ce u_ho u_wy u_bt u_ps b_pt u_tg u_sn b_ip z20 b_ah b_be b_me u_wd b_tr b_ld u_st b_wn u_id)), (b_rf, (arI G 7 v_rf)), (b_ro, (arI G 5740 z21))], rfl, ⟨z18, 0, z19, z20, v_rf, z21, i_14, i_15, (i_16.trans (by congr 1; have zz := g5_clamp (10 + p_1); omega)).trans (wall_0 (f := v_ro) (c := p_1) (i := p_2) ⟨by omega, by omega⟩ ⟨by omega, by omega⟩ (fun q => by omega)).symm, rfl, rfl⟩, by rw [ht]; exact hP.sub [1, 0, 2] rfl, hD.sub [1, 0, 2] (by decide) rfl⟩, hS.F ht⟩) hS.2.2 dX12_wall_84
          ·
            have i_12 : p_2.toInt = 1 := by have z := g5_neN (a := p_2.toInt) (b := 1) (by rfl) (by decide) c_12; omega
            refine lv_aload_n hx hb dX12_wall_33 rfl (lv_at hl 0 rfl) ?_
            refine lv_iload_n hx hb dX12_wall_34 rfl (lv_at hl 1 rfl) ?_
            obtain ⟨hPc, hDc, hFc⟩ := g5_sub3 (wc := [(b_o, (oc12 0 u_sa b_rf b_ro b_im b_ke u_fd b_tp u_td u_fr u_to u_so u_wo u_fa u_bd u_nc b_nl u_co b_op b_ar u_le b_pi b_pa u_pd u_od b_ws b_hw u_la b_se b_re u_bk u_va u_su u_ce u_ho u_wy u_bt u_ps b_pt u_tg u_sn b_ip u_ic b_ah b_be b_me u_wd b_tr b_ld u_st b_wn u_id)), (b_ro, (arI G 5740 v_ro))]) hP hD hS hA [0, 2] (by decide) rfl
            refine va_calli (va_runV (As := [.int p_1]) (rest := []) ⟨hx, hb, hml, hown, hts⟩ (n_hasGlassE l G b_o b_ro b_rf b_im b_ke b_tp b_nl b_op b_ar b_pi b_pa b_ws b_hw b_se b_re b_pt b_ip b_ah b_be b_me b_tr b_ld b_wn H.size 0 u_sa u_fd u_td u_fr u_to u_so u_fa u_bd u_nc u_co u_le u_pd u_od u_la u_bk u_ce u_ho u_wy u_bt u_ps u_tg u_sn u_ic u_wd u_id p_1 u_wo u_va u_su u_st v_ro h_u_td h_u_fr h_u_to h_u_bd h_u_nc h_u_co h_u_pd h_u_la h_u_bk h_u_ce h_u_ho h_u_wy h_u_bt h_u_ps h_u_ic h_u_id (r_ro)) (cwV 1 hts gV_X12_142 rfl rfl rfl hv_X12_hasGlass ⟨Nat.le_of_ble_eq_true rfl, Nat.le_of_ble_eq_true rfl⟩) (g5_preV hPc hK hDc hN hT hS hFc (ci := 12) (q0 := 0) rfl rfl) rfl rfl hl.1 rfl (lv_room (Nat.le_of_ble_eq_true rfl)) dX12_wall_35 ⟨Nat.le_of_ble_eq_true rfl, Nat.le_of_ble_eq_true rfl⟩) hS (fun q _ h => hFc q h) hFc (fun r u t H1 locs ht hvm hw hB hz1 hk1 hS => ?_)
            obtain ⟨hP1, hD1⟩ := hB
            rw [ht] at hP1
            obtain ⟨z25, i_23, i_24, y26, rfl⟩ := hw
            have i_23 : 0 ≤ z25.toInt ∧ z25.toInt ≤ 1 := i_23
            have i_24 : bIff z25.toInt (gAt v_ro p_1.toInt) := i_24
            obtain ⟨hP, hD⟩ := va_join (wr := [(b_rf, (arI G 7 v_rf))]) hP hD [0, 2] [1] rfl rfl (by decide) (by decide) hk1 hFc hP1 hD1
            generalize H1 = H at hP hS ⊢
            refine g5_rs [(b_rf, (arI G 7 v_rf)), (b_o, (oc12 0 u_sa b_rf b_ro b_im b_ke u_fd b_tp u_td u_fr u_to u_so u_wo u_fa u_bd u_nc b_nl u_co b_op b_ar u_le b_pi b_pa u_pd u_od b_ws b_hw u_la b_se b_re u_bk u_va u_su u_ce u_ho u_wy u_bt u_ps b_pt u_tg u_sn b_ip u_ic b_ah b_be b_me u_wd b_tr b_ld u_st b_wn u_id)), (b_ro, (arI G 5740 v_ro))] hP hD (fun hP hD => ?_)
            refine g5_ti (v := z25) y26 ?_
            refine lv_if_ne (tgt := 68) hx hb dX12_wall_38 (by decide) (fun c_27 => ?_) (fun c_27 => ?_)
            ·
              have n_27 : gNe (z25.toInt) (0) := by have z := g5_ne (a := z25.toInt) (b := 0) (by rfl) (by decide) c_27; unfold gNe; omega
              have i_27 : z25.toInt ≥ 1 := by have z := g5_ne (a := z25.toInt) (b := 0) (by rfl) (by decide) c_27; omega
              refine lv_aload_n hx hb dX12_wall_68 rfl (lv_at hl 0 rfl) ?_
              refine lv_bipush (v := (-3)) hx hb dX12_wall_69 (by decide) ?_
              obtain ⟨hPc, hDc, hFc⟩ := g5_sub3 (wc := [(b_o, (oc12 0 u_sa b_rf b_ro b_im b_ke u_fd b_tp u_td u_fr u_to u_so u_wo u_fa u_bd u_nc b_nl u_co b_op b_ar u_le b_pi b_pa u_pd u_od b_ws b_hw u_la b_se b_re u_bk u_va u_su u_ce u_ho u_wy u_bt u_ps b_pt u_tg u_sn b_ip u_ic b_ah b_be b_me u_wd b_tr b_ld u_st b_wn u_id)), (b_rf, (arI G 7 v_rf))]) hP hD hS hA [1, 0] (by decide) rfl
              refine va_calli (va_runV (As := [.int (-3)]) (rest := []) ⟨hx, hb, hml, hown, hts⟩ (n_tell3 l G b_o b_rf b_ro b_im b_ke b_tp b_nl b_op b_ar b_pi b_pa b_ws b_hw b_se b_re b_pt b_ip b_ah b_be b_me b_tr b_ld b_wn H.size 0 u_sa u_fd u_td u_fr u_to u_so u_fa u_bd u_nc u_co u_le u_pd u_od u_la u_bk u_ce u_ho u_wy u_bt u_ps u_tg u_sn u_ic u_wd u_id u_wo u_va u_su u_st v_rf h_u_td h_u_fr h_u_to h_u_bd h_u_nc h_u_co h_u_pd h_u_la h_u_bk h_u_ce h_u_ho h_u_wy h_u_bt h_u_ps h_u_ic h_u_id) (cwV 1 hts gV_X12_125 rfl rfl rfl hv_X12_tell ⟨Nat.le_of_ble_eq_true rfl, Nat.le_of_ble_eq_true rfl⟩) (g5_preV hPc hK hDc hN hT hS hFc (ci := 12) (q0 := 0) rfl rfl) rfl rfl hl.1 rfl (lv_room (Nat.le_of_ble_eq_true rfl)) dX12_wall_71 ⟨Nat.le_of_ble_eq_true rfl, Nat.le_of_ble_eq_true rfl⟩) hS (fun q _ h => hFc q h) hFc (fun r u t H1 locs ht hvm hw hB hz1 hk1 hS => ?_)
              obtain ⟨hP1, hD1⟩ := hB
              rw [ht] at hP1
              obtain ⟨z29, z30, z31, i_28, rfl, rfl⟩ := hw
              have i_28 : 0 ≤ z30.toInt ∧ z30.toInt ≤ 1 := i_28
              obtain ⟨hP, hD⟩ := va_join (wr := [(b_ro, (arI G 5740 v_ro))]) hP hD [1, 0] [2] rfl rfl (by decide) (by decide) hk1 hFc hP1 hD1
              generalize H1 = H at hP hS ⊢
              refine g5_rs [(b_ro, (arI G 5740 v_ro)), (b_o, (oc12 0 z29 b_rf b_ro b_im b_ke u_fd b_tp u_td u_fr u_to u_so u_wo u_fa u_bd u_nc b_nl u_co b_op b_ar u_le b_pi b_pa u_pd u_od b_ws b_hw u_la b_se b_re u_bk u_va u_su u_ce u_ho u_wy u_bt u_ps b_pt u_tg u_sn b_ip z30 b_ah b_be b_me u_wd b_tr b_ld u_st b_wn u_id)), (b_rf, (arI G 7 z31))] hP hD (fun hP hD => ?_)
              exact W.iret (v := (-3)) hx hb hr (fun t ht hW => ⟨⟨(-3), [(b_o, (oc12 0 z29 b_rf b_ro b_im b_ke u_fd b_tp u_td u_fr u_to u_so u_wo u_fa u_bd u_nc b_nl u_co b_op b_ar u_le b_pi b_pa u_pd u_od b_ws b_hw u_la b_se b_re u_bk u_va u_su u_ce u_ho u_wy u_bt u_ps b_pt u_tg u_sn b_ip z30 b_ah b_be b_me u_wd b_tr b_ld u_st b_wn u_id)), (b_rf, (arI G 7 z31)), (b_ro, (arI G 5740 v_ro))], rfl, ⟨(-3), 0, z29, z30, z31, v_ro, r_ro, i_28, (wall_3m (f := v_ro) (c := p_1) (i := p_2) (by omega) (Or.inl (bI_y i_24 (by omega)))).symm, rfl, rfl⟩, by rw [ht]; exact hP.sub [1, 2, 0] rfl, hD.sub [1, 2, 0] (by decide) rfl⟩, hS.F ht⟩) hS.2.2 dX12_wall_74
            ·
              have i_27 : z25.toInt = 0 := by have z := g5_neN (a := z25.toInt) (b := 0) (by rfl) (by decide) c_27; omega
              refine lv_aload_n hx hb dX12_wall_41 rfl (lv_at hl 0 rfl) ?_
              refine lv_iload_n hx hb dX12_wall_42 rfl (lv_at hl 1 rfl) ?_
              obtain ⟨hPc, hDc, hFc⟩ := g5_sub3 (wc := [(b_o, (oc12 0 u_sa b_rf b_ro b_im b_ke u_fd b_tp u_td u_fr u_to u_so u_wo u_fa u_bd u_nc b_nl u_co b_op b_ar u_le b_pi b_pa u_pd u_od b_ws b_hw u_la b_se b_re u_bk u_va u_su u_ce u_ho u_wy u_bt u_ps b_pt u_tg u_sn b_ip u_ic b_ah b_be b_me u_wd b_tr b_ld u_st b_wn u_id)), (b_ro, (arI G 5740 v_ro))]) hP hD hS hA [1, 2] (by decide) rfl
              refine va_calli (va_runV (As := [.int p_1]) (rest := []) ⟨hx, hb, hml, hown, hts⟩ (n_hasSpotE l G b_o b_ro b_rf b_im b_ke b_tp b_nl b_op b_ar b_pi b_pa b_ws b_hw b_se b_re b_pt b_ip b_ah b_be b_me b_tr b_ld b_wn H.size 0 u_sa u_fd u_td u_fr u_to u_so u_fa u_bd u_nc u_co u_le u_pd u_od u_la u_bk u_ce u_ho u_wy u_bt u_ps u_tg u_sn u_ic u_wd u_id p_1 u_wo u_va u_su u_st v_ro h_u_td h_u_fr h_u_to h_u_bd h_u_nc h_u_co h_u_pd h_u_la h_u_bk h_u_ce h_u_ho h_u_wy h_u_bt h_u_ps h_u_ic h_u_id (r_ro)) (cwV 1 hts gV_X12_145 rfl rfl rfl hv_X12_hasSpot ⟨Nat.le_of_ble_eq_true rfl, Nat.le_of_ble_eq_true rfl⟩) (g5_preV hPc hK hDc hN hT hS hFc (ci := 12) (q0 := 0) rfl rfl) rfl rfl hl.1 rfl (lv_room (Nat.le_of_ble_eq_true rfl)) dX12_wall_43 ⟨Nat.le_of_ble_eq_true rfl, Nat.le_of_ble_eq_true rfl⟩) hS (fun q _ h => hFc q h) hFc (fun r u t H1 locs ht hvm hw hB hz1 hk1 hS => ?_)
              obtain ⟨hP1, hD1⟩ := hB
              rw [ht] at hP1
              obtain ⟨z34, i_32, i_33, y35, rfl⟩ := hw
              have i_32 : 0 ≤ z34.toInt ∧ z34.toInt ≤ 1 := i_32
              have i_33 : bIff z34.toInt (sAt v_ro p_1.toInt) := i_33
              obtain ⟨hP, hD⟩ := va_join (wr := [(b_rf, (arI G 7 v_rf))]) hP hD [1, 2] [0] rfl rfl (by decide) (by decide) hk1 hFc hP1 hD1
              generalize H1 = H at hP hS ⊢
              refine g5_rs [(b_rf, (arI G 7 v_rf)), (b_o, (oc12 0 u_sa b_rf b_ro b_im b_ke u_fd b_tp u_td u_fr u_to u_so u_wo u_fa u_bd u_nc b_nl u_co b_op b_ar u_le b_pi b_pa u_pd u_od b_ws b_hw u_la b_se b_re u_bk u_va u_su u_ce u_ho u_wy u_bt u_ps b_pt u_tg u_sn b_ip u_ic b_ah b_be b_me u_wd b_tr b_ld u_st b_wn u_id)), (b_ro, (arI G 5740 v_ro))] hP hD (fun hP hD => ?_)
              refine g5_ti (v := z34) y35 ?_
              refine lv_if_ne (tgt := 68) hx hb dX12_wall_46 (by decide) (fun c_36 => ?_) (fun c_36 => ?_)
              ·
                have n_36 : gNe (z34.toInt) (0) := by have z := g5_ne (a := z34.toInt) (b := 0) (by rfl) (by decide) c_36; unfold gNe; omega
                have i_36 : z34.toInt ≥ 1 := by have z := g5_ne (a := z34.toInt) (b := 0) (by rfl) (by decide) c_36; omega
                refine lv_aload_n hx hb dX12_wall_68 rfl (lv_at hl 0 rfl) ?_
                refine lv_bipush (v := (-3)) hx hb dX12_wall_69 (by decide) ?_
                obtain ⟨hPc, hDc, hFc⟩ := g5_sub3 (wc := [(b_o, (oc12 0 u_sa b_rf b_ro b_im b_ke u_fd b_tp u_td u_fr u_to u_so u_wo u_fa u_bd u_nc b_nl u_co b_op b_ar u_le b_pi b_pa u_pd u_od b_ws b_hw u_la b_se b_re u_bk u_va u_su u_ce u_ho u_wy u_bt u_ps b_pt u_tg u_sn b_ip u_ic b_ah b_be b_me u_wd b_tr b_ld u_st b_wn u_id)), (b_rf, (arI G 7 v_rf))]) hP hD hS hA [1, 0] (by decide) rfl
                refine va_calli (va_runV (As := [.int (-3)]) (rest := []) ⟨hx, hb, hml, hown, hts⟩ (n_tell3 l G b_o b_rf b_ro b_im b_ke b_tp b_nl b_op b_ar b_pi b_pa b_ws b_hw b_se b_re b_pt b_ip b_ah b_be b_me b_tr b_ld b_wn H.size 0 u_sa u_fd u_td u_fr u_to u_so u_fa u_bd u_nc u_co u_le u_pd u_od u_la u_bk u_ce u_ho u_wy u_bt u_ps u_tg u_sn u_ic u_wd u_id u_wo u_va u_su u_st v_rf h_u_td h_u_fr h_u_to h_u_bd h_u_nc h_u_co h_u_pd h_u_la h_u_bk h_u_ce h_u_ho h_u_wy h_u_bt h_u_ps h_u_ic h_u_id) (cwV 1 hts gV_X12_125 rfl rfl rfl hv_X12_tell ⟨Nat.le_of_ble_eq_true rfl, Nat.le_of_ble_eq_true rfl⟩) (g5_preV hPc hK hDc hN hT hS hFc (ci := 12) (q0 := 0) rfl rfl) rfl rfl hl.1 rfl (lv_room (Nat.le_of_ble_eq_true rfl)) dX12_wall_71 ⟨Nat.le_of_ble_eq_true rfl, Nat.le_of_ble_eq_true rfl⟩) hS (fun q _ h => hFc q h) hFc (fun r u t H1 locs ht hvm hw hB hz1 hk1 hS => ?_)
                obtain ⟨hP1, hD1⟩ := hB
                rw [ht] at hP1
                obtain ⟨z38, z39, z40, i_37, rfl, rfl⟩ := hw
                have i_37 : 0 ≤ z39.toInt ∧ z39.toInt ≤ 1 := i_37
                obtain ⟨hP, hD⟩ := va_join (wr := [(b_ro, (arI G 5740 v_ro))]) hP hD [1, 0] [2] rfl rfl (by decide) (by decide) hk1 hFc hP1 hD1
                generalize H1 = H at hP hS ⊢
                refine g5_rs [(b_ro, (arI G 5740 v_ro)), (b_o, (oc12 0 z38 b_rf b_ro b_im b_ke u_fd b_tp u_td u_fr u_to u_so u_wo u_fa u_bd u_nc b_nl u_co b_op b_ar u_le b_pi b_pa u_pd u_od b_ws b_hw u_la b_se b_re u_bk u_va u_su u_ce u_ho u_wy u_bt u_ps b_pt u_tg u_sn b_ip z39 b_ah b_be b_me u_wd b_tr b_ld u_st b_wn u_id)), (b_rf, (arI G 7 z40))] hP hD (fun hP hD => ?_)
                exact W.iret (v := (-3)) hx hb hr (fun t ht hW => ⟨⟨(-3), [(b_o, (oc12 0 z38 b_rf b_ro b_im b_ke u_fd b_tp u_td u_fr u_to u_so u_wo u_fa u_bd u_nc b_nl u_co b_op b_ar u_le b_pi b_pa u_pd u_od b_ws b_hw u_la b_se b_re u_bk u_va u_su u_ce u_ho u_wy u_bt u_ps b_pt u_tg u_sn b_ip z39 b_ah b_be b_me u_wd b_tr b_ld u_st b_wn u_id)), (b_rf, (arI G 7 z40)), (b_ro, (arI G 5740 v_ro))], rfl, ⟨(-3), 0, z38, z39, z40, v_ro, r_ro, i_37, (wall_3m (f := v_ro) (c := p_1) (i := p_2) (by omega) (Or.inr (Or.inl (bI_y i_33 (by omega))))).symm, rfl, rfl⟩, by rw [ht]; exact hP.sub [1, 2, 0] rfl, hD.sub [1, 2, 0] (by decide) rfl⟩, hS.F ht⟩) hS.2.2 dX12_wall_74
              ·
                have i_36 : z34.toInt = 0 := by have z := g5_neN (a := z34.toInt) (b := 0) (by rfl) (by decide) c_36; omega
                refine lv_aload_n hx hb dX12_wall_49 rfl (lv_at hl 0 rfl) ?_
                refine lv_iload_n hx hb dX12_wall_50 rfl (lv_at hl 1 rfl) ?_
                obtain ⟨hPc, hDc, hFc⟩ := g5_sub3 (wc := [(b_o, (oc12 0 u_sa b_rf b_ro b_im b_ke u_fd b_tp u_td u_fr u_to u_so u_wo u_fa u_bd u_nc b_nl u_co b_op b_ar u_le b_pi b_pa u_pd u_od b_ws b_hw u_la b_se b_re u_bk u_va u_su u_ce u_ho u_wy u_bt u_ps b_pt u_tg u_sn b_ip u_ic b_ah b_be b_me u_wd b_tr b_ld u_st b_wn u_id)), (b_ro, (arI G 5740 v_ro))]) hP hD hS hA [1, 2] (by decide) rfl
                refine va_calli (va_runV (As := [.int p_1]) (rest := []) ⟨hx, hb, hml, hown, hts⟩ (n_hasBodyE l G b_o b_ro b_rf b_im b_ke b_tp b_nl b_op b_ar b_pi b_pa b_ws b_hw b_se b_re b_pt b_ip b_ah b_be b_me b_tr b_ld b_wn H.size 0 u_sa u_fd u_td u_fr u_to u_so u_fa u_bd u_nc u_co u_le u_pd u_od u_la u_bk u_ce u_ho u_wy u_bt u_ps u_tg u_sn u_ic u_wd u_id p_1 u_wo u_va u_su u_st v_ro h_u_td h_u_fr h_u_to h_u_bd h_u_nc h_u_co h_u_pd h_u_la h_u_bk h_u_ce h_u_ho h_u_wy h_u_bt h_u_ps h_u_ic h_u_id (r_ro)) (cwV 1 hts gV_X12_148 rfl rfl rfl hv_X12_hasBody ⟨Nat.le_of_ble_eq_true rfl, Nat.le_of_ble_eq_true rfl⟩) (g5_preV hPc hK hDc hN hT hS hFc (ci := 12) (q0 := 0) rfl rfl) rfl rfl hl.1 rfl (lv_room (Nat.le_of_ble_eq_true rfl)) dX12_wall_51 ⟨Nat.le_of_ble_eq_true rfl, Nat.le_of_ble_eq_true rfl⟩) hS (fun q _ h => hFc q h) hFc (fun r u t H1 locs ht hvm hw hB hz1 hk1 hS => ?_)
                obtain ⟨hP1, hD1⟩ := hB
                rw [ht] at hP1
                obtain ⟨z43, i_41, i_42, y44, rfl⟩ := hw
                have i_41 : 0 ≤ z43.toInt ∧ z43.toInt ≤ 1 := i_41
                have i_42 : bIff z43.toInt (bAt v_ro p_1.toInt) := i_42
                obtain ⟨hP, hD⟩ := va_join (wr := [(b_rf, (arI G 7 v_rf))]) hP hD [1, 2] [0] rfl rfl (by decide) (by decide) hk1 hFc hP1 hD1
                generalize H1 = H at hP hS ⊢
                refine g5_rs [(b_rf, (arI G 7 v_rf)), (b_o, (oc12 0 u_sa b_rf b_ro b_im b_ke u_fd b_tp u_td u_fr u_to u_so u_wo u_fa u_bd u_nc b_nl u_co b_op b_ar u_le b_pi b_pa u_pd u_od b_ws b_hw u_la b_se b_re u_bk u_va u_su u_ce u_ho u_wy u_bt u_ps b_pt u_tg u_sn b_ip u_ic b_ah b_be b_me u_wd b_tr b_ld u_st b_wn u_id)), (b_ro, (arI G 5740 v_ro))] hP hD (fun hP hD => ?_)
                refine g5_ti (v := z43) y44 ?_
                refine lv_if_ne (tgt := 68) hx hb dX12_wall_54 (by decide) (fun c_45 => ?_) (fun c_45 => ?_)
                ·
                  have n_45 : gNe (z43.toInt) (0) := by have z := g5_ne (a := z43.toInt) (b := 0) (by rfl) (by decide) c_45; unfold gNe; omega
                  have i_45 : z43.toInt ≥ 1 := by have z := g5_ne (a := z43.toInt) (b := 0) (by rfl) (by decide) c_45; omega
                  refine lv_aload_n hx hb dX12_wall_68 rfl (lv_at hl 0 rfl) ?_
                  refine lv_bipush (v := (-3)) hx hb dX12_wall_69 (by decide) ?_
                  obtain ⟨hPc, hDc, hFc⟩ := g5_sub3 (wc := [(b_o, (oc12 0 u_sa b_rf b_ro b_im b_ke u_fd b_tp u_td u_fr u_to u_so u_wo u_fa u_bd u_nc b_nl u_co b_op b_ar u_le b_pi b_pa u_pd u_od b_ws b_hw u_la b_se b_re u_bk u_va u_su u_ce u_ho u_wy u_bt u_ps b_pt u_tg u_sn b_ip u_ic b_ah b_be b_me u_wd b_tr b_ld u_st b_wn u_id)), (b_rf, (arI G 7 v_rf))]) hP hD hS hA [1, 0] (by decide) rfl
                  refine va_calli (va_runV (As := [.int (-3)]) (rest := []) ⟨hx, hb, hml, hown, hts⟩ (n_tell3 l G b_o b_rf b_ro b_im b_ke b_tp b_nl b_op b_ar b_pi b_pa b_ws b_hw b_se b_re b_pt b_ip b_ah b_be b_me b_tr b_ld b_wn H.size 0 u_sa u_fd u_td u_fr u_to u_so u_fa u_bd u_nc u_co u_le u_pd u_od u_la u_bk u_ce u_ho u_wy u_bt u_ps u_tg u_sn u_ic u_wd u_id u_wo u_va u_su u_st v_rf h_u_td h_u_fr h_u_to h_u_bd h_u_nc h_u_co h_u_pd h_u_la h_u_bk h_u_ce h_u_ho h_u_wy h_u_bt h_u_ps h_u_ic h_u_id) (cwV 1 hts gV_X12_125 rfl rfl rfl hv_X12_tell ⟨Nat.le_of_ble_eq_true rfl, Nat.le_of_ble_eq_true rfl⟩) (g5_preV hPc hK hDc hN hT hS hFc (ci := 12) (q0 := 0) rfl rfl) rfl rfl hl.1 rfl (lv_room (Nat.le_of_ble_eq_true rfl)) dX12_wall_71 ⟨Nat.le_of_ble_eq_true rfl, Nat.le_of_ble_eq_true rfl⟩) hS (fun q _ h => hFc q h) hFc (fun r u t H1 locs ht hvm hw hB hz1 hk1 hS => ?_)
                  obtain ⟨hP1, hD1⟩ := hB
                  rw [ht] at hP1
                  obtain ⟨z47, z48, z49, i_46, rfl, rfl⟩ := hw
                  have i_46 : 0 ≤ z48.toInt ∧ z48.toInt ≤ 1 := i_46
                  obtain ⟨hP, hD⟩ := va_join (wr := [(b_ro, (arI G 5740 v_ro))]) hP hD [1, 0] [2] rfl rfl (by decide) (by decide) hk1 hFc hP1 hD1
                  generalize H1 = H at hP hS ⊢
                  refine g5_rs [(b_ro, (arI G 5740 v_ro)), (b_o, (oc12 0 z47 b_rf b_ro b_im b_ke u_fd b_tp u_td u_fr u_to u_so u_wo u_fa u_bd u_nc b_nl u_co b_op b_ar u_le b_pi b_pa u_pd u_od b_ws b_hw u_la b_se b_re u_bk u_va u_su u_ce u_ho u_wy u_bt u_ps b_pt u_tg u_sn b_ip z48 b_ah b_be b_me u_wd b_tr b_ld u_st b_wn u_id)), (b_rf, (arI G 7 z49))] hP hD (fun hP hD => ?_)
                  exact W.iret (v := (-3)) hx hb hr (fun t ht hW => ⟨⟨(-3), [(b_o, (oc12 0 z47 b_rf b_ro b_im b_ke u_fd b_tp u_td u_fr u_to u_so u_wo u_fa u_bd u_nc b_nl u_co b_op b_ar u_le b_pi b_pa u_pd u_od b_ws b_hw u_la b_se b_re u_bk u_va u_su u_ce u_ho u_wy u_bt u_ps b_pt u_tg u_sn b_ip z48 b_ah b_be b_me u_wd b_tr b_ld u_st b_wn u_id)), (b_rf, (arI G 7 z49)), (b_ro, (arI G 5740 v_ro))], rfl, ⟨(-3), 0, z47, z48, z49, v_ro, r_ro, i_46, (wall_3m (f := v_ro) (c := p_1) (i := p_2) (by omega) (Or.inr (Or.inr (Or.inl (bI_y i_42 (by omega)))))).symm, rfl, rfl⟩, by rw [ht]; exact hP.sub [1, 2, 0] rfl, hD.sub [1, 2, 0] (by decide) rfl⟩, hS.F ht⟩) hS.2.2 dX12_wall_74
                ·
                  have i_45 : z43.toInt = 0 := by have z := g5_neN (a := z43.toInt) (b := 0) (by rfl) (by decide) c_45; omega
                  refine lv_aload_n hx hb dX12_wall_57 rfl (lv_at hl 0 rfl) ?_
                  refine va_get (D := G.1) (ci := 12) (v := .ref b_ro) (C := RX12) (T := TX12) (N := 52) hx hb hts inG_X12 hown hK hP 1 rfl rfl 3 (by decide) (hts _ fl_X12_13) (fun _ h9 => h9) rfl dX12_wall_58 ?_
                  refine lv_bipush (v := 6) hx hb dX12_wall_61 (by decide) ?_
                  refine va_iald hx hb hK hP 2 0 rfl rfl (i := 6) (by unfold vp_in; decide) dX12_wall_63 ?_
                  refine g5_ti (v := (v_ro 6)) rfl ?_
                  have hr_50 : (-1) ≤ (v_ro 6).toInt ∧ (v_ro 6).toInt ≤ 63 := mi_6 r_ro
                  refine lv_iload_n hx hb dX12_wall_64 rfl (lv_at hl 1 rfl) ?_
                  refine lv_icmp_ne (tgt := 75) hx hb dX12_wall_65 (by decide) (fun c_51 => ?_) (fun c_51 => ?_)
                  ·
                    have n_51 : gNe ((v_ro 6).toInt) (p_1.toInt) := by have z := g5_ne (a := (v_ro 6).toInt) (b := p_1.toInt) (by rfl) (by rfl) c_51; unfold gNe; omega
                    refine lv_aload_n hx hb dX12_wall_75 rfl (lv_at hl 0 rfl) ?_
                    refine lv_bipush (v := 10) hx hb dX12_wall_76 (by decide) ?_
                    refine lv_iload_n hx hb dX12_wall_78 rfl (lv_at hl 1 rfl) ?_
                    refine lv_iadd hx hb dX12_wall_79 ?_
                    have t_52 : (10 + p_1).toInt = 10 + p_1.toInt := g5_iadd (a := 10) (b := p_1.toInt) (by decide) (by rfl) (by omega) (by omega)
                    refine lv_iload_n hx hb dX12_wall_80 rfl (lv_at hl 2 rfl) ?_
                    obtain ⟨hPc, hDc, hFc⟩ := g5_sub3 (wc := [(b_o, (oc12 0 u_sa b_rf b_ro b_im b_ke u_fd b_tp u_td u_fr u_to u_so u_wo u_fa u_bd u_nc b_nl u_co b_op b_ar u_le b_pi b_pa u_pd u_od b_ws b_hw u_la b_se b_re u_bk u_va u_su u_ce u_ho u_wy u_bt u_ps b_pt u_tg u_sn b_ip u_ic b_ah b_be b_me u_wd b_tr b_ld u_st b_wn u_id)), (b_ro, (arI G 5740 v_ro))]) hP hD hS hA [1, 2] (by decide) rfl
                    refine va_calli (va_runV (As := [.int (10 + p_1), .int p_2]) (rest := []) ⟨hx, hb, hml, hown, hts⟩ (n_changeE l G b_o b_ro b_rf b_im b_ke b_tp b_nl b_op b_ar b_pi b_pa b_ws b_hw b_se b_re b_pt b_ip b_ah b_be b_me b_tr b_ld b_wn H.size 0 u_sa u_fd u_td u_fr u_to u_so u_fa u_bd u_nc u_co u_le u_pd u_od u_la u_bk u_ce u_ho u_wy u_bt u_ps u_tg u_sn u_ic u_wd u_id (10 + p_1) p_2 u_wo u_va u_su u_st v_ro h_u_td h_u_fr h_u_to h_u_bd h_u_nc h_u_co h_u_pd h_u_la h_u_bk h_u_ce h_u_ho h_u_wy h_u_bt h_u_ps h_u_ic h_u_id ⟨by omega, by omega⟩ (r_ro) (mi_upd r_ro (by have zz := g5_clamp (10 + p_1); unfold rOK; refine ⟨?_, ?_, ?_, ?_, ?_, ?_, ?_, ?_, ?_, ?_, ?_, ?_, ?_, ?_, ?_, ?_, ?_, ?_, ?_, ?_, ?_, ?_, ?_⟩ <;> (intros; omega)) (by have zz := g5_clamp (10 + p_1); omega) (by have zz := g5_clamp (10 + p_1); omega) (by have zz := g5_clamp (10 + p_1); omega) (by have zz := g5_clamp (10 + p_1); omega) (by have zz := g5_clamp (10 + p_1); omega))) (cwV 2 hts gV_X12_151 rfl rfl rfl hv_X12_change ⟨Nat.le_of_ble_eq_true rfl, Nat.le_of_ble_eq_true rfl⟩) (g5_preV hPc hK hDc hN hT hS hFc (ci := 12) (q0 := 0) rfl rfl) rfl rfl hl.1 rfl (lv_room (Nat.le_of_ble_eq_true rfl)) dX12_wall_81 ⟨Nat.le_of_ble_eq_true rfl, Nat.le_of_ble_eq_true rfl⟩) hS (fun q _ h => hFc q h) hFc (fun r u t H1 locs ht hvm hw hB hz1 hk1 hS => ?_)
                    obtain ⟨hP1, hD1⟩ := hB
                    rw [ht] at hP1
                    obtain ⟨z57, z58, z59, z60, i_53, i_54, i_55, i_56, y61, rfl⟩ := hw
                    have i_53 : MI z60 := i_53
                    have i_54 : 0 ≤ z59.toInt ∧ z59.toInt ≤ 1 := i_54
                    have i_55 : z60 = upd v_ro (10 + p_1).toNatClampNeg p_2 := i_55
                    have i_56 : z57 = v_ro (10 + p_1).toNatClampNeg := i_56
                    obtain ⟨hP, hD⟩ := va_join (wr := [(b_rf, (arI G 7 v_rf))]) hP hD [1, 2] [0] rfl rfl (by decide) (by decide) hk1 hFc hP1 hD1
                    generalize H1 = H at hP hS ⊢
                    refine g5_rs [(b_rf, (arI G 7 v_rf)), (b_o, (oc12 0 z58 b_rf b_ro b_im b_ke u_fd b_tp u_td u_fr u_to u_so u_wo u_fa u_bd u_nc b_nl u_co b_op b_ar u_le b_pi b_pa u_pd u_od b_ws b_hw u_la b_se b_re u_bk u_va u_su u_ce u_ho u_wy u_bt u_ps b_pt u_tg u_sn b_ip z59 b_ah b_be b_me u_wd b_tr b_ld u_st b_wn u_id)), (b_ro, (arI G 5740 z60))] hP hD (fun hP hD => ?_)
                    refine g5_ti (v := z57) y61 ?_
                    exact W.iret (v := z57) hx hb hr (fun t ht hW => ⟨⟨z57, [(b_o, (oc12 0 z58 b_rf b_ro b_im b_ke u_fd b_tp u_td u_fr u_to u_so u_wo u_fa u_bd u_nc b_nl u_co b_op b_ar u_le b_pi b_pa u_pd u_od b_ws b_hw u_la b_se b_re u_bk u_va u_su u_ce u_ho u_wy u_bt u_ps b_pt u_tg u_sn b_ip z59 b_ah b_be b_me u_wd b_tr b_ld u_st b_wn u_id)), (b_rf, (arI G 7 v_rf)), (b_ro, (arI G 5740 z60))], rfl, ⟨z57, 0, z58, z59, v_rf, z60, i_53, i_54, (i_55.trans (by congr 1; have zz := g5_clamp (10 + p_1); omega)).trans (wall_0 (f := v_ro) (c := p_1) (i := p_2) ⟨by omega, by omega⟩ ⟨by omega, by omega⟩ (fun q => tk_none (bI_n i_24 (by omega)) (bI_n i_33 (by omega)) (bI_n i_42 (by omega)) n_51 q.2)).symm, rfl, rfl⟩, by rw [ht]; exact hP.sub [1, 0, 2] rfl, hD.sub [1, 0, 2] (by decide) rfl⟩, hS.F ht⟩) hS.2.2 dX12_wall_84
                  ·
                    have i_51 : (v_ro 6).toInt = p_1.toInt := by have z := g5_neN (a := (v_ro 6).toInt) (b := p_1.toInt) (by rfl) (by rfl) c_51; omega
                    refine lv_aload_n hx hb dX12_wall_68 rfl (lv_at hl 0 rfl) ?_
                    refine lv_bipush (v := (-3)) hx hb dX12_wall_69 (by decide) ?_
                    obtain ⟨hPc, hDc, hFc⟩ := g5_sub3 (wc := [(b_o, (oc12 0 u_sa b_rf b_ro b_im b_ke u_fd b_tp u_td u_fr u_to u_so u_wo u_fa u_bd u_nc b_nl u_co b_op b_ar u_le b_pi b_pa u_pd u_od b_ws b_hw u_la b_se b_re u_bk u_va u_su u_ce u_ho u_wy u_bt u_ps b_pt u_tg u_sn b_ip u_ic b_ah b_be b_me u_wd b_tr b_ld u_st b_wn u_id)), (b_rf, (arI G 7 v_rf))]) hP hD hS hA [1, 0] (by decide) rfl
                    refine va_calli (va_runV (As := [.int (-3)]) (rest := []) ⟨hx, hb, hml, hown, hts⟩ (n_tell3 l G b_o b_rf b_ro b_im b_ke b_tp b_nl b_op b_ar b_pi b_pa b_ws b_hw b_se b_re b_pt b_ip b_ah b_be b_me b_tr b_ld b_wn H.size 0 u_sa u_fd u_td u_fr u_to u_so u_fa u_bd u_nc u_co u_le u_pd u_od u_la u_bk u_ce u_ho u_wy u_bt u_ps u_tg u_sn u_ic u_wd u_id u_wo u_va u_su u_st v_rf h_u_td h_u_fr h_u_to h_u_bd h_u_nc h_u_co h_u_pd h_u_la h_u_bk h_u_ce h_u_ho h_u_wy h_u_bt h_u_ps h_u_ic h_u_id) (cwV 1 hts gV_X12_125 rfl rfl rfl hv_X12_tell ⟨Nat.le_of_ble_eq_true rfl, Nat.le_of_ble_eq_true rfl⟩) (g5_preV hPc hK hDc hN hT hS hFc (ci := 12) (q0 := 0) rfl rfl) rfl rfl hl.1 rfl (lv_room (Nat.le_of_ble_eq_true rfl)) dX12_wall_71 ⟨Nat.le_of_ble_eq_true rfl, Nat.le_of_ble_eq_true rfl⟩) hS (fun q _ h => hFc q h) hFc (fun r u t H1 locs ht hvm hw hB hz1 hk1 hS => ?_)
                    obtain ⟨hP1, hD1⟩ := hB
                    rw [ht] at hP1
                    obtain ⟨z63, z64, z65, i_62, rfl, rfl⟩ := hw
                    have i_62 : 0 ≤ z64.toInt ∧ z64.toInt ≤ 1 := i_62
                    obtain ⟨hP, hD⟩ := va_join (wr := [(b_ro, (arI G 5740 v_ro))]) hP hD [1, 0] [2] rfl rfl (by decide) (by decide) hk1 hFc hP1 hD1
                    generalize H1 = H at hP hS ⊢
                    refine g5_rs [(b_ro, (arI G 5740 v_ro)), (b_o, (oc12 0 z63 b_rf b_ro b_im b_ke u_fd b_tp u_td u_fr u_to u_so u_wo u_fa u_bd u_nc b_nl u_co b_op b_ar u_le b_pi b_pa u_pd u_od b_ws b_hw u_la b_se b_re u_bk u_va u_su u_ce u_ho u_wy u_bt u_ps b_pt u_tg u_sn b_ip z64 b_ah b_be b_me u_wd b_tr b_ld u_st b_wn u_id)), (b_rf, (arI G 7 z65))] hP hD (fun hP hD => ?_)
                    exact W.iret (v := (-3)) hx hb hr (fun t ht hW => ⟨⟨(-3), [(b_o, (oc12 0 z63 b_rf b_ro b_im b_ke u_fd b_tp u_td u_fr u_to u_so u_wo u_fa u_bd u_nc b_nl u_co b_op b_ar u_le b_pi b_pa u_pd u_od b_ws b_hw u_la b_se b_re u_bk u_va u_su u_ce u_ho u_wy u_bt u_ps b_pt u_tg u_sn b_ip z64 b_ah b_be b_me u_wd b_tr b_ld u_st b_wn u_id)), (b_rf, (arI G 7 z65)), (b_ro, (arI G 5740 v_ro))], rfl, ⟨(-3), 0, z63, z64, z65, v_ro, r_ro, i_62, (wall_3m (f := v_ro) (c := p_1) (i := p_2) (by omega) (Or.inr (Or.inr (Or.inr (by omega))))).symm, rfl, rfl⟩, by rw [ht]; exact hP.sub [1, 2, 0] rfl, hD.sub [1, 2, 0] (by decide) rfl⟩, hS.F ht⟩) hS.2.2 dX12_wall_74
        ·
          exact absurd c_11 (by decide)
  ·
    have i_2 : p_1.toInt < 0 ∨ 63 < p_1.toInt := i_2
    have hP := g5_same hP hk1
    generalize H1 = H at hP hS ⊢
    refine lv_if_eq (tgt := 22) hx hb dX12_wall_9 (by decide) (fun c_66 => ?_) (fun c_66 => ?_)
    ·
      refine lv_aload_n hx hb dX12_wall_22 rfl (lv_at hl 0 rfl) ?_
      refine lv_iconst (v := (-1)) hx hb dX12_wall_23 (by decide) ?_
      obtain ⟨hPc, hDc, hFc⟩ := g5_sub3 (wc := [(b_o, (oc12 0 u_sa b_rf b_ro b_im b_ke u_fd b_tp u_td u_fr u_to u_so u_wo u_fa u_bd u_nc b_nl u_co b_op b_ar u_le b_pi b_pa u_pd u_od b_ws b_hw u_la b_se b_re u_bk u_va u_su u_ce u_ho u_wy u_bt u_ps b_pt u_tg u_sn b_ip u_ic b_ah b_be b_me u_wd b_tr b_ld u_st b_wn u_id)), (b_rf, (arI G 7 v_rf))]) hP hD hS hA [0, 1] (by decide) rfl
      refine va_calli (va_runV (As := [.int (-1)]) (rest := []) ⟨hx, hb, hml, hown, hts⟩ (n_tell1 l G b_o b_rf b_ro b_im b_ke b_tp b_nl b_op b_ar b_pi b_pa b_ws b_hw b_se b_re b_pt b_ip b_ah b_be b_me b_tr b_ld b_wn H.size 0 u_sa u_fd u_td u_fr u_to u_so u_fa u_bd u_nc u_co u_le u_pd u_od u_la u_bk u_ce u_ho u_wy u_bt u_ps u_tg u_sn u_ic u_wd u_id u_wo u_va u_su u_st v_rf h_u_td h_u_fr h_u_to h_u_bd h_u_nc h_u_co h_u_pd h_u_la h_u_bk h_u_ce h_u_ho h_u_wy h_u_bt h_u_ps h_u_ic h_u_id) (cwV 1 hts gV_X12_125 rfl rfl rfl hv_X12_tell ⟨Nat.le_of_ble_eq_true rfl, Nat.le_of_ble_eq_true rfl⟩) (g5_preV hPc hK hDc hN hT hS hFc (ci := 12) (q0 := 0) rfl rfl) rfl rfl hl.1 rfl (lv_room (Nat.le_of_ble_eq_true rfl)) dX12_wall_24 ⟨Nat.le_of_ble_eq_true rfl, Nat.le_of_ble_eq_true rfl⟩) hS (fun q _ h => hFc q h) hFc (fun r u t H1 locs ht hvm hw hB hz1 hk1 hS => ?_)
      obtain ⟨hP1, hD1⟩ := hB
      rw [ht] at hP1
      obtain ⟨z68, z69, z70, i_67, rfl, rfl⟩ := hw
      have i_67 : 0 ≤ z69.toInt ∧ z69.toInt ≤ 1 := i_67
      obtain ⟨hP, hD⟩ := va_join (wr := [(b_ro, (arI G 5740 v_ro))]) hP hD [0, 1] [2] rfl rfl (by decide) (by decide) hk1 hFc hP1 hD1
      generalize H1 = H at hP hS ⊢
      refine g5_rs [(b_ro, (arI G 5740 v_ro)), (b_o, (oc12 0 z68 b_rf b_ro b_im b_ke u_fd b_tp u_td u_fr u_to u_so u_wo u_fa u_bd u_nc b_nl u_co b_op b_ar u_le b_pi b_pa u_pd u_od b_ws b_hw u_la b_se b_re u_bk u_va u_su u_ce u_ho u_wy u_bt u_ps b_pt u_tg u_sn b_ip z69 b_ah b_be b_me u_wd b_tr b_ld u_st b_wn u_id)), (b_rf, (arI G 7 z70))] hP hD (fun hP hD => ?_)
      exact W.iret (v := (-1)) hx hb hr (fun t ht hW => ⟨⟨(-1), [(b_o, (oc12 0 z68 b_rf b_ro b_im b_ke u_fd b_tp u_td u_fr u_to u_so u_wo u_fa u_bd u_nc b_nl u_co b_op b_ar u_le b_pi b_pa u_pd u_od b_ws b_hw u_la b_se b_re u_bk u_va u_su u_ce u_ho u_wy u_bt u_ps b_pt u_tg u_sn b_ip z69 b_ah b_be b_me u_wd b_tr b_ld u_st b_wn u_id)), (b_rf, (arI G 7 z70)), (b_ro, (arI G 5740 v_ro))], rfl, ⟨(-1), 0, z68, z69, z70, v_ro, r_ro, i_67, (wall_1 (f := v_ro) (c := p_1) (i := p_2) (fun q => by omega)).symm, rfl, rfl⟩, by rw [ht]; exact hP.sub [1, 2, 0] rfl, hD.sub [1, 2, 0] (by decide) rfl⟩, hS.F ht⟩) hS.2.2 dX12_wall_27
    ·
      exact absurd c_66 (by decide)
