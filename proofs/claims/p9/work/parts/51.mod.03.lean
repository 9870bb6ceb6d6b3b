set_option maxHeartbeats 4000000 in
set_option maxRecDepth 100000 in
theorem n_settleH (l : Launch) (G : g5_G) (b_o b_op b_ar b_pi b_pa b_rf b_ro b_im b_ke b_tp b_nl b_ws b_hw b_se b_re b_pt b_ip b_ah b_be b_me b_tr b_ld b_wn : Nat) (sz : Nat) (u_th : Int32) (u_sa : Int32) (u_fd : Int32) (u_td : Int32) (u_fr : Int32) (u_to : Int32) (u_so : Int32) (u_fa : Int32) (u_bd : Int32) (u_nc : Int32) (u_co : Int32) (u_le : Int32) (u_pd : Int32) (u_od : Int32) (u_la : Int32) (u_bk : Int32) (u_ce : Int32) (u_ho : Int32) (u_wy : Int32) (u_bt : Int32) (u_ps : Int32) (u_tg : Int32) (u_sn : Int32) (u_ic : Int32) (u_wd : Int32) (u_id : Int32) (p_1 : Int32) (g_a : Int32) (g_f : Int32) (u_wo : Int64) (u_va : Int64) (u_su : Int64) (u_st : Int64) (v_op : Nat → Int32) (v_ar : Nat → Int32) (v_pi : Nat → Int32) (v_pa : Nat → Int32) (g_op : Nat → Int32) (g_ar : Nat → Int32) (h_u_td : 0 ≤ u_td.toInt ∧ u_td.toInt ≤ 400) (h_u_fr : 0 ≤ u_fr.toInt ∧ u_fr.toInt ≤ 400) (h_u_to : 0 ≤ u_to.toInt ∧ u_to.toInt ≤ 400) (h_u_bd : 0 ≤ u_bd.toInt ∧ u_bd.toInt ≤ 1) (h_u_nc : 0 ≤ u_nc.toInt ∧ u_nc.toInt ≤ 12) (h_u_co : 0 ≤ u_co.toInt ∧ u_co.toInt ≤ 400) (h_u_pd : 0 ≤ u_pd.toInt ∧ u_pd.toInt ≤ 400) (h_u_la : 0 ≤ u_la.toInt ∧ u_la.toInt ≤ 4840) (h_u_bk : 0 ≤ u_bk.toInt ∧ u_bk.toInt ≤ 1) (h_u_ce : 0 ≤ u_ce.toInt ∧ u_ce.toInt ≤ 63) (h_u_ho : 0 ≤ u_ho.toInt ∧ u_ho.toInt ≤ 23) (h_u_wy : 0 ≤ u_wy.toInt ∧ u_wy.toInt ≤ 3) (h_u_bt : 0 ≤ u_bt.toInt ∧ u_bt.toInt ≤ 1000000) (h_u_ps : 0 ≤ u_ps.toInt ∧ u_ps.toInt ≤ 200) (h_u_ic : 0 ≤ u_ic.toInt ∧ u_ic.toInt ≤ 1) (h_u_id : 0 ≤ u_id.toInt ∧ u_id.toInt ≤ 1) (h_p_1 : 1 ≤ p_1.toInt ∧ p_1.toInt ≤ 6) (e_f : g_f.toInt ≤ 400) (e_x : XJ g_op g_ar v_op v_ar v_pi v_pa g_a.toInt u_co.toInt u_pd.toInt g_f.toInt) (e_h : HJ v_op v_ar v_pi v_pa g_a.toInt u_co.toInt u_pd.toInt 1) : Met l yX12_settle (wsG yX12_settle cX12_settle 2 none) ({ frames := 1, cells := 0, slots := 0, locals := 22 }) (va_Pc [.ref b_o, .int p_1] (g5_P G [(b_o, (oc12 u_th u_sa b_rf b_ro b_im b_ke u_fd b_tp u_td u_fr u_to u_so u_wo u_fa u_bd u_nc b_nl u_co b_op b_ar u_le b_pi b_pa u_pd u_od b_ws b_hw u_la b_se b_re u_bk u_va u_su u_ce u_ho u_wy u_bt u_ps b_pt u_tg u_sn b_ip u_ic b_ah b_be b_me u_wd b_tr b_ld u_st b_wn u_id)), (b_op, (arI G 400 v_op)), (b_ar, (arI G 400 v_ar)), (b_pi, (arI G 400 v_pi)), (b_pa, (arI G 400 v_pa))] sz)) (va_Qv (fun (u : va_W) => (∃ (o_co : Int32) (o_pd : Int32) (o_op : Nat → Int32) (o_ar : Nat → Int32), (0 ≤ o_co.toInt ∧ o_co.toInt ≤ 400) ∧ (0 ≤ o_pd.toInt ∧ o_pd.toInt ≤ 400) ∧ (XJ g_op g_ar o_op o_ar v_pi v_pa g_a.toInt o_co.toInt o_pd.toInt g_f.toInt) ∧ (HJ o_op o_ar v_pi v_pa g_a.toInt o_co.toInt o_pd.toInt 1) ∧ (S1 v_pi u_pd.toInt o_pd.toInt) ∧ (S2 v_pi o_pd.toInt p_1.toInt) ∧ (o_pd.toInt ≤ u_pd.toInt) ∧ (u = [(b_o, (oc12 u_th u_sa b_rf b_ro b_im b_ke u_fd b_tp u_td u_fr u_to u_so u_wo u_fa u_bd u_nc b_nl o_co b_op b_ar u_le b_pi b_pa o_pd u_od b_ws b_hw u_la b_se b_re u_bk u_va u_su u_ce u_ho u_wy u_bt u_ps b_pt u_tg u_sn b_ip u_ic b_ah b_be b_me u_wd b_tr b_ld u_st b_wn u_id)), (b_op, (arI G 400 o_op)), (b_ar, (arI G 400 o_ar)), (b_pi, (arI G 400 v_pi)), (b_pa, (arI G 400 v_pa))]))) (g5_B G (va_A [(b_o, (oc12 u_th u_sa b_rf b_ro b_im b_ke u_fd b_tp u_td u_fr u_to u_so u_wo u_fa u_bd u_nc b_nl u_co b_op b_ar u_le b_pi b_pa u_pd u_od b_ws b_hw u_la b_se b_re u_bk u_va u_su u_ce u_ho u_wy u_bt u_ps b_pt u_tg u_sn b_ip u_ic b_ah b_be b_me u_wd b_tr b_ld u_st b_wn u_id)), (b_op, (arI G 400 v_op)), (b_ar, (arI G 400 v_ar)), (b_pi, (arI G 400 v_pi)), (b_pa, (arI G 400 v_pa))] sz)) (va_A [(b_o, (oc12 u_th u_sa b_rf b_ro b_im b_ke u_fd b_tp u_td u_fr u_to u_so u_wo u_fa u_bd u_nc b_nl u_co b_op b_ar u_le b_pi b_pa u_pd u_od b_ws b_hw u_la b_se b_re u_bk u_va u_su u_ce u_ho u_wy u_bt u_ps b_pt u_tg u_sn b_ip u_ic b_ah b_be b_me u_wd b_tr b_ld u_st b_wn u_id)), (b_op, (arI G 400 v_op)), (b_ar, (arI G 400 v_ar)), (b_pi, (arI G 400 v_pi)), (b_pa, (arI G 400 v_pa))] sz)) 0 0 (va_A [(b_o, (oc12 u_th u_sa b_rf b_ro b_im b_ke u_fd b_tp u_td u_fr u_to u_so u_wo u_fa u_bd u_nc b_nl u_co b_op b_ar u_le b_pi b_pa u_pd u_od b_ws b_hw u_la b_se b_re u_bk u_va u_su u_ce u_ho u_wy u_bt u_ps b_pt u_tg u_sn b_ip u_ic b_ah b_be b_me u_wd b_tr b_ld u_st b_wn u_id)), (b_op, (arI G 400 v_op)), (b_ar, (arI G 400 v_ar)), (b_pi, (arI G 400 v_pi)), (b_pa, (arI G 400 v_pa))] sz) := by
  refine Met.ofW (cc := cX12_settle) (maxL := 2) (ret := none) (by decide) rfl ?_
  intro p e s m args below meth c s₁ B hml hv
  obtain ⟨rfl, hsz, hP, hK, hD0, hN, hT⟩ := hv
  have hx := B.exec
  have hb := B.bytes
  have hr := B.returns
  have hts : ∀ w ∈ tblG, w.before _ s = true := fun w h => atoms_spec (ws := (wsG yX12_settle cX12_settle 2 none)) B.pre w (List.mem_cons_of_mem _ h)
  have hown : s.vm.findClass RX12 = some m.cls := findClass_of_methodNamed B.named
  have hlocks := B.notSynchronized
  subst hsz
  have hD := hD0.self (sz := s.heap.size)
  generalize hAe : va_A [(b_o, (oc12 u_th u_sa b_rf b_ro b_im b_ke u_fd b_tp u_td u_fr u_to u_so u_wo u_fa u_bd u_nc b_nl u_co b_op b_ar u_le b_pi b_pa u_pd u_od b_ws b_hw u_la b_se b_re u_bk u_va u_su u_ce u_ho u_wy u_bt u_ps b_pt u_tg u_sn b_ip u_ic b_ah b_be b_me u_wd b_tr b_ld u_st b_wn u_id)), (b_op, (arI G 400 v_op)), (b_ar, (arI G 400 v_ar)), (b_pi, (arI G 400 v_pi)), (b_pa, (arI G 400 v_pa))] s.heap.size = A at hD hT ⊢
  have hA : ∀ q : Nat, s.heap.size ≤ q → A q := fun q h => by rw [← hAe]; exact Or.inr h
  have hS : va_S A s.heap s.heap [] := va_S.rf
  have hP : va_P G.1 vwCl [(b_o, (oc12 u_th u_sa b_rf b_ro b_im b_ke u_fd b_tp u_td u_fr u_to u_so u_wo u_fa u_bd u_nc b_nl u_co b_op b_ar u_le b_pi b_pa u_pd u_od b_ws b_hw u_la b_se b_re u_bk u_va u_su u_ce u_ho u_wy u_bt u_ps b_pt u_tg u_sn b_ip u_ic b_ah b_be b_me u_wd b_tr b_ld u_st b_wn u_id)), (b_op, (arI G 400 v_op)), (b_ar, (arI G 400 v_ar)), (b_pi, (arI G 400 v_pi)), (b_pa, (arI G 400 v_pa))] s.heap := hP
  have hl := lv_entry ([.ref b_o, .int p_1]) (n := 2) (Nat.le_of_ble_eq_true rfl)
  rw [lg_entry_eq]
  generalize (lg_sl ([.ref b_o, .int p_1]) ++ List.replicate (2 - (lg_sl ([.ref b_o, .int p_1])).length) Slot.unset).toArray = ls at hl ⊢
  have hl : lv_has ls 2 [(0, .ref b_o), (1, .int p_1)] := hl
  refine g5_loop (α := (Int32) × (Int32) × (Nat → Int32) × (Nat → Int32)) (fun (q : (Int32) × (Int32) × (Nat → Int32) × (Nat → Int32)) (ls : Array Slot) (H : Heap) (locs : List Loc) => match q with | (k0_co, k0_pd, k0_op, k0_ar) => lv_has ls 2 [(0, .ref b_o), (1, .int p_1)] ∧ va_P G.1 vwCl [(b_o, (oc12 u_th u_sa b_rf b_ro b_im b_ke u_fd b_tp u_td u_fr u_to u_so u_wo u_fa u_bd u_nc b_nl k0_co b_op b_ar u_le b_pi b_pa k0_pd u_od b_ws b_hw u_la b_se b_re u_bk u_va u_su u_ce u_ho u_wy u_bt u_ps b_pt u_tg u_sn b_ip u_ic b_ah b_be b_me u_wd b_tr b_ld u_st b_wn u_id)), (b_op, (arI G 400 k0_op)), (b_ar, (arI G 400 k0_ar)), (b_pi, (arI G 400 v_pi)), (b_pa, (arI G 400 v_pa))] H ∧ va_D A [(b_o, (oc12 u_th u_sa b_rf b_ro b_im b_ke u_fd b_tp u_td u_fr u_to u_so u_wo u_fa u_bd u_nc b_nl k0_co b_op b_ar u_le b_pi b_pa k0_pd u_od b_ws b_hw u_la b_se b_re u_bk u_va u_su u_ce u_ho u_wy u_bt u_ps b_pt u_tg u_sn b_ip u_ic b_ah b_be b_me u_wd b_tr b_ld u_st b_wn u_id)), (b_op, (arI G 400 k0_op)), (b_ar, (arI G 400 k0_ar)), (b_pi, (arI G 400 v_pi)), (b_pa, (arI G 400 v_pa))] ∧ va_S A s.heap H locs ∧ (0 ≤ k0_co.toInt ∧ k0_co.toInt ≤ 400) ∧ (0 ≤ k0_pd.toInt ∧ k0_pd.toInt ≤ 400) ∧ (XJ g_op g_ar k0_op k0_ar v_pi v_pa g_a.toInt k0_co.toInt k0_pd.toInt g_f.toInt) ∧ (HJ k0_op k0_ar v_pi v_pa g_a.toInt k0_co.toInt k0_pd.toInt 1) ∧ (S1 v_pi u_pd.toInt k0_pd.toInt) ∧ (k0_pd.toInt ≤ u_pd.toInt)) (fun (q : (Int32) × (Int32) × (Nat → Int32) × (Nat → Int32)) => match q with | (k0_co, k0_pd, k0_op, k0_ar) => Int.toNat (k0_pd.toInt + 1)) (u_co, u_pd, v_op, v_ar) ⟨lv_sub hl [0, 1] rfl, hP, hD, hS, h_u_co, h_u_pd, e_x, e_h, s1_0, Int.le_refl _⟩ ?_
  rintro ⟨k0_co, k0_pd, k0_op, k0_ar⟩ ls H locs ⟨hl, hP, hD, hS, i_1, i_2, i_3, i_4, i_5, i_6⟩ ih_0_7
  have hl : lv_has ls 2 [(0, .ref b_o), (1, .int p_1)] := hl
  have i_1 : 0 ≤ k0_co.toInt ∧ k0_co.toInt ≤ 400 := i_1
  have i_2 : 0 ≤ k0_pd.toInt ∧ k0_pd.toInt ≤ 400 := i_2
  have i_3 : XJ g_op g_ar k0_op k0_ar v_pi v_pa g_a.toInt k0_co.toInt k0_pd.toInt g_f.toInt := i_3
  have i_4 : HJ k0_op k0_ar v_pi v_pa g_a.toInt k0_co.toInt k0_pd.toInt 1 := i_4
  have i_5 : S1 v_pi u_pd.toInt k0_pd.toInt := i_5
  have i_6 : k0_pd.toInt ≤ u_pd.toInt := i_6
  refine g5_rs [(b_o, (oc12 u_th u_sa b_rf b_ro b_im b_ke u_fd b_tp u_td u_fr u_to u_so u_wo u_fa u_bd u_nc b_nl k0_co b_op b_ar u_le b_pi b_pa k0_pd u_od b_ws b_hw u_la b_se b_re u_bk u_va u_su u_ce u_ho u_wy u_bt u_ps b_pt u_tg u_sn b_ip u_ic b_ah b_be b_me u_wd b_tr b_ld u_st b_wn u_id)), (b_op, (arI G 400 k0_op)), (b_ar, (arI G 400 k0_ar)), (b_pi, (arI G 400 v_pi)), (b_pa, (arI G 400 v_pa))] hP hD (fun hP hD => ?_)
  refine lv_aload_n hx hb dX12_settle_0 rfl (lv_at hl 0 rfl) ?_
  refine va_get (D := G.1) (ci := 12) (v := .int k0_pd) (C := RX12) (T := TX12) (N := 52) hx hb hts inG_X12 hown hK hP 0 rfl rfl 23 (by decide) (hts _ fl_X12_240) (fun _ h9 => h9) rfl dX12_settle_1 ?_
  refine lv_if_le (tgt := 101) hx hb dX12_settle_4 (by decide) (fun c_8 => ?_) (fun c_8 => ?_)
  ·
    have i_8 : k0_pd.toInt ≤ 0 := by have z := g5_le (a := k0_pd.toInt) (b := 0) (by rfl) (by decide) c_8; omega
    exact W.vret hx hb hr (fun t ht hW => ⟨⟨[(b_o, (oc12 u_th u_sa b_rf b_ro b_im b_ke u_fd b_tp u_td u_fr u_to u_so u_wo u_fa u_bd u_nc b_nl k0_co b_op b_ar u_le b_pi b_pa k0_pd u_od b_ws b_hw u_la b_se b_re u_bk u_va u_su u_ce u_ho u_wy u_bt u_ps b_pt u_tg u_sn b_ip u_ic b_ah b_be b_me u_wd b_tr b_ld u_st b_wn u_id)), (b_op, (arI G 400 k0_op)), (b_ar, (arI G 400 k0_ar)), (b_pi, (arI G 400 v_pi)), (b_pa, (arI G 400 v_pa))], rfl, ⟨k0_co, k0_pd, k0_op, k0_ar, i_1, i_2, i_3, i_4, i_5, Or.inl (by omega), by omega, rfl⟩, by rw [ht]; exact hP.sub [0, 1, 2, 3, 4] rfl, hD.sub [0, 1, 2, 3, 4] (by decide) rfl⟩, hS.F ht⟩) hS.2.2 dX12_settle_101
  ·
    have i_8 : k0_pd.toInt > 0 := by have z := g5_leN (a := k0_pd.toInt) (b := 0) (by rfl) (by decide) c_8; omega
    refine lv_aload_n hx hb dX12_settle_7 rfl (lv_at hl 0 rfl) ?_
    refine va_get (D := G.1) (ci := 12) (v := .ref b_pi) (C := RX12) (T := TX12) (N := 52) hx hb hts inG_X12 hown hK hP 0 rfl rfl 21 (by decide) (hts _ fl_X12_39) (fun _ h9 => h9) rfl dX12_settle_8 ?_
    refine lv_aload_n hx hb dX12_settle_11 rfl (lv_at hl 0 rfl) ?_
    refine va_get (D := G.1) (ci := 12) (v := .int k0_pd) (C := RX12) (T := TX12) (N := 52) hx hb hts inG_X12 hown hK hP 0 rfl rfl 23 (by decide) (hts _ fl_X12_240) (fun _ h9 => h9) rfl dX12_settle_12 ?_
    refine lv_iconst (v := 1) hx hb dX12_settle_15 (by decide) ?_
    refine lv_isub hx hb dX12_settle_16 ?_
    have t_9 : (k0_pd - 1).toInt = k0_pd.toInt - 1 := g5_isub (a := k0_pd.toInt) (b := 1) (by rfl) (by decide) (by omega) (by omega)
    refine va_iald hx hb hK hP 3 0 rfl rfl (i := (k0_pd - 1)) (vp_in_iff.mpr ⟨by omega, by omega⟩) dX12_settle_17 ?_
    have hv9 : 20 ≤ (v_pi (k0_pd - 1).toNatClampNeg).toInt ∧ (v_pi (k0_pd - 1).toNatClampNeg).toInt ≤ 31 := xj_at i_3 (by omega) (by omega)
    obtain ⟨hPc, hDc, hFc⟩ := g5_sub3 (wc := []) hP hD hS hA [] (by decide) rfl
    refine va_calli (va_runS (As := [.int (v_pi (k0_pd - 1).toNatClampNeg)]) (rest := []) ⟨hx, hb, hml, hown, hts⟩ (n_binds l G H.size (v_pi (k0_pd - 1).toNatClampNeg) ⟨by omega, by omega⟩) (va_cwS 1 hts gS_X12_243 rfl rfl rfl hs_X12_binds ⟨Nat.le_of_ble_eq_true rfl, Nat.le_of_ble_eq_true rfl⟩) (g5_preS hPc hK hDc hN hT hS hFc) rfl rfl hl.1 rfl (lv_room (Nat.le_of_ble_eq_true rfl)) dX12_settle_18 ⟨Nat.le_of_ble_eq_true rfl, Nat.le_of_ble_eq_true rfl⟩) hS (fun q _ h => hFc q h) hFc (fun r u t H1 locs ht hvm hw hB hz1 hk1 hS => ?_)
    obtain ⟨hP1, hD1⟩ := hB
    rw [ht] at hP1
    obtain ⟨z12, i_10, i_11, y13, rfl⟩ := hw
    have i_10 : 0 ≤ z12.toInt ∧ z12.toInt ≤ 6 := i_10
    have i_11 : z12.toInt = bnd (v_pi (k0_pd - 1).toNatClampNeg).toInt := i_11
    have hP := g5_same hP hk1
    generalize H1 = H at hP hS ⊢
    refine g5_ti (v := z12) y13 ?_
    refine lv_iload_n hx hb dX12_settle_21 rfl (lv_at hl 1 rfl) ?_
    refine lv_icmp_lt (tgt := 101) hx hb dX12_settle_22 (by decide) (fun c_14 => ?_) (fun c_14 => ?_)
    ·
      have i_14 : z12.toInt < p_1.toInt := by have z := g5_lt (a := z12.toInt) (b := p_1.toInt) (by rfl) (by rfl) c_14; omega
      exact W.vret hx hb hr (fun t ht hW => ⟨⟨[(b_o, (oc12 u_th u_sa b_rf b_ro b_im b_ke u_fd b_tp u_td u_fr u_to u_so u_wo u_fa u_bd u_nc b_nl k0_co b_op b_ar u_le b_pi b_pa k0_pd u_od b_ws b_hw u_la b_se b_re u_bk u_va u_su u_ce u_ho u_wy u_bt u_ps b_pt u_tg u_sn b_ip u_ic b_ah b_be b_me u_wd b_tr b_ld u_st b_wn u_id)), (b_op, (arI G 400 k0_op)), (b_ar, (arI G 400 k0_ar)), (b_pi, (arI G 400 v_pi)), (b_pa, (arI G 400 v_pa))], rfl, ⟨k0_co, k0_pd, k0_op, k0_ar, i_1, i_2, i_3, i_4, i_5, s2_lt (p' := (k0_pd - 1)) (by omega) (by omega) (by omega), by omega, rfl⟩, by rw [ht]; exact hP.sub [0, 1, 2, 3, 4] rfl, hD.sub [0, 1, 2, 3, 4] (by decide) rfl⟩, hS.F ht⟩) hS.2.2 dX12_settle_101
    ·
      have i_14 : z12.toInt ≥ p_1.toInt := by have z := g5_ltN (a := z12.toInt) (b := p_1.toInt) (by rfl) (by rfl) c_14; omega
      have hw9 : (v_pi (k0_pd - 1).toNatClampNeg).toInt < 30 := bnd_ge1 (by omega)
      refine lv_aload_n hx hb dX12_settle_25 rfl (lv_at hl 0 rfl) ?_
      refine lv_dup hx hb dX12_settle_26 rfl ?_
      refine va_get (D := G.1) (ci := 12) (v := .int k0_pd) (C := RX12) (T := TX12) (N := 52) hx hb hts inG_X12 hown hK hP 0 rfl rfl 23 (by decide) (hts _ fl_X12_240) (fun _ h9 => h9) rfl dX12_settle_27 ?_
      refine lv_iconst (v := 1) hx hb dX12_settle_30 (by decide) ?_
      refine lv_isub hx hb dX12_settle_31 ?_
      have t_15 : (k0_pd - 1).toInt = k0_pd.toInt - 1 := g5_isub (a := k0_pd.toInt) (b := 1) (by rfl) (by decide) (by omega) (by omega)
      refine va_put (D := G.1) (ci := 12) (v := .int (k0_pd - 1)) (ty := .int) (C := RX12) (T := TX12) (N := 52) hx hb hts inG_X12 tyX12 tyX12_ok nmX12 hown hK hP hD hS 0 rfl rfl 23 (by decide) (hts _ fl_X12_240) (fun _ h9 => h9) rfl (by decide +kernel) rfl rfl (Nat.le_of_ble_eq_true rfl) dX12_settle_32 (fun H locs hP hD hS => ?_)
      refine g5_rs [(b_o, (oc12 u_th u_sa b_rf b_ro b_im b_ke u_fd b_tp u_td u_fr u_to u_so u_wo u_fa u_bd u_nc b_nl k0_co b_op b_ar u_le b_pi b_pa (k0_pd - 1) u_od b_ws b_hw u_la b_se b_re u_bk u_va u_su u_ce u_ho u_wy u_bt u_ps b_pt u_tg u_sn b_ip u_ic b_ah b_be b_me u_wd b_tr b_ld u_st b_wn u_id)), (b_op, (arI G 400 k0_op)), (b_ar, (arI G 400 k0_ar)), (b_pi, (arI G 400 v_pi)), (b_pa, (arI G 400 v_pa))] hP hD (fun hP hD => ?_)
      refine lv_aload_n hx hb dX12_settle_35 rfl (lv_at hl 0 rfl) ?_
      refine va_get (D := G.1) (ci := 12) (v := .ref b_pi) (C := RX12) (T := TX12) (N := 52) hx hb hts inG_X12 hown hK hP 0 rfl rfl 21 (by decide) (hts _ fl_X12_39) (fun _ h9 => h9) rfl dX12_settle_36 ?_
      refine lv_aload_n hx hb dX12_settle_39 rfl (lv_at hl 0 rfl) ?_
      refine va_get (D := G.1) (ci := 12) (v := .int (k0_pd - 1)) (C := RX12) (T := TX12) (N := 52) hx hb hts inG_X12 hown hK hP 0 rfl rfl 23 (by decide) (hts _ fl_X12_240) (fun _ h9 => h9) rfl dX12_settle_40 ?_
      refine va_iald hx hb hK hP 3 0 rfl rfl (i := (k0_pd - 1)) (vp_in_iff.mpr ⟨by omega, by omega⟩) dX12_settle_43 ?_
      refine lv_bipush (v := 28) hx hb dX12_settle_44 (by decide) ?_
      refine lv_icmp_eq (tgt := 63) hx hb dX12_settle_46 (by decide) (fun c_16 => ?_) (fun c_16 => ?_)
      ·
        have i_16 : (v_pi (k0_pd - 1).toNatClampNeg).toInt = 28 := by have z := g5_eq (a := (v_pi (k0_pd - 1).toNatClampNeg).toInt) (b := 28) (by rfl) (by decide) c_16; omega
        have hj9 : isJ (v_pi (k0_pd - 1).toNatClampNeg) := by unfold isJ; omega
        refine lv_aload_n hx hb dX12_settle_63 rfl (lv_at hl 0 rfl) ?_
        refine va_get (D := G.1) (ci := 12) (v := .ref b_ar) (C := RX12) (T := TX12) (N := 52) hx hb hts inG_X12 hown hK hP 0 rfl rfl 19 (by decide) (hts _ fl_X12_36) (fun _ h9 => h9) rfl dX12_settle_64 ?_
        refine lv_aload_n hx hb dX12_settle_67 rfl (lv_at hl 0 rfl) ?_
        refine va_get (D := G.1) (ci := 12) (v := .ref b_pa) (C := RX12) (T := TX12) (N := 52) hx hb hts inG_X12 hown hK hP 0 rfl rfl 22 (by decide) (hts _ fl_X12_42) (fun _ h9 => h9) rfl dX12_settle_68 ?_
        refine lv_aload_n hx hb dX12_settle_71 rfl (lv_at hl 0 rfl) ?_
        refine va_get (D := G.1) (ci := 12) (v := .int (k0_pd - 1)) (C := RX12) (T := TX12) (N := 52) hx hb hts inG_X12 hown hK hP 0 rfl rfl 23 (by decide) (hts _ fl_X12_240) (fun _ h9 => h9) rfl dX12_settle_72 ?_
        refine va_iald hx hb hK hP 4 0 rfl rfl (i := (k0_pd - 1)) (vp_in_iff.mpr ⟨by omega, by omega⟩) dX12_settle_75 ?_
        have hq9 : 0 ≤ (v_pa (k0_pd - 1).toNatClampNeg).toInt ∧ (v_pa (k0_pd - 1).toNatClampNeg).toInt ≤ 399 := xj_pa i_3 (by omega) (by omega) (by omega) hj9
        refine lv_aload_n hx hb dX12_settle_76 rfl (lv_at hl 0 rfl) ?_
        refine va_get (D := G.1) (ci := 12) (v := .int k0_co) (C := RX12) (T := TX12) (N := 52) hx hb hts inG_X12 hown hK hP 0 rfl rfl 17 (by decide) (hts _ fl_X12_237) (fun _ h9 => h9) rfl dX12_settle_77 ?_
        refine va_iast hx hb hK hP hD hS 2 0 rfl rfl (i := (v_pa (k0_pd - 1).toNatClampNeg)) (x := k0_co) (vp_in_iff.mpr ⟨by omega, by omega⟩) dX12_settle_80 (fun H locs hP hD hS => ?_)
        refine g5_rs [(b_o, (oc12 u_th u_sa b_rf b_ro b_im b_ke u_fd b_tp u_td u_fr u_to u_so u_wo u_fa u_bd u_nc b_nl k0_co b_op b_ar u_le b_pi b_pa (k0_pd - 1) u_od b_ws b_hw u_la b_se b_re u_bk u_va u_su u_ce u_ho u_wy u_bt u_ps b_pt u_tg u_sn b_ip u_ic b_ah b_be b_me u_wd b_tr b_ld u_st b_wn u_id)), (b_op, (arI G 400 k0_op)), (b_ar, (arI G 400 (upd k0_ar (v_pa (k0_pd - 1).toNatClampNeg).toNatClampNeg k0_co))), (b_pi, (arI G 400 v_pi)), (b_pa, (arI G 400 v_pa))] hP hD (fun hP hD => ?_)
        refine lv_goto (tgt := 0) hx hb dX12_settle_81 (by decide) ?_
        exact ih_0_7 (k0_co, (k0_pd - 1), k0_op, (upd k0_ar (v_pa (k0_pd - 1).toNatClampNeg).toNatClampNeg k0_co)) ls H locs (show Int.toNat ((k0_pd - 1).toInt + 1) < Int.toNat (k0_pd.toInt + 1) from g_dn (show (k0_pd - 1).toInt < k0_pd.toInt by omega) (show 0 ≤ k0_pd.toInt by omega)) ⟨lv_sub hl [0, 1] rfl, hP, hD, hS, i_1, ⟨by omega, by omega⟩, xj_popJ i_3 (by omega) (by omega) hj9, hj_popJ i_3 i_4 (by omega) (by omega) hj9, s1_S i_5 (by omega) (by omega) (by omega), by omega⟩
      ·
        have n_16 : gNe ((v_pi (k0_pd - 1).toNatClampNeg).toInt) (28) := by have z := g5_eqN (a := (v_pi (k0_pd - 1).toNatClampNeg).toInt) (b := 28) (by rfl) (by decide) c_16; unfold gNe; omega
        refine lv_aload_n hx hb dX12_settle_49 rfl (lv_at hl 0 rfl) ?_
        refine va_get (D := G.1) (ci := 12) (v := .ref b_pi) (C := RX12) (T := TX12) (N := 52) hx hb hts inG_X12 hown hK hP 0 rfl rfl 21 (by decide) (hts _ fl_X12_39) (fun _ h9 => h9) rfl dX12_settle_50 ?_
        refine lv_aload_n hx hb dX12_settle_53 rfl (lv_at hl 0 rfl) ?_
        refine va_get (D := G.1) (ci := 12) (v := .int (k0_pd - 1)) (C := RX12) (T := TX12) (N := 52) hx hb hts inG_X12 hown hK hP 0 rfl rfl 23 (by decide) (hts _ fl_X12_240) (fun _ h9 => h9) rfl dX12_settle_54 ?_
        refine va_iald hx hb hK hP 3 0 rfl rfl (i := (k0_pd - 1)) (vp_in_iff.mpr ⟨by omega, by omega⟩) dX12_settle_57 ?_
        refine lv_bipush (v := 29) hx hb dX12_settle_58 (by decide) ?_
        refine lv_icmp_ne (tgt := 84) hx hb dX12_settle_60 (by decide) (fun c_17 => ?_) (fun c_17 => ?_)
        ·
          have n_17 : gNe ((v_pi (k0_pd - 1).toNatClampNeg).toInt) (29) := by have z := g5_ne (a := (v_pi (k0_pd - 1).toNatClampNeg).toInt) (b := 29) (by rfl) (by decide) c_17; unfold gNe; omega
          have i_17 : (v_pi (k0_pd - 1).toNatClampNeg).toInt ≤ 28 := by have z := g5_ne (a := (v_pi (k0_pd - 1).toNatClampNeg).toInt) (b := 29) (by rfl) (by decide) c_17; omega
          have hx28 : (v_pi (k0_pd - 1).toNatClampNeg).toInt < 28 := by have q9 : ¬ (v_pi (k0_pd - 1).toNatClampNeg).toInt = 28 := n_16; omega
          have hc9 : k0_co.toInt < 400 := xj_room i_3 (by omega) (by omega) (by omega) hx28
          refine lv_aload_n hx hb dX12_settle_84 rfl (lv_at hl 0 rfl) ?_
          refine lv_aload_n hx hb dX12_settle_85 rfl (lv_at hl 0 rfl) ?_
          refine va_get (D := G.1) (ci := 12) (v := .ref b_pi) (C := RX12) (T := TX12) (N := 52) hx hb hts inG_X12 hown hK hP 0 rfl rfl 21 (by decide) (hts _ fl_X12_39) (fun _ h9 => h9) rfl dX12_settle_86 ?_
          refine lv_aload_n hx hb dX12_settle_89 rfl (lv_at hl 0 rfl) ?_
          refine va_get (D := G.1) (ci := 12) (v := .int (k0_pd - 1)) (C := RX12) (T := TX12) (N := 52) hx hb hts inG_X12 hown hK hP 0 rfl rfl 23 (by decide) (hts _ fl_X12_240) (fun _ h9 => h9) rfl dX12_settle_90 ?_
          refine va_iald hx hb hK hP 3 0 rfl rfl (i := (k0_pd - 1)) (vp_in_iff.mpr ⟨by omega, by omega⟩) dX12_settle_93 ?_
          refine lv_iconst (v := 0) hx hb dX12_settle_94 (by decide) ?_
          obtain ⟨hPc, hDc, hFc⟩ := g5_sub3 (wc := [(b_o, (oc12 u_th u_sa b_rf b_ro b_im b_ke u_fd b_tp u_td u_fr u_to u_so u_wo u_fa u_bd u_nc b_nl k0_co b_op b_ar u_le b_pi b_pa (k0_pd - 1) u_od b_ws b_hw u_la b_se b_re u_bk u_va u_su u_ce u_ho u_wy u_bt u_ps b_pt u_tg u_sn b_ip u_ic b_ah b_be b_me u_wd b_tr b_ld u_st b_wn u_id)), (b_op, (arI G 400 k0_op)), (b_ar, (arI G 400 k0_ar))]) hP hD hS hA [0, 1, 2] (by decide) rfl
          refine va_callv (va_runV (As := [.int (v_pi (k0_pd - 1).toNatClampNeg), .int 0]) (rest := []) ⟨hx, hb, hml, hown, hts⟩ (n_emit l G b_o b_op b_ar b_rf b_ro b_im b_ke b_tp b_nl b_pi b_pa b_ws b_hw b_se b_re b_pt b_ip b_ah b_be b_me b_tr b_ld b_wn H.size u_th u_sa u_fd u_td u_fr u_to u_so u_fa u_bd u_nc k0_co u_le (k0_pd - 1) u_od u_la u_bk u_ce u_ho u_wy u_bt u_ps u_tg u_sn u_ic u_wd u_id (v_pi (k0_pd - 1).toNatClampNeg) 0 u_wo u_va u_su u_st k0_op k0_ar h_u_td h_u_fr h_u_to h_u_bd h_u_nc i_1 ⟨by omega, by omega⟩ h_u_la h_u_bk h_u_ce h_u_ho h_u_wy h_u_bt h_u_ps h_u_ic h_u_id (by omega)) (cwV 2 hts gV_X12_246 rfl rfl rfl hv_X12_emit ⟨Nat.le_of_ble_eq_true rfl, Nat.le_of_ble_eq_true rfl⟩) (g5_preV hPc hK hDc hN hT hS hFc (ci := 12) (q0 := 0) rfl rfl) rfl rfl hl.1 rfl (lv_room (Nat.le_of_ble_eq_true rfl)) dX12_settle_95 ⟨Nat.le_of_ble_eq_true rfl, Nat.le_of_ble_eq_true rfl⟩) hS (fun q _ h => hFc q h) hFc (fun u t H1 locs ht hvm hw hB hz1 hk1 hS => ?_)
          obtain ⟨hP1, hD1⟩ := hB
          rw [ht] at hP1
          obtain ⟨z20, i_18, i_19, rfl⟩ := hw
          have i_18 : 0 ≤ z20.toInt ∧ z20.toInt ≤ 400 := i_18
          have i_19 : z20.toInt = k0_co.toInt + 1 := i_19
          obtain ⟨hP, hD⟩ := va_join (wr := [(b_pi, (arI G 400 v_pi)), (b_pa, (arI G 400 v_pa))]) hP hD [0, 1, 2] [3, 4] rfl rfl (by decide) (by decide) hk1 hFc hP1 hD1
          generalize H1 = H at hP hS ⊢
          refine g5_rs [(b_pi, (arI G 400 v_pi)), (b_pa, (arI G 400 v_pa)), (b_o, (oc12 u_th u_sa b_rf b_ro b_im b_ke u_fd b_tp u_td u_fr u_to u_so u_wo u_fa u_bd u_nc b_nl z20 b_op b_ar u_le b_pi b_pa (k0_pd - 1) u_od b_ws b_hw u_la b_se b_re u_bk u_va u_su u_ce u_ho u_wy u_bt u_ps b_pt u_tg u_sn b_ip u_ic b_ah b_be b_me u_wd b_tr b_ld u_st b_wn u_id)), (b_op, (arI G 400 (upd k0_op k0_co.toNatClampNeg (v_pi (k0_pd - 1).toNatClampNeg)))), (b_ar, (arI G 400 (upd k0_ar k0_co.toNatClampNeg 0)))] hP hD (fun hP hD => ?_)
          refine lv_goto (tgt := 0) hx hb dX12_settle_98 (by decide) ?_
          exact ih_0_7 (z20, (k0_pd - 1), (upd k0_op k0_co.toNatClampNeg (v_pi (k0_pd - 1).toNatClampNeg)), (upd k0_ar k0_co.toNatClampNeg 0)) ls H locs (show Int.toNat ((k0_pd - 1).toInt + 1) < Int.toNat (k0_pd.toInt + 1) from g_dn (show (k0_pd - 1).toInt < k0_pd.toInt by omega) (show 0 ≤ k0_pd.toInt by omega)) ⟨lv_sub hl [0, 1] rfl, hP.sub [2, 3, 4, 0, 1] rfl, hD.sub [2, 3, 4, 0, 1] (by decide) rfl, hS, i_18, ⟨by omega, by omega⟩, xj_popE i_3 (by omega) (by omega) (by omega) hx28, hj_popE i_3 i_4 (by omega) (by omega) (by omega) hx28, s1_S i_5 (by omega) (by omega) (by omega), by omega⟩
        ·
          have i_17 : (v_pi (k0_pd - 1).toNatClampNeg).toInt = 29 := by have z := g5_neN (a := (v_pi (k0_pd - 1).toNatClampNeg).toInt) (b := 29) (by rfl) (by decide) c_17; omega
          have hj9 : isJ (v_pi (k0_pd - 1).toNatClampNeg) := by unfold isJ; omega
          refine lv_aload_n hx hb dX12_settle_63 rfl (lv_at hl 0 rfl) ?_
          refine va_get (D := G.1) (ci := 12) (v := .ref b_ar) (C := RX12) (T := TX12) (N := 52) hx hb hts inG_X12 hown hK hP 0 rfl rfl 19 (by decide) (hts _ fl_X12_36) (fun _ h9 => h9) rfl dX12_settle_64 ?_
          refine lv_aload_n hx hb dX12_settle_67 rfl (lv_at hl 0 rfl) ?_
          refine va_get (D := G.1) (ci := 12) (v := .ref b_pa) (C := RX12) (T := TX12) (N := 52) hx hb hts inG_X12 hown hK hP 0 rfl rfl 22 (by decide) (hts _ fl_X12_42) (fun _ h9 => h9) rfl dX12_settle_68 ?_
          refine lv_aload_n hx hb dX12_settle_71 rfl (lv_at hl 0 rfl) ?_
          refine va_get (D := G.1) (ci := 12) (v := .int (k0_pd - 1)) (C := RX12) (T := TX12) (N := 52) hx hb hts inG_X12 hown hK hP 0 rfl rfl 23 (by decide) (hts _ fl_X12_240) (fun _ h9 => h9) rfl dX12_settle_72 ?_
          refine va_iald hx hb hK hP 4 0 rfl rfl (i := (k0_pd - 1)) (vp_in_iff.mpr ⟨by omega, by omega⟩) dX12_settle_75 ?_
          have hq9 : 0 ≤ (v_pa (k0_pd - 1).toNatClampNeg).toInt ∧ (v_pa (k0_pd - 1).toNatClampNeg).toInt ≤ 399 := xj_pa i_3 (by omega) (by omega) (by omega) hj9
          refine lv_aload_n hx hb dX12_settle_76 rfl (lv_at hl 0 rfl) ?_
          refine va_get (D := G.1) (ci := 12) (v := .int k0_co) (C := RX12) (T := TX12) (N := 52) hx hb hts inG_X12 hown hK hP 0 rfl rfl 17 (by decide) (hts _ fl_X12_237) (fun _ h9 => h9) rfl dX12_settle_77 ?_
          refine va_iast hx hb hK hP hD hS 2 0 rfl rfl (i := (v_pa (k0_pd - 1).toNatClampNeg)) (x := k0_co) (vp_in_iff.mpr ⟨by omega, by omega⟩) dX12_settle_80 (fun H locs hP hD hS => ?_)
          refine g5_rs [(b_o, (oc12 u_th u_sa b_rf b_ro b_im b_ke u_fd b_tp u_td u_fr u_to u_so u_wo u_fa u_bd u_nc b_nl k0_co b_op b_ar u_le b_pi b_pa (k0_pd - 1) u_od b_ws b_hw u_la b_se b_re u_bk u_va u_su u_ce u_ho u_wy u_bt u_ps b_pt u_tg u_sn b_ip u_ic b_ah b_be b_me u_wd b_tr b_ld u_st b_wn u_id)), (b_op, (arI G 400 k0_op)), (b_ar, (arI G 400 (upd k0_ar (v_pa (k0_pd - 1).toNatClampNeg).toNatClampNeg k0_co))), (b_pi, (arI G 400 v_pi)), (b_pa, (arI G 400 v_pa))] hP hD (fun hP hD => ?_)
          refine lv_goto (tgt := 0) hx hb dX12_settle_81 (by decide) ?_
          exact ih_0_7 (k0_co, (k0_pd - 1), k0_op, (upd k0_ar (v_pa (k0_pd - 1).toNatClampNeg).toNatClampNeg k0_co)) ls H locs (show Int.toNat ((k0_pd - 1).toInt + 1) < Int.toNat (k0_pd.toInt + 1) from g_dn (show (k0_pd - 1).toInt < k0_pd.toInt by omega) (show 0 ≤ k0_pd.toInt by omega)) ⟨lv_sub hl [0, 1] rfl, hP, hD, hS, i_1, ⟨by omega, by omega⟩, xj_popJ i_3 (by omega) (by omega) hj9, hj_popJ i_3 i_4 (by omega) (by omega) hj9, s1_S i_5 (by omega) (by omega) (by omega), by omega⟩
theorem dgX12_inner_0 : ∀ r ∈ ([(0, (.iconst (-1), 1)), (1, (.istore_n 1, 1)), (2, (.iconst 0, 1)), (3, (.istore_n 2, 1)), (4, (.iload_n 2, 1)), (5, (.aload_n 0, 1)), (6, (.getfield 240, 3)), (9, (.if_icmp .ge 31, 3)), (12, (.aload_n 0, 1)), (13, (.getfield 39, 3)), (16, (.iload_n 2, 1)), (17, (.iaload, 1)), (18, (.bipush 30, 2)), (20, (.if_icmp .lt 12, 3)), (23, (.aload_n 0, 1)), (24, (.getfield 39, 3)), (27, (.iload_n 2, 1)), (28, (.iaload, 1)), (29, (.goto 4, 3)), (32, (.iload_n 1, 1)), (33, (.istore_n 1, 1)), (34, (.iinc 2 1, 3)), (37, (.goto (-33), 3)), (40, (.iload_n 1, 1)), (41, (.ireturn, 1))] : List (Nat × (Instr × Nat))), decode cX12_inner r.1 = .ok r.2 := by decide +kernel
theorem dX12_inner_0 : decode cX12_inner 0 = .ok (.iconst (-1), 1) := dgX12_inner_0 (0, (.iconst (-1), 1)) (List.mem_of_getElem? (i := 0) rfl)
theorem dX12_inner_1 : decode cX12_inner 1 = .ok (.istore_n 1, 1) := dgX12_inner_0 (1, (.istore_n 1, 1)) (List.mem_of_getElem? (i := 1) rfl)
theorem dX12_inner_2 : decode cX12_inner 2 = .ok (.iconst 0, 1) := dgX12_inner_0 (2, (.iconst 0, 1)) (List.mem_of_getElem? (i := 2) rfl)
theorem dX12_inner_3 : decode cX12_inner 3 = .ok (.istore_n 2, 1) := dgX12_inner_0 (3, (.istore_n 2, 1)) (List.mem_of_getElem? (i := 3) rfl)
theorem dX12_inner_4 : decode cX12_inner 4 = .ok (.iload_n 2, 1) := dgX12_inner_0 (4, (.iload_n 2, 1)) (List.mem_of_getElem? (i := 4) rfl)
theorem dX12_inner_5 : decode cX12_inner 5 = .ok (.aload_n 0, 1) := dgX12_inner_0 (5, (.aload_n 0, 1)) (List.mem_of_getElem? (i := 5) rfl)
theorem dX12_inner_6 : decode cX12_inner 6 = .ok (.getfield 240, 3) := dgX12_inner_0 (6, (.getfield 240, 3)) (List.mem_of_getElem? (i := 6) rfl)
theorem dX12_inner_9 : decode cX12_inner 9 = .ok (.if_icmp .ge 31, 3) := dgX12_inner_0 (9, (.if_icmp .ge 31, 3)) (List.mem_of_getElem? (i := 7) rfl)
theorem dX12_inner_12 : decode cX12_inner 12 = .ok (.aload_n 0, 1) := dgX12_inner_0 (12, (.aload_n 0, 1)) (List.mem_of_getElem? (i := 8) rfl)
theorem dX12_inner_13 : decode cX12_inner 13 = .ok (.getfield 39, 3) := dgX12_inner_0 (13, (.getfield 39, 3)) (List.mem_of_getElem? (i := 9) rfl)
theorem dX12_inner_16 : decode cX12_inner 16 = .ok (.iload_n 2, 1) := dgX12_inner_0 (16, (.iload_n 2, 1)) (List.mem_of_getElem? (i := 10) rfl)
theorem dX12_inner_17 : decode cX12_inner 17 = .ok (.iaload, 1) := dgX12_inner_0 (17, (.iaload, 1)) (List.mem_of_getElem? (i := 11) rfl)
theorem dX12_inner_18 : decode cX12_inner 18 = .ok (.bipush 30, 2) := dgX12_inner_0 (18, (.bipush 30, 2)) (List.mem_of_getElem? (i := 12) rfl)
theorem dX12_inner_20 : decode cX12_inner 20 = .ok (.if_icmp .lt 12, 3) := dgX12_inner_0 (20, (.if_icmp .lt 12, 3)) (List.mem_of_getElem? (i := 13) rfl)
theorem dX12_inner_23 : decode cX12_inner 23 = .ok (.aload_n 0, 1) := dgX12_inner_0 (23, (.aload_n 0, 1)) (List.mem_of_getElem? (i := 14) rfl)
theorem dX12_inner_24 : decode cX12_inner 24 = .ok (.getfield 39, 3) := dgX12_inner_0 (24, (.getfield 39, 3)) (List.mem_of_getElem? (i := 15) rfl)
theorem dX12_inner_27 : decode cX12_inner 27 = .ok (.iload_n 2, 1) := dgX12_inner_0 (27, (.iload_n 2, 1)) (List.mem_of_getElem? (i := 16) rfl)
theorem dX12_inner_28 : decode cX12_inner 28 = .ok (.iaload, 1) := dgX12_inner_0 (28, (.iaload, 1)) (List.mem_of_getElem? (i := 17) rfl)
theorem dX12_inner_29 : decode cX12_inner 29 = .ok (.goto 4, 3) := dgX12_inner_0 (29, (.goto 4, 3)) (List.mem_of_getElem? (i := 18) rfl)
theorem dX12_inner_32 : decode cX12_inner 32 = .ok (.iload_n 1, 1) := dgX12_inner_0 (32, (.iload_n 1, 1)) (List.mem_of_getElem? (i := 19) rfl)
theorem dX12_inner_33 : decode cX12_inner 33 = .ok (.istore_n 1, 1) := dgX12_inner_0 (33, (.istore_n 1, 1)) (List.mem_of_getElem? (i := 20) rfl)
theorem dX12_inner_34 : decode cX12_inner 34 = .ok (.iinc 2 1, 3) := dgX12_inner_0 (34, (.iinc 2 1, 3)) (List.mem_of_getElem? (i := 21) rfl)
theorem dX12_inner_37 : decode cX12_inner 37 = .ok (.goto (-33), 3) := dgX12_inner_0 (37, (.goto (-33), 3)) (List.mem_of_getElem? (i := 22) rfl)
theorem dX12_inner_40 : decode cX12_inner 40 = .ok (.iload_n 1, 1) := dgX12_inner_0 (40, (.iload_n 1, 1)) (List.mem_of_getElem? (i := 23) rfl)
theorem dX12_inner_41 : decode cX12_inner 41 = .ok (.ireturn, 1) := dgX12_inner_0 (41, (.ireturn, 1)) (List.mem_of_getElem? (i := 24) rfl)
set_option maxHeartbeats 4000000 in
set_option maxRecDepth 100000 in
theorem n_inner (l : Launch) (G : g5_G) (b_o b_pi b_rf b_ro b_im b_ke b_tp b_nl b_op b_ar b_pa b_ws b_hw b_se b_re b_pt b_ip b_ah b_be b_me b_tr b_ld b_wn : Nat) (sz : Nat) (u_th : Int32) (u_sa : Int32) (u_fd : Int32) (u_td : Int32) (u_fr : Int32) (u_to : Int32) (u_so : Int32) (u_fa : Int32) (u_bd : Int32) (u_nc : Int32) (u_co : Int32) (u_le : Int32) (u_pd : Int32) (u_od : Int32) (u_la : Int32) (u_bk : Int32) (u_ce : Int32) (u_ho : Int32) (u_wy : Int32) (u_bt : Int32) (u_ps : Int32) (u_tg : Int32) (u_sn : Int32) (u_ic : Int32) (u_wd : Int32) (u_id : Int32) (u_wo : Int64) (u_va : Int64) (u_su : Int64) (u_st : Int64) (v_pi : Nat → Int32) (h_u_td : 0 ≤ u_td.toInt ∧ u_td.toInt ≤ 400) (h_u_fr : 0 ≤ u_fr.toInt ∧ u_fr.toInt ≤ 400) (h_u_to : 0 ≤ u_to.toInt ∧ u_to.toInt ≤ 400) (h_u_bd : 0 ≤ u_bd.toInt ∧ u_bd.toInt ≤ 1) (h_u_nc : 0 ≤ u_nc.toInt ∧ u_nc.toInt ≤ 12) (h_u_co : 0 ≤ u_co.toInt ∧ u_co.toInt ≤ 400) (h_u_pd : 0 ≤ u_pd.toInt ∧ u_pd.toInt ≤ 400) (h_u_la : 0 ≤ u_la.toInt ∧ u_la.toInt ≤ 4840) (h_u_bk : 0 ≤ u_bk.toInt ∧ u_bk.toInt ≤ 1) (h_u_ce : 0 ≤ u_ce.toInt ∧ u_ce.toInt ≤ 63) (h_u_ho : 0 ≤ u_ho.toInt ∧ u_ho.toInt ≤ 23) (h_u_wy : 0 ≤ u_wy.toInt ∧ u_wy.toInt ≤ 3) (h_u_bt : 0 ≤ u_bt.toInt ∧ u_bt.toInt ≤ 1000000) (h_u_ps : 0 ≤ u_ps.toInt ∧ u_ps.toInt ≤ 200) (h_u_ic : 0 ≤ u_ic.toInt ∧ u_ic.toInt ≤ 1) (h_u_id : 0 ≤ u_id.toInt ∧ u_id.toInt ≤ 1) : Met l yX12_inner (wsG yX12_inner cX12_inner 3 (some .int)) ({ frames := 0, cells := 0, slots := 0, locals := 0 }) (va_Pc [.ref b_o] (g5_P G [(b_o, (oc12 u_th u_sa b_rf b_ro b_im b_ke u_fd b_tp u_td u_fr u_to u_so u_wo u_fa u_bd u_nc b_nl u_co b_op b_ar u_le b_pi b_pa u_pd u_od b_ws b_hw u_la b_se b_re u_bk u_va u_su u_ce u_ho u_wy u_bt u_ps b_pt u_tg u_sn b_ip u_ic b_ah b_be b_me u_wd b_tr b_ld u_st b_wn u_id)), (b_pi, (arI G 400 v_pi))] sz)) (va_Qi (fun (r : Int32) (u : va_W) => (∃ (o_r : Int32), (innP v_pi u_pd.toInt o_r.toInt) ∧ (r = o_r) ∧ (u = [(b_o, (oc12 u_th u_sa b_rf b_ro b_im b_ke u_fd b_tp u_td u_fr u_to u_so u_wo u_fa u_bd u_nc b_nl u_co b_op b_ar u_le b_pi b_pa u_pd u_od b_ws b_hw u_la b_se b_re u_bk u_va u_su u_ce u_ho u_wy u_bt u_ps b_pt u_tg u_sn b_ip u_ic b_ah b_be b_me u_wd b_tr b_ld u_st b_wn u_id)), (b_pi, (arI G 400 v_pi))]))) (g5_B G (va_A [(b_o, (oc12 u_th u_sa b_rf b_ro b_im b_ke u_fd b_tp u_td u_fr u_to u_so u_wo u_fa u_bd u_nc b_nl u_co b_op b_ar u_le b_pi b_pa u_pd u_od b_ws b_hw u_la b_se b_re u_bk u_va u_su u_ce u_ho u_wy u_bt u_ps b_pt u_tg u_sn b_ip u_ic b_ah b_be b_me u_wd b_tr b_ld u_st b_wn u_id)), (b_pi, (arI G 400 v_pi))] sz)) (va_A [(b_o, (oc12 u_th u_sa b_rf b_ro b_im b_ke u_fd b_tp u_td u_fr u_to u_so u_wo u_fa u_bd u_nc b_nl u_co b_op b_ar u_le b_pi b_pa u_pd u_od b_ws b_hw u_la b_se b_re u_bk u_va u_su u_ce u_ho u_wy u_bt u_ps b_pt u_tg u_sn b_ip u_ic b_ah b_be b_me u_wd b_tr b_ld u_st b_wn u_id)), (b_pi, (arI G 400 v_pi))] sz)) 0 0 (va_A [(b_o, (oc12 u_th u_sa b_rf b_ro b_im b_ke u_fd b_tp u_td u_fr u_to u_so u_wo u_fa u_bd u_nc b_nl u_co b_op b_ar u_le b_pi b_pa u_pd u_od b_ws b_hw u_la b_se b_re u_bk u_va u_su u_ce u_ho u_wy u_bt u_ps b_pt u_tg u_sn b_ip u_ic b_ah b_be b_me u_wd b_tr b_ld u_st b_wn u_id)), (b_pi, (arI G 400 v_pi))] sz) := by
  refine Met.ofW (cc := cX12_inner) (maxL := 3) (ret := (some .int)) (by decide) rfl ?_
  intro p e s m args below meth c s₁ B hml hv
  obtain ⟨rfl, hsz, hP, hK, hD0, hN, hT⟩ := hv
  have hx := B.exec
  have hb := B.bytes
  have hr := B.returns
  have hts : ∀ w ∈ tblG, w.before _ s = true := fun w h => atoms_spec (ws := (wsG yX12_inner cX12_inner 3 (some .int))) B.pre w (List.mem_cons_of_mem _ h)
  have hown : s.vm.findClass RX12 = some m.cls := findClass_of_methodNamed B.named
  have hlocks := B.notSynchronized
  subst hsz
  have hD := hD0.self (sz := s.heap.size)
  generalize hAe : va_A [(b_o, (oc12 u_th u_sa b_rf b_ro b_im b_ke u_fd b_tp u_td u_fr u_to u_so u_wo u_fa u_bd u_nc b_nl u_co b_op b_ar u_le b_pi b_pa u_pd u_od b_ws b_hw u_la b_se b_re u_bk u_va u_su u_ce u_ho u_wy u_bt u_ps b_pt u_tg u_sn b_ip u_ic b_ah b_be b_me u_wd b_tr b_ld u_st b_wn u_id)), (b_pi, (arI G 400 v_pi))] s.heap.size = A at hD hT ⊢
  have hA : ∀ q : Nat, s.heap.size ≤ q → A q := fun q h => by rw [← hAe]; exact Or.inr h
  have hS : va_S A s.heap s.heap [] := va_S.rf
  have hP : va_P G.1 vwCl [(b_o, (oc12 u_th u_sa b_rf b_ro b_im b_ke u_fd b_tp u_td u_fr u_to u_so u_wo u_fa u_bd u_nc b_nl u_co b_op b_ar u_le b_pi b_pa u_pd u_od b_ws b_hw u_la b_se b_re u_bk u_va u_su u_ce u_ho u_wy u_bt u_ps b_pt u_tg u_sn b_ip u_ic b_ah b_be b_me u_wd b_tr b_ld u_st b_wn u_id)), (b_pi, (arI G 400 v_pi))] s.heap := hP
  have hl := lv_entry ([.ref b_o]) (n := 3) (Nat.le_of_ble_eq_true rfl)
  rw [lg_entry_eq]
  generalize (lg_sl ([.ref b_o]) ++ List.replicate (3 - (lg_sl ([.ref b_o])).length) Slot.unset).toArray = ls at hl ⊢
  have hl : lv_has ls 3 [(0, .ref b_o)] := hl
  refine lv_iconst (v := (-1)) hx hb dX12_inner_0 (by decide) ?_
  refine lv_istore_n (lv' := [(1, .int (-1)), (0, .ref b_o)]) hx hb dX12_inner_1 rfl hl (by decide) rfl (fun ls hl => ?_)
  refine lv_iconst (v := 0) hx hb dX12_inner_2 (by decide) ?_
  refine lv_istore_n (lv' := [(2, .int 0), (1, .int (-1)), (0, .ref b_o)]) hx hb dX12_inner_3 rfl hl (by decide) rfl (fun ls hl => ?_)
  refine g5_loop (α := (Int32) × (Int32)) (fun (q : (Int32) × (Int32)) (ls : Array Slot) (H : Heap) (locs : List Loc) => match q with | (k4_2, k4_1) => lv_has ls 3 [(1, .int k4_1), (2, .int k4_2), (0, .ref b_o)] ∧ va_P G.1 vwCl [(b_o, (oc12 u_th u_sa b_rf b_ro b_im b_ke u_fd b_tp u_td u_fr u_to u_so u_wo u_fa u_bd u_nc b_nl u_co b_op b_ar u_le b_pi b_pa u_pd u_od b_ws b_hw u_la b_se b_re u_bk u_va u_su u_ce u_ho u_wy u_bt u_ps b_pt u_tg u_sn b_ip u_ic b_ah b_be b_me u_wd b_tr b_ld u_st b_wn u_id)), (b_pi, (arI G 400 v_pi))] H ∧ va_D A [(b_o, (oc12 u_th u_sa b_rf b_ro b_im b_ke u_fd b_tp u_td u_fr u_to u_so u_wo u_fa u_bd u_nc b_nl u_co b_op b_ar u_le b_pi b_pa u_pd u_od b_ws b_hw u_la b_se b_re u_bk u_va u_su u_ce u_ho u_wy u_bt u_ps b_pt u_tg u_sn b_ip u_ic b_ah b_be b_me u_wd b_tr b_ld u_st b_wn u_id)), (b_pi, (arI G 400 v_pi))] ∧ va_S A s.heap H locs ∧ (0 ≤ k4_2.toInt ∧ k4_2.toInt ≤ 400) ∧ (innP v_pi k4_2.toInt k4_1.toInt) ∧ (k4_2.toInt ≤ u_pd.toInt)) (fun (q : (Int32) × (Int32)) => match q with | (k4_2, k4_1) => Int.toNat (400 - k4_2.toInt)) (0, (-1)) ⟨lv_sub hl [1, 0, 2] rfl, hP, hD, hS, ⟨by decide, by decide⟩, inn_0 (by decide) (by decide), by have z0 : (0 : Int32).toInt = 0 := (by decide); omega⟩ ?_
  rintro ⟨k4_2, k4_1⟩ ls H locs ⟨hl, hP, hD, hS, i_1, i_2, i_3⟩ ih_4_4
  have hl : lv_has ls 3 [(1, .int k4_1), (2, .int k4_2), (0, .ref b_o)] := hl
  have i_1 : 0 ≤ k4_2.toInt ∧ k4_2.toInt ≤ 400 := i_1
  have i_2 : innP v_pi k4_2.toInt k4_1.toInt := i_2
  have i_3 : k4_2.toInt ≤ u_pd.toInt := i_3
  refine g5_rs [(b_o, (oc12 u_th u_sa b_rf b_ro b_im b_ke u_fd b_tp u_td u_fr u_to u_so u_wo u_fa u_bd u_nc b_nl u_co b_op b_ar u_le b_pi b_pa u_pd u_od b_ws b_hw u_la b_se b_re u_bk u_va u_su u_ce u_ho u_wy u_bt u_ps b_pt u_tg u_sn b_ip u_ic b_ah b_be b_me u_wd b_tr b_ld u_st b_wn u_id)), (b_pi, (arI G 400 v_pi))] hP hD (fun hP hD => ?_)
  refine lv_iload_n hx hb dX12_inner_4 rfl (lv_at hl 1 rfl) ?_
  refine lv_aload_n hx hb dX12_inner_5 rfl (lv_at hl 2 rfl) ?_
  refine va_get (D := G.1) (ci := 12) (v := .int u_pd) (C := RX12) (T := TX12) (N := 52) hx hb hts inG_X12 hown hK hP 0 rfl rfl 23 (by decide) (hts _ fl_X12_240) (fun _ h9 => h9) rfl dX12_inner_6 ?_
  refine lv_icmp_ge (tgt := 40) hx hb dX12_inner_9 (by decide) (fun c_5 => ?_) (fun c_5 => ?_)
  ·
    have i_5 : k4_2.toInt ≥ u_pd.toInt := by have z := g5_ge (a := k4_2.toInt) (b := u_pd.toInt) (by rfl) (by rfl) c_5; omega
    refine lv_iload_n hx hb dX12_inner_40 rfl (lv_at hl 0 rfl) ?_
    exact W.iret (v := k4_1) hx hb hr (fun t ht hW => ⟨⟨k4_1, [(b_o, (oc12 u_th u_sa b_rf b_ro b_im b_ke u_fd b_tp u_td u_fr u_to u_so u_wo u_fa u_bd u_nc b_nl u_co b_op b_ar u_le b_pi b_pa u_pd u_od b_ws b_hw u_la b_se b_re u_bk u_va u_su u_ce u_ho u_wy u_bt u_ps b_pt u_tg u_sn b_ip u_ic b_ah b_be b_me u_wd b_tr b_ld u_st b_wn u_id)), (b_pi, (arI G 400 v_pi))], rfl, ⟨k4_1, by have q9 : k4_2.toInt = u_pd.toInt := (by omega); rw [← q9]; exact i_2, rfl, rfl⟩, by rw [ht]; exact hP.sub [0, 1] rfl, hD.sub [0, 1] (by decide) rfl⟩, hS.F ht⟩) hS.2.2 dX12_inner_41
  ·
    have i_5 : k4_2.toInt < u_pd.toInt := by have z := g5_geN (a := k4_2.toInt) (b := u_pd.toInt) (by rfl) (by rfl) c_5; omega
    refine lv_aload_n hx hb dX12_inner_12 rfl (lv_at hl 2 rfl) ?_
    refine va_get (D := G.1) (ci := 12) (v := .ref b_pi) (C := RX12) (T := TX12) (N := 52) hx hb hts inG_X12 hown hK hP 0 rfl rfl 21 (by decide) (hts _ fl_X12_39) (fun _ h9 => h9) rfl dX12_inner_13 ?_
    refine lv_iload_n hx hb dX12_inner_16 rfl (lv_at hl 1 rfl) ?_
    refine va_iald hx hb hK hP 1 0 rfl rfl (i := k4_2) (vp_in_iff.mpr ⟨by omega, by omega⟩) dX12_inner_17 ?_
    refine lv_bipush (v := 30) hx hb dX12_inner_18 (by decide) ?_
    refine lv_icmp_lt (tgt := 32) hx hb dX12_inner_20 (by decide) (fun c_6 => ?_) (fun c_6 => ?_)
    ·
      have i_6 : (v_pi k4_2.toNatClampNeg).toInt < 30 := by have z := g5_lt (a := (v_pi k4_2.toNatClampNeg).toInt) (b := 30) (by rfl) (by decide) c_6; omega
      refine lv_iload_n hx hb dX12_inner_32 rfl (lv_at hl 0 rfl) ?_
      refine lv_istore_n (lv' := [(1, .int k4_1), (2, .int k4_2), (0, .ref b_o)]) hx hb dX12_inner_33 rfl hl (by decide) rfl (fun ls hl => ?_)
      refine lv_iinc (v := (k4_2 + 1)) (lv' := [(2, .int (k4_2 + 1)), (1, .int k4_1), (0, .ref b_o)]) hx hb dX12_inner_34 hl (k := 1) rfl rfl (by decide) rfl (fun ls hl => ?_)
      have t_7 : (k4_2 + 1).toInt = k4_2.toInt + 1 := g5_iadd (a := k4_2.toInt) (b := 1) rfl (by decide) (by omega) (by omega)
      refine lv_goto (tgt := 4) hx hb dX12_inner_37 (by decide) ?_
      exact ih_4_4 ((k4_2 + 1), k4_1) ls H locs (show Int.toNat (400 - (k4_2 + 1).toInt) < Int.toNat (400 - k4_2.toInt) from g_up (show k4_2.toInt < (k4_2 + 1).toInt by omega) (show k4_2.toInt < 400 by omega)) ⟨lv_sub hl [1, 0, 2] rfl, hP, hD, hS, ⟨by omega, by omega⟩, inn_no i_2 (by omega) (by omega) (by omega), by omega⟩
    ·
      have i_6 : (v_pi k4_2.toNatClampNeg).toInt ≥ 30 := by have z := g5_ltN (a := (v_pi k4_2.toNatClampNeg).toInt) (b := 30) (by rfl) (by decide) c_6; omega
      refine lv_aload_n hx hb dX12_inner_23 rfl (lv_at hl 2 rfl) ?_
      refine va_get (D := G.1) (ci := 12) (v := .ref b_pi) (C := RX12) (T := TX12) (N := 52) hx hb hts inG_X12 hown hK hP 0 rfl rfl 21 (by decide) (hts _ fl_X12_39) (fun _ h9 => h9) rfl dX12_inner_24 ?_
      refine lv_iload_n hx hb dX12_inner_27 rfl (lv_at hl 1 rfl) ?_
      refine va_iald hx hb hK hP 1 0 rfl rfl (i := k4_2) (vp_in_iff.mpr ⟨by omega, by omega⟩) dX12_inner_28 ?_
      refine lv_goto (tgt := 33) hx hb dX12_inner_29 (by decide) ?_
      refine lv_istore_n (lv' := [(1, .int (v_pi k4_2.toNatClampNeg)), (2, .int k4_2), (0, .ref b_o)]) hx hb dX12_inner_33 rfl hl (by decide) rfl (fun ls hl => ?_)
      refine lv_iinc (v := (k4_2 + 1)) (lv' := [(2, .int (k4_2 + 1)), (1, .int (v_pi k4_2.toNatClampNeg)), (0, .ref b_o)]) hx hb dX12_inner_34 hl (k := 1) rfl rfl (by decide) rfl (fun ls hl => ?_)
      have t_8 : (k4_2 + 1).toInt = k4_2.toInt + 1 := g5_iadd (a := k4_2.toInt) (b := 1) rfl (by decide) (by omega) (by omega)
      refine lv_goto (tgt := 4) hx hb dX12_inner_37 (by decide) ?_
      exact ih_4_4 ((k4_2 + 1), (v_pi k4_2.toNatClampNeg)) ls H locs (show Int.toNat (400 - (k4_2 + 1).toInt) < Int.toNat (400 - k4_2.toInt) from g_up (show k4_2.toInt < (k4_2 + 1).toInt by omega) (show k4_2.toInt < 400 by omega)) ⟨lv_sub hl [1, 0, 2] rfl, hP, hD, hS, ⟨by omega, by omega⟩, inn_yes (by omega) (by omega) (by omega), by omega⟩
theorem dgX12_isCompared_0 : ∀ r ∈ ([(0, (.aload_n 0, 1)), (1, (.getfield 240, 3)), (4, (.iconst 1, 1)), (5, (.isub, 1)), (6, (.istore_n 1, 1)), (7, (.iload_n 1, 1)), (8, (.ifCond .lt 28, 3)), (11, (.aload_n 0, 1)), (12, (.getfield 39, 3)), (15, (.iload_n 1, 1)), (16, (.iaload, 1)), (17, (.i2l, 1)), (18, (.ldc2_w 250, 3)), (21, (.ldc2_w 130, 3)), (24, (.invokestatic 121, 3)), (27, (.ifCond .eq 9, 3)), (30, (.iinc 1 (-1), 3)), (33, (.goto (-26), 3)), (36, (.iload_n 1, 1)), (37, (.ifCond .lt 26, 3)), (40, (.aload_n 0, 1)), (41, (.getfield 39, 3)), (44, (.iload_n 1, 1)), (45, (.iaload, 1)), (46, (.i2l, 1)), (47, (.ldc2_w 47, 3)), (50, (.ldc2_w 252, 3)), (53, (.invokestatic 121, 3)), (56, (.ifCond .eq 7, 3)), (59, (.iconst 1, 1)), (60, (.goto 4, 3)), (63, (.iconst 0, 1)), (64, (.ireturn, 1))] : List (Nat × (Instr × Nat))), decode cX12_isCompared r.1 = .ok r.2 := by decide +kernel
theorem dX12_isCompared_0 : decode cX12_isCompared 0 = .ok (.aload_n 0, 1) := dgX12_isCompared_0 (0, (.aload_n 0, 1)) (List.mem_of_getElem? (i := 0) rfl)
theorem dX12_isCompared_1 : decode cX12_isCompared 1 = .ok (.getfield 240, 3) := dgX12_isCompared_0 (1, (.getfield 240, 3)) (List.mem_of_getElem? (i := 1) rfl)
theorem dX12_isCompared_4 : decode cX12_isCompared 4 = .ok (.iconst 1, 1) := dgX12_isCompared_0 (4, (.iconst 1, 1)) (List.mem_of_getElem? (i := 2) rfl)
theorem dX12_isCompared_5 : decode cX12_isCompared 5 = .ok (.isub, 1) := dgX12_isCompared_0 (5, (.isub, 1)) (List.mem_of_getElem? (i := 3) rfl)
theorem dX12_isCompared_6 : decode cX12_isCompared 6 = .ok (.istore_n 1, 1) := dgX12_isCompared_0 (6, (.istore_n 1, 1)) (List.mem_of_getElem? (i := 4) rfl)
theorem dX12_isCompared_7 : decode cX12_isCompared 7 = .ok (.iload_n 1, 1) := dgX12_isCompared_0 (7, (.iload_n 1, 1)) (List.mem_of_getElem? (i := 5) rfl)
theorem dX12_isCompared_8 : decode cX12_isCompared 8 = .ok (.ifCond .lt 28, 3) := dgX12_isCompared_0 (8, (.ifCond .lt 28, 3)) (List.mem_of_getElem? (i := 6) rfl)
theorem dX12_isCompared_11 : decode cX12_isCompared 11 = .ok (.aload_n 0, 1) := dgX12_isCompared_0 (11, (.aload_n 0, 1)) (List.mem_of_getElem? (i := 7) rfl)
theorem dX12_isCompared_12 : decode cX12_isCompared 12 = .ok (.getfield 39, 3) := dgX12_isCompared_0 (12, (.getfield 39, 3)) (List.mem_of_getElem? (i := 8) rfl)
theorem dX12_isCompared_15 : decode cX12_isCompared 15 = .ok (.iload_n 1, 1) := dgX12_isCompared_0 (15, (.iload_n 1, 1)) (List.mem_of_getElem? (i := 9) rfl)
theorem dX12_isCompared_16 : decode cX12_isCompared 16 = .ok (.iaload, 1) := dgX12_isCompared_0 (16, (.iaload, 1)) (List.mem_of_getElem? (i := 10) rfl)
theorem dX12_isCompared_17 : decode cX12_isCompared 17 = .ok (.i2l, 1) := dgX12_isCompared_0 (17, (.i2l, 1)) (List.mem_of_getElem? (i := 11) rfl)
theorem dX12_isCompared_18 : decode cX12_isCompared 18 = .ok (.ldc2_w 250, 3) := dgX12_isCompared_0 (18, (.ldc2_w 250, 3)) (List.mem_of_getElem? (i := 12) rfl)
theorem dX12_isCompared_21 : decode cX12_isCompared 21 = .ok (.ldc2_w 130, 3) := dgX12_isCompared_0 (21, (.ldc2_w 130, 3)) (List.mem_of_getElem? (i := 13) rfl)
theorem dX12_isCompared_24 : decode cX12_isCompared 24 = .ok (.invokestatic 121, 3) := dgX12_isCompared_0 (24, (.invokestatic 121, 3)) (List.mem_of_getElem? (i := 14) rfl)
theorem dX12_isCompared_27 : decode cX12_isCompared 27 = .ok (.ifCond .eq 9, 3) := dgX12_isCompared_0 (27, (.ifCond .eq 9, 3)) (List.mem_of_getElem? (i := 15) rfl)
theorem dX12_isCompared_30 : decode cX12_isCompared 30 = .ok (.iinc 1 (-1), 3) := dgX12_isCompared_0 (30, (.iinc 1 (-1), 3)) (List.mem_of_getElem? (i := 16) rfl)
theorem dX12_isCompared_33 : decode cX12_isCompared 33 = .ok (.goto (-26), 3) := dgX12_isCompared_0 (33, (.goto (-26), 3)) (List.mem_of_getElem? (i := 17) rfl)
theorem dX12_isCompared_36 : decode cX12_isCompared 36 = .ok (.iload_n 1, 1) := dgX12_isCompared_0 (36, (.iload_n 1, 1)) (List.mem_of_getElem? (i := 18) rfl)
theorem dX12_isCompared_37 : decode cX12_isCompared 37 = .ok (.ifCond .lt 26, 3) := dgX12_isCompared_0 (37, (.ifCond .lt 26, 3)) (List.mem_of_getElem? (i := 19) rfl)
theorem dX12_isCompared_40 : decode cX12_isCompared 40 = .ok (.aload_n 0, 1) := dgX12_isCompared_0 (40, (.aload_n 0, 1)) (List.mem_of_getElem? (i := 20) rfl)
theorem dX12_isCompared_41 : decode cX12_isCompared 41 = .ok (.getfield 39, 3) := dgX12_isCompared_0 (41, (.getfield 39, 3)) (List.mem_of_getElem? (i := 21) rfl)
theorem dX12_isCompared_44 : decode cX12_isCompared 44 = .ok (.iload_n 1, 1) := dgX12_isCompared_0 (44, (.iload_n 1, 1)) (List.mem_of_getElem? (i := 22) rfl)
theorem dX12_isCompared_45 : decode cX12_isCompared 45 = .ok (.iaload, 1) := dgX12_isCompared_0 (45, (.iaload, 1)) (List.mem_of_getElem? (i := 23) rfl)
theorem dX12_isCompared_46 : decode cX12_isCompared 46 = .ok (.i2l, 1) := dgX12_isCompared_0 (46, (.i2l, 1)) (List.mem_of_getElem? (i := 24) rfl)
theorem dX12_isCompared_47 : decode cX12_isCompared 47 = .ok (.ldc2_w 47, 3) := dgX12_isCompared_0 (47, (.ldc2_w 47, 3)) (List.mem_of_getElem? (i := 25) rfl)
theorem dX12_isCompared_50 : decode cX12_isCompared 50 = .ok (.ldc2_w 252, 3) := dgX12_isCompared_0 (50, (.ldc2_w 252, 3)) (List.mem_of_getElem? (i := 26) rfl)
theorem dX12_isCompared_53 : decode cX12_isCompared 53 = .ok (.invokestatic 121, 3) := dgX12_isCompared_0 (53, (.invokestatic 121, 3)) (List.mem_of_getElem? (i := 27) rfl)
theorem dX12_isCompared_56 : decode cX12_isCompared 56 = .ok (.ifCond .eq 7, 3) := dgX12_isCompared_0 (56, (.ifCond .eq 7, 3)) (List.mem_of_getElem? (i := 28) rfl)
theorem dX12_isCompared_59 : decode cX12_isCompared 59 = .ok (.iconst 1, 1) := dgX12_isCompared_0 (59, (.iconst 1, 1)) (List.mem_of_getElem? (i := 29) rfl)
theorem dX12_isCompared_60 : decode cX12_isCompared 60 = .ok (.goto 4, 3) := dgX12_isCompared_0 (60, (.goto 4, 3)) (List.mem_of_getElem? (i := 30) rfl)
theorem dX12_isCompared_63 : decode cX12_isCompared 63 = .ok (.iconst 0, 1) := dgX12_isCompared_0 (63, (.iconst 0, 1)) (List.mem_of_getElem? (i := 31) rfl)
theorem dX12_isCompared_64 : decode cX12_isCompared 64 = .ok (.ireturn, 1) := dgX12_isCompared_0 (64, (.ireturn, 1)) (List.mem_of_getElem? (i := 32) rfl)
theorem kl_X12_250 : Cond.constantLong RX12 250 20 ∈ tblG := tg 1586 (by decide +kernel) (by decide +kernel)
set_option maxHeartbeats 4000000 in
set_option maxRecDepth 100000 in
theorem n_in_20_23 (l : Launch) (G : g5_G) (sz : Nat) (p_x : Int32) : Met l yX12_in (wsG yX12_in cX12_in 6 (some .boolean)) ({ frames := 0, cells := 0, slots := 0, locals := 0 }) (va_Pc [.long p_x.toInt64, .long 20, .long 23] (g5_P G [] sz)) (va_Qi (fun (r : Int32) (u : va_W) => ((p_x.toInt < 20 ∨ 23 < p_x.toInt) ∧ (r = 0) ∧ (u = [])) ∨ ((20 ≤ p_x.toInt ∧ p_x.toInt ≤ 23) ∧ (r = 1) ∧ (u = []))) (g5_B G (va_A [] sz)) (va_A [] sz)) 0 0 (va_A [] sz) := by
  refine Met.ofW (cc := cX12_in) (maxL := 6) (ret := (some .boolean)) (by decide) rfl ?_
  intro p e s m args below meth c s₁ B hml hv
  obtain ⟨rfl, hsz, hP, hK, hD0, hN, hT⟩ := hv
  have hx := B.exec
  have hb := B.bytes
  have hr := B.returns
  have hts : ∀ w ∈ tblG, w.before _ s = true := fun w h => atoms_spec (ws := (wsG yX12_in cX12_in 6 (some .boolean))) B.pre w (List.mem_cons_of_mem _ h)
  have hown : s.vm.findClass RX12 = some m.cls := findClass_of_methodNamed B.named
  have hlocks := B.notSynchronized
  subst hsz
  have hD := hD0.self (sz := s.heap.size)
  generalize hAe : va_A [] s.heap.size = A at hD hT ⊢
  have hA : ∀ q : Nat, s.heap.size ≤ q → A q := fun q h => by rw [← hAe]; exact Or.inr h
  have hS : va_S A s.heap s.heap [] := va_S.rf
  have hP : va_P G.1 vwCl [] s.heap := hP
  have hl := lv_entry ([.long p_x.toInt64, .long 20, .long 23]) (n := 6) (Nat.le_of_ble_eq_true rfl)
  rw [lg_entry_eq]
  generalize (lg_sl ([.long p_x.toInt64, .long 20, .long 23]) ++ List.replicate (6 - (lg_sl ([.long p_x.toInt64, .long 20, .long 23])).length) Slot.unset).toArray = ls at hl ⊢
  have hl : lv_has ls 6 [(0, .long p_x.toInt64), (2, .long 20), (4, .long 23)] := hl
  refine lv_lload_n hx hb dX12_in_0 rfl (lv_at hl 0 rfl) ?_
  refine lv_lload_n hx hb dX12_in_1 rfl (lv_at hl 1 rfl) ?_
  have tl_1 : p_x.toInt64.toInt = p_x.toInt := Int32.toInt_toInt64 _
  have tl_2 : (20 : Int64).toInt = 20 := (by decide)
  have tc_3 := g5_cmpI p_x.toInt64 20
  refine W.lcmp hx hb dX12_in_2 ?_
  refine lv_if_lt (tgt := 17) hx hb dX12_in_3 (by decide) (fun c_4 => ?_) (fun c_4 => ?_)
  ·
    have i_4 : (lg_cmp p_x.toInt64 20).toInt < 0 := by have z := g5_lt (a := (lg_cmp p_x.toInt64 20).toInt) (b := 0) (by rfl) (by decide) c_4; omega
    refine lv_iconst (v := 0) hx hb dX12_in_17 (by decide) ?_
    exact W.zret (v := 0) hx hb hr rfl (fun t ht hW => ⟨⟨0, [], rfl, Or.inl (⟨by omega, rfl, rfl⟩), by rw [ht]; exact hP.sub [] rfl, hD.sub [] (by decide) rfl⟩, hS.F ht⟩) hS.2.2 dX12_in_18
  ·
    have i_4 : (lg_cmp p_x.toInt64 20).toInt ≥ 0 := by have z := g5_ltN (a := (lg_cmp p_x.toInt64 20).toInt) (b := 0) (by rfl) (by decide) c_4; omega
    refine lv_lload_n hx hb dX12_in_6 rfl (lv_at hl 0 rfl) ?_
    refine lv_lload hx hb dX12_in_7 (lv_at hl 2 rfl) ?_
    have tl_5 : p_x.toInt64.toInt = p_x.toInt := Int32.toInt_toInt64 _
    have tl_6 : (23 : Int64).toInt = 23 := (by decide)
    have tc_7 := g5_cmpI p_x.toInt64 23
    refine W.lcmp hx hb dX12_in_9 ?_
    refine lv_if_gt (tgt := 17) hx hb dX12_in_10 (by decide) (fun c_8 => ?_) (fun c_8 => ?_)
    ·
      have i_8 : (lg_cmp p_x.toInt64 23).toInt > 0 := by have z := g5_gt (a := (lg_cmp p_x.toInt64 23).toInt) (b := 0) (by rfl) (by decide) c_8; omega
      refine lv_iconst (v := 0) hx hb dX12_in_17 (by decide) ?_
      exact W.zret (v := 0) hx hb hr rfl (fun t ht hW => ⟨⟨0, [], rfl, Or.inl (⟨by omega, rfl, rfl⟩), by rw [ht]; exact hP.sub [] rfl, hD.sub [] (by decide) rfl⟩, hS.F ht⟩) hS.2.2 dX12_in_18
    ·
      have i_8 : (lg_cmp p_x.toInt64 23).toInt ≤ 0 := by have z := g5_gtN (a := (lg_cmp p_x.toInt64 23).toInt) (b := 0) (by rfl) (by decide) c_8; omega
      refine lv_iconst (v := 1) hx hb dX12_in_13 (by decide) ?_
      refine lv_goto (tgt := 18) hx hb dX12_in_14 (by decide) ?_
      exact W.zret (v := 1) hx hb hr rfl (fun t ht hW => ⟨⟨1, [], rfl, Or.inr (⟨by omega, rfl, rfl⟩), by rw [ht]; exact hP.sub [] rfl, hD.sub [] (by decide) rfl⟩, hS.F ht⟩) hS.2.2 dX12_in_18
theorem kl_X12_47 : Cond.constantLong RX12 47 24 ∈ tblG := tg 1191 (by decide +kernel) (by decide +kernel)
theorem kl_X12_252 : Cond.constantLong RX12 252 26 ∈ tblG := tg 1587 (by decide +kernel) (by decide +kernel)
set_option maxHeartbeats 4000000 in
set_option maxRecDepth 100000 in
theorem n_in_24_26 (l : Launch) (G : g5_G) (sz : Nat) (p_x : Int32) : Met l yX12_in (wsG yX12_in cX12_in 6 (some .boolean)) ({ frames := 0, cells := 0, slots := 0, locals := 0 }) (va_Pc [.long p_x.toInt64, .long 24, .long 26] (g5_P G [] sz)) (va_Qi (fun (r : Int32) (u : va_W) => ((p_x.toInt < 24 ∨ 26 < p_x.toInt) ∧ (r = 0) ∧ (u = [])) ∨ ((24 ≤ p_x.toInt ∧ p_x.toInt ≤ 26) ∧ (r = 1) ∧ (u = []))) (g5_B G (va_A [] sz)) (va_A [] sz)) 0 0 (va_A [] sz) := by
  refine Met.ofW (cc := cX12_in) (maxL := 6) (ret := (some .boolean)) (by decide) rfl ?_
  intro p e s m args below meth c s₁ B hml hv
  obtain ⟨rfl, hsz, hP, hK, hD0, hN, hT⟩ := hv
  have hx := B.exec
  have hb := B.bytes
  have hr := B.returns
  have hts : ∀ w ∈ tblG, w.before _ s = true := fun w h => atoms_spec (ws := (wsG yX12_in cX12_in 6 (some .boolean))) B.pre w (List.mem_cons_of_mem _ h)
  have hown : s.vm.findClass RX12 = some m.cls := findClass_of_methodNamed B.named
  have hlocks := B.notSynchronized
  subst hsz
  have hD := hD0.self (sz := s.heap.size)
  generalize hAe : va_A [] s.heap.size = A at hD hT ⊢
  have hA : ∀ q : Nat, s.heap.size ≤ q → A q := fun q h => by rw [← hAe]; exact Or.inr h
  have hS : va_S A s.heap s.heap [] := va_S.rf
  have hP : va_P G.1 vwCl [] s.heap := hP
  have hl := lv_entry ([.long p_x.toInt64, .long 24, .long 26]) (n := 6) (Nat.le_of_ble_eq_true rfl)
  rw [lg_entry_eq]
  generalize (lg_sl ([.long p_x.toInt64, .long 24, .long 26]) ++ List.replicate (6 - (lg_sl ([.long p_x.toInt64, .long 24, .long 26])).length) Slot.unset).toArray = ls at hl ⊢
  have hl : lv_has ls 6 [(0, .long p_x.toInt64), (2, .long 24), (4, .long 26)] := hl
  refine lv_lload_n hx hb dX12_in_0 rfl (lv_at hl 0 rfl) ?_
  refine lv_lload_n hx hb dX12_in_1 rfl (lv_at hl 1 rfl) ?_
  have tl_1 : p_x.toInt64.toInt = p_x.toInt := Int32.toInt_toInt64 _
  have tl_2 : (24 : Int64).toInt = 24 := (by decide)
  have tc_3 := g5_cmpI p_x.toInt64 24
  refine W.lcmp hx hb dX12_in_2 ?_
  refine lv_if_lt (tgt := 17) hx hb dX12_in_3 (by decide) (fun c_4 => ?_) (fun c_4 => ?_)
  ·
    have i_4 : (lg_cmp p_x.toInt64 24).toInt < 0 := by have z := g5_lt (a := (lg_cmp p_x.toInt64 24).toInt) (b := 0) (by rfl) (by decide) c_4; omega
    refine lv_iconst (v := 0) hx hb dX12_in_17 (by decide) ?_
    exact W.zret (v := 0) hx hb hr rfl (fun t ht hW => ⟨⟨0, [], rfl, Or.inl (⟨by omega, rfl, rfl⟩), by rw [ht]; exact hP.sub [] rfl, hD.sub [] (by decide) rfl⟩, hS.F ht⟩) hS.2.2 dX12_in_18
  ·
    have i_4 : (lg_cmp p_x.toInt64 24).toInt ≥ 0 := by have z := g5_ltN (a := (lg_cmp p_x.toInt64 24).toInt) (b := 0) (by rfl) (by decide) c_4; omega
    refine lv_lload_n hx hb dX12_in_6 rfl (lv_at hl 0 rfl) ?_
    refine lv_lload hx hb dX12_in_7 (lv_at hl 2 rfl) ?_
    have tl_5 : p_x.toInt64.toInt = p_x.toInt := Int32.toInt_toInt64 _
    have tl_6 : (26 : Int64).toInt = 26 := (by decide)
    have tc_7 := g5_cmpI p_x.toInt64 26
    refine W.lcmp hx hb dX12_in_9 ?_
    refine lv_if_gt (tgt := 17) hx hb dX12_in_10 (by decide) (fun c_8 => ?_) (fun c_8 => ?_)
    ·
      have i_8 : (lg_cmp p_x.toInt64 26).toInt > 0 := by have z := g5_gt (a := (lg_cmp p_x.toInt64 26).toInt) (b := 0) (by rfl) (by decide) c_8; omega
      refine lv_iconst (v := 0) hx hb dX12_in_17 (by decide) ?_
      exact W.zret (v := 0) hx hb hr rfl (fun t ht hW => ⟨⟨0, [], rfl, Or.inl (⟨by omega, rfl, rfl⟩), by rw [ht]; exact hP.sub [] rfl, hD.sub [] (by decide) rfl⟩, hS.F ht⟩) hS.2.2 dX12_in_18
    ·
      have i_8 : (lg_cmp p_x.toInt64 26).toInt ≤ 0 := by have z := g5_gtN (a := (lg_cmp p_x.toInt64 26).toInt) (b := 0) (by rfl) (by decide) c_8; omega
      refine lv_iconst (v := 1) hx hb dX12_in_13 (by decide) ?_
      refine lv_goto (tgt := 18) hx hb dX12_in_14 (by decide) ?_
      exact W.zret (v := 1) hx hb hr rfl (fun t ht hW => ⟨⟨1, [], rfl, Or.inr (⟨by omega, rfl, rfl⟩), by rw [ht]; exact hP.sub [] rfl, hD.sub [] (by decide) rfl⟩, hS.F ht⟩) hS.2.2 dX12_in_18
set_option maxHeartbeats 4000000 in
set_option maxRecDepth 100000 in
theorem n_isCompared (l : Launch) (G : g5_G) (b_o b_pi b_rf b_ro b_im b_ke b_tp b_nl b_op b_ar b_pa b_ws b_hw b_se b_re b_pt b_ip b_ah b_be b_me b_tr b_ld b_wn : Nat) (sz : Nat) (u_th : Int32) (u_sa : Int32) (u_fd : Int32) (u_td : Int32) (u_fr : Int32) (u_to : Int32) (u_so : Int32) (u_fa : Int32) (u_bd : Int32) (u_nc : Int32) (u_co : Int32) (u_le : Int32) (u_pd : Int32) (u_od : Int32) (u_la : Int32) (u_bk : Int32) (u_ce : Int32) (u_ho : Int32) (u_wy : Int32) (u_bt : Int32) (u_ps : Int32) (u_tg : Int32) (u_sn : Int32) (u_ic : Int32) (u_wd : Int32) (u_id : Int32) (u_wo : Int64) (u_va : Int64) (u_su : Int64) (u_st : Int64) (v_pi : Nat → Int32) (h_u_td : 0 ≤ u_td.toInt ∧ u_td.toInt ≤ 400) (h_u_fr : 0 ≤ u_fr.toInt ∧ u_fr.toInt ≤ 400) (h_u_to : 0 ≤ u_to.toInt ∧ u_to.toInt ≤ 400) (h_u_bd : 0 ≤ u_bd.toInt ∧ u_bd.toInt ≤ 1) (h_u_nc : 0 ≤ u_nc.toInt ∧ u_nc.toInt ≤ 12) (h_u_co : 0 ≤ u_co.toInt ∧ u_co.toInt ≤ 400) (h_u_pd : 0 ≤ u_pd.toInt ∧ u_pd.toInt ≤ 400) (h_u_la : 0 ≤ u_la.toInt ∧ u_la.toInt ≤ 4840) (h_u_bk : 0 ≤ u_bk.toInt ∧ u_bk.toInt ≤ 1) (h_u_ce : 0 ≤ u_ce.toInt ∧ u_ce.toInt ≤ 63) (h_u_ho : 0 ≤ u_ho.toInt ∧ u_ho.toInt ≤ 23) (h_u_wy : 0 ≤ u_wy.toInt ∧ u_wy.toInt ≤ 3) (h_u_bt : 0 ≤ u_bt.toInt ∧ u_bt.toInt ≤ 1000000) (h_u_ps : 0 ≤ u_ps.toInt ∧ u_ps.toInt ≤ 200) (h_u_ic : 0 ≤ u_ic.toInt ∧ u_ic.toInt ≤ 1) (h_u_id : 0 ≤ u_id.toInt ∧ u_id.toInt ≤ 1) : Met l yX12_isCompared (wsG yX12_isCompared cX12_isCompared 2 (some .boolean)) ({ frames := 1, cells := 0, slots := 0, locals := 25 }) (va_Pc [.ref b_o] (g5_P G [(b_o, (oc12 u_th u_sa b_rf b_ro b_im b_ke u_fd b_tp u_td u_fr u_to u_so u_wo u_fa u_bd u_nc b_nl u_co b_op b_ar u_le b_pi b_pa u_pd u_od b_ws b_hw u_la b_se b_re u_bk u_va u_su u_ce u_ho u_wy u_bt u_ps b_pt u_tg u_sn b_ip u_ic b_ah b_be b_me u_wd b_tr b_ld u_st b_wn u_id)), (b_pi, (arI G 400 v_pi))] sz)) (va_Qi (fun (r : Int32) (u : va_W) => (∃ (o_r : Int32), (0 ≤ o_r.toInt ∧ o_r.toInt ≤ 1) ∧ (r = o_r) ∧ (u = [(b_o, (oc12 u_th u_sa b_rf b_ro b_im b_ke u_fd b_tp u_td u_fr u_to u_so u_wo u_fa u_bd u_nc b_nl u_co b_op b_ar u_le b_pi b_pa u_pd u_od b_ws b_hw u_la b_se b_re u_bk u_va u_su u_ce u_ho u_wy u_bt u_ps b_pt u_tg u_sn b_ip u_ic b_ah b_be b_me u_wd b_tr b_ld u_st b_wn u_id)), (b_pi, (arI G 400 v_pi))]))) (g5_B G (va_A [(b_o, (oc12 u_th u_sa b_rf b_ro b_im b_ke u_fd b_tp u_td u_fr u_to u_so u_wo u_fa u_bd u_nc b_nl u_co b_op b_ar u_le b_pi b_pa u_pd u_od b_ws b_hw u_la b_se b_re u_bk u_va u_su u_ce u_ho u_wy u_bt u_ps b_pt u_tg u_sn b_ip u_ic b_ah b_be b_me u_wd b_tr b_ld u_st b_wn u_id)), (b_pi, (arI G 400 v_pi))] sz)) (va_A [(b_o, (oc12 u_th u_sa b_rf b_ro b_im b_ke u_fd b_tp u_td u_fr u_to u_so u_wo u_fa u_bd u_nc b_nl u_co b_op b_ar u_le b_pi b_pa u_pd u_od b_ws b_hw u_la b_se b_re u_bk u_va u_su u_ce u_ho u_wy u_bt u_ps b_pt u_tg u_sn b_ip u_ic b_ah b_be b_me u_wd b_tr b_ld u_st b_wn u_id)), (b_pi, (arI G 400 v_pi))] sz)) 0 0 (va_A [(b_o, (oc12 u_th u_sa b_rf b_ro b_im b_ke u_fd b_tp u_td u_fr u_to u_so u_wo u_fa u_bd u_nc b_nl u_co b_op b_ar u_le b_pi b_pa u_pd u_od b_ws b_hw u_la b_se b_re u_bk u_va u_su u_ce u_ho u_wy u_bt u_ps b_pt u_tg u_sn b_ip u_ic b_ah b_be b_me u_wd b_tr b_ld u_st b_wn u_id)), (b_pi, (arI G 400 v_pi))] sz) := by
  refine Met.ofW (cc := cX12_isCompared) (maxL := 2) (ret := (some .boolean)) (by decide) rfl ?_
  intro p e s m args below meth c s₁ B hml hv
  obtain ⟨rfl, hsz, hP, hK, hD0, hN, hT⟩ := hv
  have hx := B.exec
  have hb := B.bytes
  have hr := B.returns
  have hts : ∀ w ∈ tblG, w.before _ s = true := fun w h => atoms_spec (ws := (wsG yX12_isCompared cX12_isCompared 2 (some .boolean))) B.pre w (List.mem_cons_of_mem _ h)
  have hown : s.vm.findClass RX12 = some m.cls := findClass_of_methodNamed B.named
  have hlocks := B.notSynchronized
  subst hsz
  have hD := hD0.self (sz := s.heap.size)
  generalize hAe : va_A [(b_o, (oc12 u_th u_sa b_rf b_ro b_im b_ke u_fd b_tp u_td u_fr u_to u_so u_wo u_fa u_bd u_nc b_nl u_co b_op b_ar u_le b_pi b_pa u_pd u_od b_ws b_hw u_la b_se b_re u_bk u_va u_su u_ce u_ho u_wy u_bt u_ps b_pt u_tg u_sn b_ip u_ic b_ah b_be b_me u_wd b_tr b_ld u_st b_wn u_id)), (b_pi, (arI G 400 v_pi))] s.heap.size = A at hD hT ⊢
  have hA : ∀ q : Nat, s.heap.size ≤ q → A q := fun q h => by rw [← hAe]; exact Or.inr h
  have hS : va_S A s.heap s.heap [] := va_S.rf
  have hP : va_P G.1 vwCl [(b_o, (oc12 u_th u_sa b_rf b_ro b_im b_ke u_fd b_tp u_td u_fr u_to u_so u_wo u_fa u_bd u_nc b_nl u_co b_op b_ar u_le b_pi b_pa u_pd u_od b_ws b_hw u_la b_se b_re u_bk u_va u_su u_ce u_ho u_wy u_bt u_ps b_pt u_tg u_sn b_ip u_ic b_ah b_be b_me u_wd b_tr b_ld u_st b_wn u_id)), (b_pi, (arI G 400 v_pi))] s.heap := hP
  have hl := lv_entry ([.ref b_o]) (n := 2) (Nat.le_of_ble_eq_true rfl)
  rw [lg_entry_eq]
  generalize (lg_sl ([.ref b_o]) ++ List.replicate (2 - (lg_sl ([.ref b_o])).length) Slot.unset).toArray = ls at hl ⊢
  have hl : lv_has ls 2 [(0, .ref b_o)] := hl
  refine lv_aload_n hx hb dX12_isCompared_0 rfl (lv_at hl 0 rfl) ?_
  refine va_get (D := G.1) (ci := 12) (v := .int u_pd) (C := RX12) (T := TX12) (N := 52) hx hb hts inG_X12 hown hK hP 0 rfl rfl 23 (by decide) (hts _ fl_X12_240) (fun _ h9 => h9) rfl dX12_isCompared_1 ?_
  refine lv_iconst (v := 1) hx hb dX12_isCompared_4 (by decide) ?_
  refine lv_isub hx hb dX12_isCompared_5 ?_
  have t_1 : (u_pd - 1).toInt = u_pd.toInt - 1 := g5_isub (a := u_pd.toInt) (b := 1) (by rfl) (by decide) (by omega) (by omega)
  refine lv_istore_n (lv' := [(1, .int (u_pd - 1)), (0, .ref b_o)]) hx hb dX12_isCompared_6 rfl hl (by decide) rfl (fun ls hl => ?_)
  refine g5_loop (α := (Int32)) (fun (k7_1 : (Int32)) (ls : Array Slot) (H : Heap) (locs : List Loc) => lv_has ls 2 [(1, .int k7_1), (0, .ref b_o)] ∧ va_P G.1 vwCl [(b_o, (oc12 u_th u_sa b_rf b_ro b_im b_ke u_fd b_tp u_td u_fr u_to u_so u_wo u_fa u_bd u_nc b_nl u_co b_op b_ar u_le b_pi b_pa u_pd u_od b_ws b_hw u_la b_se b_re u_bk u_va u_su u_ce u_ho u_wy u_bt u_ps b_pt u_tg u_sn b_ip u_ic b_ah b_be b_me u_wd b_tr b_ld u_st b_wn u_id)), (b_pi, (arI G 400 v_pi))] H ∧ va_D A [(b_o, (oc12 u_th u_sa b_rf b_ro b_im b_ke u_fd b_tp u_td u_fr u_to u_so u_wo u_fa u_bd u_nc b_nl u_co b_op b_ar u_le b_pi b_pa u_pd u_od b_ws b_hw u_la b_se b_re u_bk u_va u_su u_ce u_ho u_wy u_bt u_ps b_pt u_tg u_sn b_ip u_ic b_ah b_be b_me u_wd b_tr b_ld u_st b_wn u_id)), (b_pi, (arI G 400 v_pi))] ∧ va_S A s.heap H locs ∧ ((-1) ≤ k7_1.toInt ∧ k7_1.toInt ≤ 399)) (fun (k7_1 : (Int32)) => Int.toNat (k7_1.toInt + 1)) (u_pd - 1) ⟨lv_sub hl [0, 1] rfl, hP, hD, hS, ⟨by omega, by omega⟩⟩ ?_
  rintro k7_1 ls H locs ⟨hl, hP, hD, hS, i_2⟩ ih_7_3
  have hl : lv_has ls 2 [(1, .int k7_1), (0, .ref b_o)] := hl
  have i_2 : (-1) ≤ k7_1.toInt ∧ k7_1.toInt ≤ 399 := i_2
  refine g5_rs [(b_o, (oc12 u_th u_sa b_rf b_ro b_im b_ke u_fd b_tp u_td u_fr u_to u_so u_wo u_fa u_bd u_nc b_nl u_co b_op b_ar u_le b_pi b_pa u_pd u_od b_ws b_hw u_la b_se b_re u_bk u_va u_su u_ce u_ho u_wy u_bt u_ps b_pt u_tg u_sn b_ip u_ic b_ah b_be b_me u_wd b_tr b_ld u_st b_wn u_id)), (b_pi, (arI G 400 v_pi))] hP hD (fun hP hD => ?_)
  refine lv_iload_n hx hb dX12_isCompared_7 rfl (lv_at hl 0 rfl) ?_
  refine lv_if_lt (tgt := 36) hx hb dX12_isCompared_8 (by decide) (fun c_4 => ?_) (fun c_4 => ?_)
  ·
    have i_4 : k7_1.toInt < 0 := by have z := g5_lt (a := k7_1.toInt) (b := 0) (by rfl) (by decide) c_4; omega
    refine lv_iload_n hx hb dX12_isCompared_36 rfl (lv_at hl 0 rfl) ?_
    refine lv_if_lt (tgt := 63) hx hb dX12_isCompared_37 (by decide) (fun c_5 => ?_) (fun c_5 => ?_)
    ·
      have i_5 : k7_1.toInt < 0 := by have z := g5_lt (a := k7_1.toInt) (b := 0) (by rfl) (by decide) c_5; omega
      refine lv_iconst (v := 0) hx hb dX12_isCompared_63 (by decide) ?_
      exact W.zret (v := 0) hx hb hr rfl (fun t ht hW => ⟨⟨0, [(b_o, (oc12 u_th u_sa b_rf b_ro b_im b_ke u_fd b_tp u_td u_fr u_to u_so u_wo u_fa u_bd u_nc b_nl u_co b_op b_ar u_le b_pi b_pa u_pd u_od b_ws b_hw u_la b_se b_re u_bk u_va u_su u_ce u_ho u_wy u_bt u_ps b_pt u_tg u_sn b_ip u_ic b_ah b_be b_me u_wd b_tr b_ld u_st b_wn u_id)), (b_pi, (arI G 400 v_pi))], rfl, ⟨0, ⟨by have zc_o_r : (0 : Int32).toInt = 0 := (by decide); omega, by have zc_o_r : (0 : Int32).toInt = 0 := (by decide); omega⟩, rfl, rfl⟩, by rw [ht]; exact hP.sub [0, 1] rfl, hD.sub [0, 1] (by decide) rfl⟩, hS.F ht⟩) hS.2.2 dX12_isCompared_64
    ·
      have i_5 : k7_1.toInt ≥ 0 := by have z := g5_ltN (a := k7_1.toInt) (b := 0) (by rfl) (by decide) c_5; omega
      omega
  ·
    have i_4 : k7_1.toInt ≥ 0 := by have z := g5_ltN (a := k7_1.toInt) (b := 0) (by rfl) (by decide) c_4; omega
    refine lv_aload_n hx hb dX12_isCompared_11 rfl (lv_at hl 1 rfl) ?_
    refine va_get (D := G.1) (ci := 12) (v := .ref b_pi) (C := RX12) (T := TX12) (N := 52) hx hb hts inG_X12 hown hK hP 0 rfl rfl 21 (by decide) (hts _ fl_X12_39) (fun _ h9 => h9) rfl dX12_isCompared_12 ?_
    refine lv_iload_n hx hb dX12_isCompared_15 rfl (lv_at hl 0 rfl) ?_
    refine va_iald hx hb hK hP 1 0 rfl rfl (i := k7_1) (vp_in_iff.mpr ⟨by omega, by omega⟩) dX12_isCompared_16 ?_
    refine lv_i2l (v := (v_pi k7_1.toNatClampNeg).toInt64) hx hb dX12_isCompared_17 rfl ?_
    refine lv_ldc2 (v := 20) hx hb hown (hts _ kl_X12_250) dX12_isCompared_18 ?_
    refine lv_ldc2 (v := 23) hx hb hown (hts _ kl_X12_130) dX12_isCompared_21 ?_
    obtain ⟨hPc, hDc, hFc⟩ := g5_sub3 (wc := []) hP hD hS hA [] (by decide) rfl
    refine va_calli (va_runS (As := [.long (v_pi k7_1.toNatClampNeg).toInt64, .long 20, .long 23]) (rest := []) ⟨hx, hb, hml, hown, hts⟩ (n_in_20_23 l G H.size (v_pi k7_1.toNatClampNeg)) (va_cwS 3 hts gS_X12_121 rfl rfl rfl hs_X12_in ⟨Nat.le_of_ble_eq_true rfl, Nat.le_of_ble_eq_true rfl⟩) (g5_preS hPc hK hDc hN hT hS hFc) rfl rfl hl.1 rfl (lv_room (Nat.le_of_ble_eq_true rfl)) dX12_isCompared_24 ⟨Nat.le_of_ble_eq_true rfl, Nat.le_of_ble_eq_true rfl⟩) hS (fun q _ h => hFc q h) hFc (fun r u t H1 locs ht hvm hw hB hz1 hk1 hS => ?_)
    obtain ⟨hP1, hD1⟩ := hB
    rw [ht] at hP1
    rcases hw with ⟨i_6, rfl, rfl⟩ | ⟨i_7, rfl, rfl⟩
    ·
      have i_6 : (v_pi k7_1.toNatClampNeg).toInt < 20 ∨ 23 < (v_pi k7_1.toNatClampNeg).toInt := i_6
      have hP := g5_same hP hk1
      generalize H1 = H at hP hS ⊢
      refine lv_if_eq (tgt := 36) hx hb dX12_isCompared_27 (by decide) (fun c_8 => ?_) (fun c_8 => ?_)
      ·
        refine lv_iload_n hx hb dX12_isCompared_36 rfl (lv_at hl 0 rfl) ?_
        refine lv_if_lt (tgt := 63) hx hb dX12_isCompared_37 (by decide) (fun c_9 => ?_) (fun c_9 => ?_)
        ·
          have i_9 : k7_1.toInt < 0 := by have z := g5_lt (a := k7_1.toInt) (b := 0) (by rfl) (by decide) c_9; omega
          omega
        ·
          have i_9 : k7_1.toInt ≥ 0 := by have z := g5_ltN (a := k7_1.toInt) (b := 0) (by rfl) (by decide) c_9; omega
          refine lv_aload_n hx hb dX12_isCompared_40 rfl (lv_at hl 1 rfl) ?_
          refine va_get (D := G.1) (ci := 12) (v := .ref b_pi) (C := RX12) (T := TX12) (N := 52) hx hb hts inG_X12 hown hK hP 0 rfl rfl 21 (by decide) (hts _ fl_X12_39) (fun _ h9 => h9) rfl dX12_isCompared_41 ?_
          refine lv_iload_n hx hb dX12_isCompared_44 rfl (lv_at hl 0 rfl) ?_
          refine va_iald hx hb hK hP 1 0 rfl rfl (i := k7_1) (vp_in_iff.mpr ⟨by omega, by omega⟩) dX12_isCompared_45 ?_
          refine lv_i2l (v := (v_pi k7_1.toNatClampNeg).toInt64) hx hb dX12_isCompared_46 rfl ?_
          refine lv_ldc2 (v := 24) hx hb hown (hts _ kl_X12_47) dX12_isCompared_47 ?_
          refine lv_ldc2 (v := 26) hx hb hown (hts _ kl_X12_252) dX12_isCompared_50 ?_
          obtain ⟨hPc, hDc, hFc⟩ := g5_sub3 (wc := []) hP hD hS hA [] (by decide) rfl
          refine va_calli (va_runS (As := [.long (v_pi k7_1.toNatClampNeg).toInt64, .long 24, .long 26]) (rest := []) ⟨hx, hb, hml, hown, hts⟩ (n_in_24_26 l G H.size (v_pi k7_1.toNatClampNeg)) (va_cwS 3 hts gS_X12_121 rfl rfl rfl hs_X12_in ⟨Nat.le_of_ble_eq_true rfl, Nat.le_of_ble_eq_true rfl⟩) (g5_preS hPc hK hDc hN hT hS hFc) rfl rfl hl.1 rfl (lv_room (Nat.le_of_ble_eq_true rfl)) dX12_isCompared_53 ⟨Nat.le_of_ble_eq_true rfl, Nat.le_of_ble_eq_true rfl⟩) hS (fun q _ h => hFc q h) hFc (fun r u t H1 locs ht hvm hw hB hz1 hk1 hS => ?_)
          obtain ⟨hP1, hD1⟩ := hB
          rw [ht] at hP1
          rcases hw with ⟨i_10, rfl, rfl⟩ | ⟨i_11, rfl, rfl⟩
          ·
            have i_10 : (v_pi k7_1.toNatClampNeg).toInt < 24 ∨ 26 < (v_pi k7_1.toNatClampNeg).toInt := i_10
            have hP := g5_same hP hk1
            generalize H1 = H at hP hS ⊢
            refine lv_if_eq (tgt := 63) hx hb dX12_isCompared_56 (by decide) (fun c_12 => ?_) (fun c_12 => ?_)
            ·
              refine lv_iconst (v := 0) hx hb dX12_isCompared_63 (by decide) ?_
              exact W.zret (v := 0) hx hb hr rfl (fun t ht hW => ⟨⟨0, [(b_o, (oc12 u_th u_sa b_rf b_ro b_im b_ke u_fd b_tp u_td u_fr u_to u_so u_wo u_fa u_bd u_nc b_nl u_co b_op b_ar u_le b_pi b_pa u_pd u_od b_ws b_hw u_la b_se b_re u_bk u_va u_su u_ce u_ho u_wy u_bt u_ps b_pt u_tg u_sn b_ip u_ic b_ah b_be b_me u_wd b_tr b_ld u_st b_wn u_id)), (b_pi, (arI G 400 v_pi))], rfl, ⟨0, ⟨by have zc_o_r : (0 : Int32).toInt = 0 := (by decide); omega, by have zc_o_r : (0 : Int32).toInt = 0 := (by decide); omega⟩, rfl, rfl⟩, by rw [ht]; exact hP.sub [0, 1] rfl, hD.sub [0, 1] (by decide) rfl⟩, hS.F ht⟩) hS.2.2 dX12_isCompared_64
            ·
              exact absurd c_12 (by decide)
          ·
            have i_11 : 24 ≤ (v_pi k7_1.toNatClampNeg).toInt ∧ (v_pi k7_1.toNatClampNeg).toInt ≤ 26 := i_11
            have hP := g5_same hP hk1
            generalize H1 = H at hP hS ⊢
            refine lv_if_eq (tgt := 63) hx hb dX12_isCompared_56 (by decide) (fun c_13 => ?_) (fun c_13 => ?_)
            ·
              exact absurd c_13 (by decide)
            ·
              refine lv_iconst (v := 1) hx hb dX12_isCompared_59 (by decide) ?_
              refine lv_goto (tgt := 64) hx hb dX12_isCompared_60 (by decide) ?_
              exact W.zret (v := 1) hx hb hr rfl (fun t ht hW => ⟨⟨1, [(b_o, (oc12 u_th u_sa b_rf b_ro b_im b_ke u_fd b_tp u_td u_fr u_to u_so u_wo u_fa u_bd u_nc b_nl u_co b_op b_ar u_le b_pi b_pa u_pd u_od b_ws b_hw u_la b_se b_re u_bk u_va u_su u_ce u_ho u_wy u_bt u_ps b_pt u_tg u_sn b_ip u_ic b_ah b_be b_me u_wd b_tr b_ld u_st b_wn u_id)), (b_pi, (arI G 400 v_pi))], rfl, ⟨1, ⟨by have zc_o_r : (1 : Int32).toInt = 1 := (by decide); omega, by have zc_o_r : (1 : Int32).toInt = 1 := (by decide); omega⟩, rfl, rfl⟩, by rw [ht]; exact hP.sub [0, 1] rfl, hD.sub [0, 1] (by decide) rfl⟩, hS.F ht⟩) hS.2.2 dX12_isCompared_64
      ·
        exact absurd c_8 (by decide)
    ·
      have i_7 : 20 ≤ (v_pi k7_1.toNatClampNeg).toInt ∧ (v_pi k7_1.toNatClampNeg).toInt ≤ 23 := i_7
      have hP := g5_same hP hk1
      generalize H1 = H at hP hS ⊢
      refine lv_if_eq (tgt := 36) hx hb dX12_isCompared_27 (by decide) (fun c_14 => ?_) (fun c_14 => ?_)
      ·
        exact absurd c_14 (by decide)
      ·
        obtain ⟨y15, hy_15, t_15⟩ := g_incN k7_1 (-1) (by decide) (by omega) (by omega)
        have t_15 : y15.toInt = k7_1.toInt + (-1) := t_15
        refine lv_iinc (v := y15) (lv' := [(1, .int y15), (0, .ref b_o)]) hx hb dX12_isCompared_30 hl (k := 0) rfl hy_15 (by decide) rfl (fun ls hl => ?_)
        refine lv_goto (tgt := 7) hx hb dX12_isCompared_33 (by decide) ?_
        exact ih_7_3 y15 ls H locs (show Int.toNat (y15.toInt + 1) < Int.toNat (k7_1.toInt + 1) from g_dn (show y15.toInt < k7_1.toInt by omega) (show 0 ≤ k7_1.toInt by omega)) ⟨lv_sub hl [0, 1] rfl, hP, hD, hS, ⟨by omega, by omega⟩⟩
theorem dgX12_partAt_0 : ∀ r ∈ ([(0, (.iconst (-1), 1)), (1, (.istore_n 1, 1)), (2, (.iconst 0, 1)), (3, (.istore_n 2, 1)), (4, (.iload_n 2, 1)), (5, (.bipush 8, 2)), (7, (.if_icmp .ge 30, 3)), (10, (.aload_n 0, 1)), (11, (.aload_n 0, 1)), (12, (.getfield 61, 3)), (15, (.iload_n 2, 1)), (16, (.laload, 1)), (17, (.invokevirtual 254, 3)), (20, (.ifCond .eq 9, 3)), (23, (.iload_n 2, 1)), (24, (.iconst 1, 1)), (25, (.iadd, 1)), (26, (.goto 4, 3)), (29, (.iload_n 1, 1)), (30, (.istore_n 1, 1)), (31, (.iinc 2 1, 3)), (34, (.goto (-30), 3)), (37, (.iload_n 1, 1)), (38, (.ireturn, 1))] : List (Nat × (Instr × Nat))), decode cX12_partAt r.1 = .ok r.2 := by decide +kernel
theorem dX12_partAt_0 : decode cX12_partAt 0 = .ok (.iconst (-1), 1) := dgX12_partAt_0 (0, (.iconst (-1), 1)) (List.mem_of_getElem? (i := 0) rfl)
theorem dX12_partAt_1 : decode cX12_partAt 1 = .ok (.istore_n 1, 1) := dgX12_partAt_0 (1, (.istore_n 1, 1)) (List.mem_of_getElem? (i := 1) rfl)
theorem dX12_partAt_2 : decode cX12_partAt 2 = .ok (.iconst 0, 1) := dgX12_partAt_0 (2, (.iconst 0, 1)) (List.mem_of_getElem? (i := 2) rfl)
theorem dX12_partAt_3 : decode cX12_partAt 3 = .ok (.istore_n 2, 1) := dgX12_partAt_0 (3, (.istore_n 2, 1)) (List.mem_of_getElem? (i := 3) rfl)
theorem dX12_partAt_4 : decode cX12_partAt 4 = .ok (.iload_n 2, 1) := dgX12_partAt_0 (4, (.iload_n 2, 1)) (List.mem_of_getElem? (i := 4) rfl)
theorem dX12_partAt_5 : decode cX12_partAt 5 = .ok (.bipush 8, 2) := dgX12_partAt_0 (5, (.bipush 8, 2)) (List.mem_of_getElem? (i := 5) rfl)
theorem dX12_partAt_7 : decode cX12_partAt 7 = .ok (.if_icmp .ge 30, 3) := dgX12_partAt_0 (7, (.if_icmp .ge 30, 3)) (List.mem_of_getElem? (i := 6) rfl)
theorem dX12_partAt_10 : decode cX12_partAt 10 = .ok (.aload_n 0, 1) := dgX12_partAt_0 (10, (.aload_n 0, 1)) (List.mem_of_getElem? (i := 7) rfl)
theorem dX12_partAt_11 : decode cX12_partAt 11 = .ok (.aload_n 0, 1) := dgX12_partAt_0 (11, (.aload_n 0, 1)) (List.mem_of_getElem? (i := 8) rfl)
theorem dX12_partAt_12 : decode cX12_partAt 12 = .ok (.getfield 61, 3) := dgX12_partAt_0 (12, (.getfield 61, 3)) (List.mem_of_getElem? (i := 9) rfl)
theorem dX12_partAt_15 : decode cX12_partAt 15 = .ok (.iload_n 2, 1) := dgX12_partAt_0 (15, (.iload_n 2, 1)) (List.mem_of_getElem? (i := 10) rfl)
theorem dX12_partAt_16 : decode cX12_partAt 16 = .ok (.laload, 1) := dgX12_partAt_0 (16, (.laload, 1)) (List.mem_of_getElem? (i := 11) rfl)
theorem dX12_partAt_17 : decode cX12_partAt 17 = .ok (.invokevirtual 254, 3) := dgX12_partAt_0 (17, (.invokevirtual 254, 3)) (List.mem_of_getElem? (i := 12) rfl)
theorem dX12_partAt_20 : decode cX12_partAt 20 = .ok (.ifCond .eq 9, 3) := dgX12_partAt_0 (20, (.ifCond .eq 9, 3)) (List.mem_of_getElem? (i := 13) rfl)
theorem dX12_partAt_23 : decode cX12_partAt 23 = .ok (.iload_n 2, 1) := dgX12_partAt_0 (23, (.iload_n 2, 1)) (List.mem_of_getElem? (i := 14) rfl)
theorem dX12_partAt_24 : decode cX12_partAt 24 = .ok (.iconst 1, 1) := dgX12_partAt_0 (24, (.iconst 1, 1)) (List.mem_of_getElem? (i := 15) rfl)
theorem dX12_partAt_25 : decode cX12_partAt 25 = .ok (.iadd, 1) := dgX12_partAt_0 (25, (.iadd, 1)) (List.mem_of_getElem? (i := 16) rfl)
theorem dX12_partAt_26 : decode cX12_partAt 26 = .ok (.goto 4, 3) := dgX12_partAt_0 (26, (.goto 4, 3)) (List.mem_of_getElem? (i := 17) rfl)
theorem dX12_partAt_29 : decode cX12_partAt 29 = .ok (.iload_n 1, 1) := dgX12_partAt_0 (29, (.iload_n 1, 1)) (List.mem_of_getElem? (i := 18) rfl)
theorem dX12_partAt_30 : decode cX12_partAt 30 = .ok (.istore_n 1, 1) := dgX12_partAt_0 (30, (.istore_n 1, 1)) (List.mem_of_getElem? (i := 19) rfl)
theorem dX12_partAt_31 : decode cX12_partAt 31 = .ok (.iinc 2 1, 3) := dgX12_partAt_0 (31, (.iinc 2 1, 3)) (List.mem_of_getElem? (i := 20) rfl)
theorem dX12_partAt_34 : decode cX12_partAt 34 = .ok (.goto (-30), 3) := dgX12_partAt_0 (34, (.goto (-30), 3)) (List.mem_of_getElem? (i := 21) rfl)
theorem dX12_partAt_37 : decode cX12_partAt 37 = .ok (.iload_n 1, 1) := dgX12_partAt_0 (37, (.iload_n 1, 1)) (List.mem_of_getElem? (i := 22) rfl)
theorem dX12_partAt_38 : decode cX12_partAt 38 = .ok (.ireturn, 1) := dgX12_partAt_0 (38, (.ireturn, 1)) (List.mem_of_getElem? (i := 23) rfl)
theorem fl_X12_61 : Cond.fieldLink RX12 61 "LateGlassModel" "words" "[J" ∈ tblG := tg 1228 (by decide +kernel) (by decide +kernel)
theorem ml_X12_254 : Cond.methodLink RX12 254 yX12_isWord ∈ tblG := tg 1521 (by decide +kernel) (by decide +kernel)
theorem im_X12_isWord : Cond.instanceMethod yX12_isWord ∈ tblG := tg 1523 (by decide +kernel) (by decide +kernel)
theorem se_X12_isWord : Cond.selects RX12 yX12_isWord yX12_isWord ∈ tblG := tg 46 (by decide +kernel) (by decide +kernel)
theorem cd_X12_isWord : Cond.code yX12_isWord cX12_isWord 3 (some .boolean) ∈ tblG := tg 1524 (by decide +kernel) (by decide +kernel)
theorem gW_X12_isWord : GoodIn tblG (wsG yX12_isWord cX12_isWord 3 (some .boolean)) := tgi cd_X12_isWord
theorem gV_X12_254 : GoodIn tblG (wsV RX12 254 RX12 yX12_isWord (wsG yX12_isWord cX12_isWord 3 (some .boolean))) := tgV ml_X12_254 im_X12_isWord se_X12_isWord ini_X12 gW_X12_isWord
theorem hv_X12_isWord : yX12_isWord.cls = RX12 ∧ yX12_isWord.cls ≠ "java/lang/invoke/MethodHandle" ∧ yX12_isWord.cls ≠ "java/lang/invoke/VarHandle" ∧ (parseMethodDescriptor yX12_isWord.desc).map (fun d => d.parameters.length) = some 1 := by decide +kernel
set_option maxHeartbeats 4000000 in
set_option maxRecDepth 100000 in
theorem n_partAt (l : Launch) (G : g5_G) (b_o b_ws b_rf b_ro b_im b_ke b_tp b_nl b_op b_ar b_pi b_pa b_hw b_se b_re b_pt b_ip b_ah b_be b_me b_tr b_ld b_wn : Nat) (sz : Nat) (u_th : Int32) (u_sa : Int32) (u_fd : Int32) (u_td : Int32) (u_fr : Int32) (u_to : Int32) (u_so : Int32) (u_fa : Int32) (u_bd : Int32) (u_nc : Int32) (u_co : Int32) (u_le : Int32) (u_pd : Int32) (u_od : Int32) (u_la : Int32) (u_bk : Int32) (u_ce : Int32) (u_ho : Int32) (u_wy : Int32) (u_bt : Int32) (u_ps : Int32) (u_tg : Int32) (u_sn : Int32) (u_ic : Int32) (u_wd : Int32) (u_id : Int32) (u_wo : Int64) (u_va : Int64) (u_su : Int64) (u_st : Int64) (v_ws : Nat → Int64) (h_u_td : 0 ≤ u_td.toInt ∧ u_td.toInt ≤ 400) (h_u_fr : 0 ≤ u_fr.toInt ∧ u_fr.toInt ≤ 400) (h_u_to : 0 ≤ u_to.toInt ∧ u_to.toInt ≤ 400) (h_u_bd : 0 ≤ u_bd.toInt ∧ u_bd.toInt ≤ 1) (h_u_nc : 0 ≤ u_nc.toInt ∧ u_nc.toInt ≤ 12) (h_u_co : 0 ≤ u_co.toInt ∧ u_co.toInt ≤ 400) (h_u_pd : 0 ≤ u_pd.toInt ∧ u_pd.toInt ≤ 400) (h_u_la : 0 ≤ u_la.toInt ∧ u_la.toInt ≤ 4840) (h_u_bk : 0 ≤ u_bk.toInt ∧ u_bk.toInt ≤ 1) (h_u_ce : 0 ≤ u_ce.toInt ∧ u_ce.toInt ≤ 63) (h_u_ho : 0 ≤ u_ho.toInt ∧ u_ho.toInt ≤ 23) (h_u_wy : 0 ≤ u_wy.toInt ∧ u_wy.toInt ≤ 3) (h_u_bt : 0 ≤ u_bt.toInt ∧ u_bt.toInt ≤ 1000000) (h_u_ps : 0 ≤ u_ps.toInt ∧ u_ps.toInt ≤ 200) (h_u_ic : 0 ≤ u_ic.toInt ∧ u_ic.toInt ≤ 1) (h_u_id : 0 ≤ u_id.toInt ∧ u_id.toInt ≤ 1) : Met l yX12_partAt (wsG yX12_partAt cX12_partAt 3 (some .int)) ({ frames := 1, cells := 0, slots := 0, locals := 22 }) (va_Pc [.ref b_o] (g5_P G [(b_o, (oc12 u_th u_sa b_rf b_ro b_im b_ke u_fd b_tp u_td u_fr u_to u_so u_wo u_fa u_bd u_nc b_nl u_co b_op b_ar u_le b_pi b_pa u_pd u_od b_ws b_hw u_la b_se b_re u_bk u_va u_su u_ce u_ho u_wy u_bt u_ps b_pt u_tg u_sn b_ip u_ic b_ah b_be b_me u_wd b_tr b_ld u_st b_wn u_id)), (b_ws, (arJ G 8 v_ws))] sz)) (va_Qi (fun (r : Int32) (u : va_W) => (∃ (o_r : Int32), (-1 ≤ o_r.toInt ∧ o_r.toInt ≤ 8) ∧ (o_r.toInt = -1 ∨ u_so.toInt = 1) ∧ (r = o_r) ∧ (u = [(b_o, (oc12 u_th u_sa b_rf b_ro b_im b_ke u_fd b_tp u_td u_fr u_to u_so u_wo u_fa u_bd u_nc b_nl u_co b_op b_ar u_le b_pi b_pa u_pd u_od b_ws b_hw u_la b_se b_re u_bk u_va u_su u_ce u_ho u_wy u_bt u_ps b_pt u_tg u_sn b_ip u_ic b_ah b_be b_me u_wd b_tr b_ld u_st b_wn u_id)), (b_ws, (arJ G 8 v_ws))]))) (g5_B G (va_A [(b_o, (oc12 u_th u_sa b_rf b_ro b_im b_ke u_fd b_tp u_td u_fr u_to u_so u_wo u_fa u_bd u_nc b_nl u_co b_op b_ar u_le b_pi b_pa u_pd u_od b_ws b_hw u_la b_se b_re u_bk u_va u_su u_ce u_ho u_wy u_bt u_ps b_pt u_tg u_sn b_ip u_ic b_ah b_be b_me u_wd b_tr b_ld u_st b_wn u_id)), (b_ws, (arJ G 8 v_ws))] sz)) (va_A [(b_o, (oc12 u_th u_sa b_rf b_ro b_im b_ke u_fd b_tp u_td u_fr u_to u_so u_wo u_fa u_bd u_nc b_nl u_co b_op b_ar u_le b_pi b_pa u_pd u_od b_ws b_hw u_la b_se b_re u_bk u_va u_su u_ce u_ho u_wy u_bt u_ps b_pt u_tg u_sn b_ip u_ic b_ah b_be b_me u_wd b_tr b_ld u_st b_wn u_id)), (b_ws, (arJ G 8 v_ws))] sz)) 0 0 (va_A [(b_o, (oc12 u_th u_sa b_rf b_ro b_im b_ke u_fd b_tp u_td u_fr u_to u_so u_wo u_fa u_bd u_nc b_nl u_co b_op b_ar u_le b_pi b_pa u_pd u_od b_ws b_hw u_la b_se b_re u_bk u_va u_su u_ce u_ho u_wy u_bt u_ps b_pt u_tg u_sn b_ip u_ic b_ah b_be b_me u_wd b_tr b_ld u_st b_wn u_id)), (b_ws, (arJ G 8 v_ws))] sz) := by
  refine Met.ofW (cc := cX12_partAt) (maxL := 3) (ret := (some .int)) (by decide) rfl ?_
  intro p e s m args below meth c s₁ B hml hv
  obtain ⟨rfl, hsz, hP, hK, hD0, hN, hT⟩ := hv
  have hx := B.exec
  have hb := B.bytes
  have hr := B.returns
  have hts : ∀ w ∈ tblG, w.before _ s = true := fun w h => atoms_spec (ws := (wsG yX12_partAt cX12_partAt 3 (some .int))) B.pre w (List.mem_cons_of_mem _ h)
  have hown : s.vm.findClass RX12 = some m.cls := findClass_of_methodNamed B.named
  have hlocks := B.notSynchronized
  subst hsz
  have hD := hD0.self (sz := s.heap.size)
  generalize hAe : va_A [(b_o, (oc12 u_th u_sa b_rf b_ro b_im b_ke u_fd b_tp u_td u_fr u_to u_so u_wo u_fa u_bd u_nc b_nl u_co b_op b_ar u_le b_pi b_pa u_pd u_od b_ws b_hw u_la b_se b_re u_bk u_va u_su u_ce u_ho u_wy u_bt u_ps b_pt u_tg u_sn b_ip u_ic b_ah b_be b_me u_wd b_tr b_ld u_st b_wn u_id)), (b_ws, (arJ G 8 v_ws))] s.heap.size = A at hD hT ⊢
  have hA : ∀ q : Nat, s.heap.size ≤ q → A q := fun q h => by rw [← hAe]; exact Or.inr h
  have hS : va_S A s.heap s.heap [] := va_S.rf
  have hP : va_P G.1 vwCl [(b_o, (oc12 u_th u_sa b_rf b_ro b_im b_ke u_fd b_tp u_td u_fr u_to u_so u_wo u_fa u_bd u_nc b_nl u_co b_op b_ar u_le b_pi b_pa u_pd u_od b_ws b_hw u_la b_se b_re u_bk u_va u_su u_ce u_ho u_wy u_bt u_ps b_pt u_tg u_sn b_ip u_ic b_ah b_be b_me u_wd b_tr b_ld u_st b_wn u_id)), (b_ws, (arJ G 8 v_ws))] s.heap := hP
  have hl := lv_entry ([.ref b_o]) (n := 3) (Nat.le_of_ble_eq_true rfl)
  rw [lg_entry_eq]
  generalize (lg_sl ([.ref b_o]) ++ List.replicate (3 - (lg_sl ([.ref b_o])).length) Slot.unset).toArray = ls at hl ⊢
  have hl : lv_has ls 3 [(0, .ref b_o)] := hl
  refine lv_iconst (v := (-1)) hx hb dX12_partAt_0 (by decide) ?_
  refine lv_istore_n (lv' := [(1, .int (-1)), (0, .ref b_o)]) hx hb dX12_partAt_1 rfl hl (by decide) rfl (fun ls hl => ?_)
  refine lv_iconst (v := 0) hx hb dX12_partAt_2 (by decide) ?_
  refine lv_istore_n (lv' := [(2, .int 0), (1, .int (-1)), (0, .ref b_o)]) hx hb dX12_partAt_3 rfl hl (by decide) rfl (fun ls hl => ?_)
  refine g5_loop (α := (Int32) × (Int32)) (fun (q : (Int32) × (Int32)) (ls : Array Slot) (H : Heap) (locs : List Loc) => match q with | (k4_2, k4_1) => lv_has ls 3 [(1, .int k4_1), (2, .int k4_2), (0, .ref b_o)] ∧ va_P G.1 vwCl [(b_o, (oc12 u_th u_sa b_rf b_ro b_im b_ke u_fd b_tp u_td u_fr u_to u_so u_wo u_fa u_bd u_nc b_nl u_co b_op b_ar u_le b_pi b_pa u_pd u_od b_ws b_hw u_la b_se b_re u_bk u_va u_su u_ce u_ho u_wy u_bt u_ps b_pt u_tg u_sn b_ip u_ic b_ah b_be b_me u_wd b_tr b_ld u_st b_wn u_id)), (b_ws, (arJ G 8 v_ws))] H ∧ va_D A [(b_o, (oc12 u_th u_sa b_rf b_ro b_im b_ke u_fd b_tp u_td u_fr u_to u_so u_wo u_fa u_bd u_nc b_nl u_co b_op b_ar u_le b_pi b_pa u_pd u_od b_ws b_hw u_la b_se b_re u_bk u_va u_su u_ce u_ho u_wy u_bt u_ps b_pt u_tg u_sn b_ip u_ic b_ah b_be b_me u_wd b_tr b_ld u_st b_wn u_id)), (b_ws, (arJ G 8 v_ws))] ∧ va_S A s.heap H locs ∧ (0 ≤ k4_2.toInt ∧ k4_2.toInt ≤ 8) ∧ ((-1) ≤ k4_1.toInt ∧ k4_1.toInt ≤ 8) ∧ (k4_1.toInt = -1 ∨ u_so.toInt = 1)) (fun (q : (Int32) × (Int32)) => match q with | (k4_2, k4_1) => Int.toNat (8 - k4_2.toInt)) (0, (-1)) ⟨lv_sub hl [1, 0, 2] rfl, hP, hD, hS, ⟨by decide, by decide⟩, ⟨by decide, by decide⟩, Or.inl (by decide)⟩ ?_
  rintro ⟨k4_2, k4_1⟩ ls H locs ⟨hl, hP, hD, hS, i_1, i_2, i_3⟩ ih_4_4
  have hl : lv_has ls 3 [(1, .int k4_1), (2, .int k4_2), (0, .ref b_o)] := hl
  have i_1 : 0 ≤ k4_2.toInt ∧ k4_2.toInt ≤ 8 := i_1
  have i_2 : (-1) ≤ k4_1.toInt ∧ k4_1.toInt ≤ 8 := i_2
  have i_3 : k4_1.toInt = -1 ∨ u_so.toInt = 1 := i_3
  refine g5_rs [(b_o, (oc12 u_th u_sa b_rf b_ro b_im b_ke u_fd b_tp u_td u_fr u_to u_so u_wo u_fa u_bd u_nc b_nl u_co b_op b_ar u_le b_pi b_pa u_pd u_od b_ws b_hw u_la b_se b_re u_bk u_va u_su u_ce u_ho u_wy u_bt u_ps b_pt u_tg u_sn b_ip u_ic b_ah b_be b_me u_wd b_tr b_ld u_st b_wn u_id)), (b_ws, (arJ G 8 v_ws))] hP hD (fun hP hD => ?_)
  refine lv_iload_n hx hb dX12_partAt_4 rfl (lv_at hl 1 rfl) ?_
  refine lv_bipush (v := 8) hx hb dX12_partAt_5 (by decide) ?_
  refine lv_icmp_ge (tgt := 37) hx hb dX12_partAt_7 (by decide) (fun c_5 => ?_) (fun c_5 => ?_)
  ·
    have i_5 : k4_2.toInt ≥ 8 := by have z := g5_ge (a := k4_2.toInt) (b := 8) (by rfl) (by decide) c_5; omega
    refine lv_iload_n hx hb dX12_partAt_37 rfl (lv_at hl 0 rfl) ?_
    exact W.iret (v := k4_1) hx hb hr (fun t ht hW => ⟨⟨k4_1, [(b_o, (oc12 u_th u_sa b_rf b_ro b_im b_ke u_fd b_tp u_td u_fr u_to u_so u_wo u_fa u_bd u_nc b_nl u_co b_op b_ar u_le b_pi b_pa u_pd u_od b_ws b_hw u_la b_se b_re u_bk u_va u_su u_ce u_ho u_wy u_bt u_ps b_pt u_tg u_sn b_ip u_ic b_ah b_be b_me u_wd b_tr b_ld u_st b_wn u_id)), (b_ws, (arJ G 8 v_ws))], rfl, ⟨k4_1, ⟨by omega, by omega⟩, i_3, rfl, rfl⟩, by rw [ht]; exact hP.sub [0, 1] rfl, hD.sub [0, 1] (by decide) rfl⟩, hS.F ht⟩) hS.2.2 dX12_partAt_38
  ·
    have i_5 : k4_2.toInt < 8 := by have z := g5_geN (a := k4_2.toInt) (b := 8) (by rfl) (by decide) c_5; omega
    refine lv_aload_n hx hb dX12_partAt_10 rfl (lv_at hl 2 rfl) ?_
    refine lv_aload_n hx hb dX12_partAt_11 rfl (lv_at hl 2 rfl) ?_
    refine va_get (D := G.1) (ci := 12) (v := .ref b_ws) (C := RX12) (T := TX12) (N := 52) hx hb hts inG_X12 hown hK hP 0 rfl rfl 25 (by decide) (hts _ fl_X12_61) (fun _ h9 => h9) rfl dX12_partAt_12 ?_
    refine lv_iload_n hx hb dX12_partAt_15 rfl (lv_at hl 1 rfl) ?_
    refine va_lald hx hb hK hP 1 1 rfl rfl (i := k4_2) (vp_in_iff.mpr ⟨by omega, by omega⟩) dX12_partAt_16 ?_
    obtain ⟨hPc, hDc, hFc⟩ := g5_sub3 (wc := [(b_o, (oc12 u_th u_sa b_rf b_ro b_im b_ke u_fd b_tp u_td u_fr u_to u_so u_wo u_fa u_bd u_nc b_nl u_co b_op b_ar u_le b_pi b_pa u_pd u_od b_ws b_hw u_la b_se b_re u_bk u_va u_su u_ce u_ho u_wy u_bt u_ps b_pt u_tg u_sn b_ip u_ic b_ah b_be b_me u_wd b_tr b_ld u_st b_wn u_id))]) hP hD hS hA [0] (by decide) rfl
    refine va_calli (va_runV (As := [.long (v_ws k4_2.toNatClampNeg)]) (rest := []) ⟨hx, hb, hml, hown, hts⟩ (n_isWord l G b_o b_rf b_ro b_im b_ke b_tp b_nl b_op b_ar b_pi b_pa b_ws b_hw b_se b_re b_pt b_ip b_ah b_be b_me b_tr b_ld b_wn H.size u_th u_sa u_fd u_td u_fr u_to u_so u_fa u_bd u_nc u_co u_le u_pd u_od u_la u_bk u_ce u_ho u_wy u_bt u_ps u_tg u_sn u_ic u_wd u_id u_wo u_va u_su u_st (v_ws k4_2.toNatClampNeg) h_u_td h_u_fr h_u_to h_u_bd h_u_nc h_u_co h_u_pd h_u_la h_u_bk h_u_ce h_u_ho h_u_wy h_u_bt h_u_ps h_u_ic h_u_id) (cwV 1 hts gV_X12_254 rfl rfl rfl hv_X12_isWord ⟨Nat.le_of_ble_eq_true rfl, Nat.le_of_ble_eq_true rfl⟩) (g5_preV hPc hK hDc hN hT hS hFc (ci := 12) (q0 := 0) rfl rfl) rfl rfl hl.1 rfl (lv_room (Nat.le_of_ble_eq_true rfl)) dX12_partAt_17 ⟨Nat.le_of_ble_eq_true rfl, Nat.le_of_ble_eq_true rfl⟩) hS (fun q _ h => hFc q h) hFc (fun r u t H1 locs ht hvm hw hB hz1 hk1 hS => ?_)
    obtain ⟨hP1, hD1⟩ := hB
    rw [ht] at hP1
    rcases hw with ⟨i_6, rfl, rfl⟩ | ⟨rfl, rfl⟩
    ·
      have i_6 : u_so.toInt = 1 := i_6
      obtain ⟨hP, hD⟩ := va_join (wr := [(b_ws, (arJ G 8 v_ws))]) hP hD [0] [1] rfl rfl (by decide) (by decide) hk1 hFc hP1 hD1
      generalize H1 = H at hP hS ⊢
      refine g5_rs [(b_ws, (arJ G 8 v_ws)), (b_o, (oc12 u_th u_sa b_rf b_ro b_im b_ke u_fd b_tp u_td u_fr u_to u_so u_wo u_fa u_bd u_nc b_nl u_co b_op b_ar u_le b_pi b_pa u_pd u_od b_ws b_hw u_la b_se b_re u_bk u_va u_su u_ce u_ho u_wy u_bt u_ps b_pt u_tg u_sn b_ip u_ic b_ah b_be b_me u_wd b_tr b_ld u_st b_wn u_id))] hP hD (fun hP hD => ?_)
      refine lv_if_eq (tgt := 29) hx hb dX12_partAt_20 (by decide) (fun c_7 => ?_) (fun c_7 => ?_)
      ·
        exact absurd c_7 (by decide)
      ·
        refine lv_iload_n hx hb dX12_partAt_23 rfl (lv_at hl 1 rfl) ?_
        refine lv_iconst (v := 1) hx hb dX12_partAt_24 (by decide) ?_
        refine lv_iadd hx hb dX12_partAt_25 ?_
        have t_8 : (k4_2 + 1).toInt = k4_2.toInt + 1 := g5_iadd (a := k4_2.toInt) (b := 1) (by rfl) (by decide) (by omega) (by omega)
        refine lv_goto (tgt := 30) hx hb dX12_partAt_26 (by decide) ?_
        refine lv_istore_n (lv' := [(1, .int (k4_2 + 1)), (2, .int k4_2), (0, .ref b_o)]) hx hb dX12_partAt_30 rfl hl (by decide) rfl (fun ls hl => ?_)
        refine lv_iinc (v := (k4_2 + 1)) (lv' := [(2, .int (k4_2 + 1)), (1, .int (k4_2 + 1)), (0, .ref b_o)]) hx hb dX12_partAt_31 hl (k := 1) rfl rfl (by decide) rfl (fun ls hl => ?_)
        have t_9 : (k4_2 + 1).toInt = k4_2.toInt + 1 := g5_iadd (a := k4_2.toInt) (b := 1) rfl (by decide) (by omega) (by omega)
        refine lv_goto (tgt := 4) hx hb dX12_partAt_34 (by decide) ?_
        exact ih_4_4 ((k4_2 + 1), (k4_2 + 1)) ls H locs (show Int.toNat (8 - (k4_2 + 1).toInt) < Int.toNat (8 - k4_2.toInt) from g_up (show k4_2.toInt < (k4_2 + 1).toInt by omega) (show k4_2.toInt < 8 by omega)) ⟨lv_sub hl [1, 0, 2] rfl, hP.sub [1, 0] rfl, hD.sub [1, 0] (by decide) rfl, hS, ⟨by omega, by omega⟩, ⟨by omega, by omega⟩, Or.inr (by omega)⟩
    ·
      obtain ⟨hP, hD⟩ := va_join (wr := [(b_ws, (arJ G 8 v_ws))]) hP hD [0] [1] rfl rfl (by decide) (by decide) hk1 hFc hP1 hD1
      generalize H1 = H at hP hS ⊢
      refine g5_rs [(b_ws, (arJ G 8 v_ws)), (b_o, (oc12 u_th u_sa b_rf b_ro b_im b_ke u_fd b_tp u_td u_fr u_to u_so u_wo u_fa u_bd u_nc b_nl u_co b_op b_ar u_le b_pi b_pa u_pd u_od b_ws b_hw u_la b_se b_re u_bk u_va u_su u_ce u_ho u_wy u_bt u_ps b_pt u_tg u_sn b_ip u_ic b_ah b_be b_me u_wd b_tr b_ld u_st b_wn u_id))] hP hD (fun hP hD => ?_)
      refine lv_if_eq (tgt := 29) hx hb dX12_partAt_20 (by decide) (fun c_10 => ?_) (fun c_10 => ?_)
      ·
        refine lv_iload_n hx hb dX12_partAt_29 rfl (lv_at hl 0 rfl) ?_
        refine lv_istore_n (lv' := [(1, .int k4_1), (2, .int k4_2), (0, .ref b_o)]) hx hb dX12_partAt_30 rfl hl (by decide) rfl (fun ls hl => ?_)
        refine lv_iinc (v := (k4_2 + 1)) (lv' := [(2, .int (k4_2 + 1)), (1, .int k4_1), (0, .ref b_o)]) hx hb dX12_partAt_31 hl (k := 1) rfl rfl (by decide) rfl (fun ls hl => ?_)
        have t_11 : (k4_2 + 1).toInt = k4_2.toInt + 1 := g5_iadd (a := k4_2.toInt) (b := 1) rfl (by decide) (by omega) (by omega)
        refine lv_goto (tgt := 4) hx hb dX12_partAt_34 (by decide) ?_
        exact ih_4_4 ((k4_2 + 1), k4_1) ls H locs (show Int.toNat (8 - (k4_2 + 1).toInt) < Int.toNat (8 - k4_2.toInt) from g_up (show k4_2.toInt < (k4_2 + 1).toInt by omega) (show k4_2.toInt < 8 by omega)) ⟨lv_sub hl [1, 0, 2] rfl, hP.sub [1, 0] rfl, hD.sub [1, 0] (by decide) rfl, hS, ⟨by omega, by omega⟩, i_2, i_3⟩
      ·
        exact absurd c_10 (by decide)
theorem dgX12_openBracket_0 : ∀ r ∈ ([(0, (.aload_n 0, 1)), (1, (.aload_n 0, 1)), (2, (.getfield 258, 3)), (5, (.bipush 8, 2)), (7, (.if_icmp .ge 7, 3)), (10, (.iconst 1, 1)), (11, (.goto 4, 3)), (14, (.iconst 0, 1)), (15, (.invokevirtual 233, 3)), (18, (.aload_n 0, 1)), (19, (.getfield 205, 3)), (22, (.ifCond .ne 19, 3)), (25, (.aload_n 0, 1)), (26, (.dup, 1)), (27, (.getfield 258, 3)), (30, (.iconst 1, 1)), (31, (.iadd, 1)), (32, (.putfield 258, 3)), (35, (.aload_n 0, 1)), (36, (.iload_n 1, 1)), (37, (.iconst 0, 1)), (38, (.invokevirtual 261, 3)), (41, (.return_, 1))] : List (Nat × (Instr × Nat))), decode cX12_openBracket r.1 = .ok r.2 := by decide +kernel
theorem dX12_openBracket_0 : decode cX12_openBracket 0 = .ok (.aload_n 0, 1) := dgX12_openBracket_0 (0, (.aload_n 0, 1)) (List.mem_of_getElem? (i := 0) rfl)
theorem dX12_openBracket_1 : decode cX12_openBracket 1 = .ok (.aload_n 0, 1) := dgX12_openBracket_0 (1, (.aload_n 0, 1)) (List.mem_of_getElem? (i := 1) rfl)
theorem dX12_openBracket_2 : decode cX12_openBracket 2 = .ok (.getfield 258, 3) := dgX12_openBracket_0 (2, (.getfield 258, 3)) (List.mem_of_getElem? (i := 2) rfl)
theorem dX12_openBracket_5 : decode cX12_openBracket 5 = .ok (.bipush 8, 2) := dgX12_openBracket_0 (5, (.bipush 8, 2)) (List.mem_of_getElem? (i := 3) rfl)
theorem dX12_openBracket_7 : decode cX12_openBracket 7 = .ok (.if_icmp .ge 7, 3) := dgX12_openBracket_0 (7, (.if_icmp .ge 7, 3)) (List.mem_of_getElem? (i := 4) rfl)
theorem dX12_openBracket_10 : decode cX12_openBracket 10 = .ok (.iconst 1, 1) := dgX12_openBracket_0 (10, (.iconst 1, 1)) (List.mem_of_getElem? (i := 5) rfl)
theorem dX12_openBracket_11 : decode cX12_openBracket 11 = .ok (.goto 4, 3) := dgX12_openBracket_0 (11, (.goto 4, 3)) (List.mem_of_getElem? (i := 6) rfl)
theorem dX12_openBracket_14 : decode cX12_openBracket 14 = .ok (.iconst 0, 1) := dgX12_openBracket_0 (14, (.iconst 0, 1)) (List.mem_of_getElem? (i := 7) rfl)
theorem dX12_openBracket_15 : decode cX12_openBracket 15 = .ok (.invokevirtual 233, 3) := dgX12_openBracket_0 (15, (.invokevirtual 233, 3)) (List.mem_of_getElem? (i := 8) rfl)
theorem dX12_openBracket_18 : decode cX12_openBracket 18 = .ok (.aload_n 0, 1) := dgX12_openBracket_0 (18, (.aload_n 0, 1)) (List.mem_of_getElem? (i := 9) rfl)
theorem dX12_openBracket_19 : decode cX12_openBracket 19 = .ok (.getfield 205, 3) := dgX12_openBracket_0 (19, (.getfield 205, 3)) (List.mem_of_getElem? (i := 10) rfl)
theorem dX12_openBracket_22 : decode cX12_openBracket 22 = .ok (.ifCond .ne 19, 3) := dgX12_openBracket_0 (22, (.ifCond .ne 19, 3)) (List.mem_of_getElem? (i := 11) rfl)
theorem dX12_openBracket_25 : decode cX12_openBracket 25 = .ok (.aload_n 0, 1) := dgX12_openBracket_0 (25, (.aload_n 0, 1)) (List.mem_of_getElem? (i := 12) rfl)
theorem dX12_openBracket_26 : decode cX12_openBracket 26 = .ok (.dup, 1) := dgX12_openBracket_0 (26, (.dup, 1)) (List.mem_of_getElem? (i := 13) rfl)
theorem dX12_openBracket_27 : decode cX12_openBracket 27 = .ok (.getfield 258, 3) := dgX12_openBracket_0 (27, (.getfield 258, 3)) (List.mem_of_getElem? (i := 14) rfl)
theorem dX12_openBracket_30 : decode cX12_openBracket 30 = .ok (.iconst 1, 1) := dgX12_openBracket_0 (30, (.iconst 1, 1)) (List.mem_of_getElem? (i := 15) rfl)
theorem dX12_openBracket_31 : decode cX12_openBracket 31 = .ok (.iadd, 1) := dgX12_openBracket_0 (31, (.iadd, 1)) (List.mem_of_getElem? (i := 16) rfl)
theorem dX12_openBracket_32 : decode cX12_openBracket 32 = .ok (.putfield 258, 3) := dgX12_openBracket_0 (32, (.putfield 258, 3)) (List.mem_of_getElem? (i := 17) rfl)
theorem dX12_openBracket_35 : decode cX12_openBracket 35 = .ok (.aload_n 0, 1) := dgX12_openBracket_0 (35, (.aload_n 0, 1)) (List.mem_of_getElem? (i := 18) rfl)
theorem dX12_openBracket_36 : decode cX12_openBracket 36 = .ok (.iload_n 1, 1) := dgX12_openBracket_0 (36, (.iload_n 1, 1)) (List.mem_of_getElem? (i := 19) rfl)
theorem dX12_openBracket_37 : decode cX12_openBracket 37 = .ok (.iconst 0, 1) := dgX12_openBracket_0 (37, (.iconst 0, 1)) (List.mem_of_getElem? (i := 20) rfl)
theorem dX12_openBracket_38 : decode cX12_openBracket 38 = .ok (.invokevirtual 261, 3) := dgX12_openBracket_0 (38, (.invokevirtual 261, 3)) (List.mem_of_getElem? (i := 21) rfl)
theorem dX12_openBracket_41 : decode cX12_openBracket 41 = .ok (.return_, 1) := dgX12_openBracket_0 (41, (.return_, 1)) (List.mem_of_getElem? (i := 22) rfl)
theorem fl_X12_258 : Cond.fieldLink RX12 258 "LateGlassModel" "opened" "I" ∈ tblG := tg 1227 (by decide +kernel) (by decide +kernel)
theorem ml_X12_233 : Cond.methodLink RX12 233 yX12_must ∈ tblG := tg 1525 (by decide +kernel) (by decide +kernel)
theorem im_X12_must : Cond.instanceMethod yX12_must ∈ tblG := tg 1527 (by decide +kernel) (by decide +kernel)
theorem se_X12_must : Cond.selects RX12 yX12_must yX12_must ∈ tblG := tg 47 (by decide +kernel) (by decide +kernel)
theorem cd_X12_must : Cond.code yX12_must cX12_must 2 none ∈ tblG := tg 1528 (by decide +kernel) (by decide +kernel)
theorem gW_X12_must : GoodIn tblG (wsG yX12_must cX12_must 2 none) := tgi cd_X12_must
theorem gV_X12_233 : GoodIn tblG (wsV RX12 233 RX12 yX12_must (wsG yX12_must cX12_must 2 none)) := tgV ml_X12_233 im_X12_must se_X12_must ini_X12 gW_X12_must
theorem hv_X12_must : yX12_must.cls = RX12 ∧ yX12_must.cls ≠ "java/lang/invoke/MethodHandle" ∧ yX12_must.cls ≠ "java/lang/invoke/VarHandle" ∧ (parseMethodDescriptor yX12_must.desc).map (fun d => d.parameters.length) = some 1 := by decide +kernel
theorem ml_X12_261 : Cond.methodLink RX12 261 yX12_push ∈ tblG := tg 1538 (by decide +kernel) (by decide +kernel)
theorem im_X12_push : Cond.instanceMethod yX12_push ∈ tblG := tg 1540 (by decide +kernel) (by decide +kernel)
theorem se_X12_push : Cond.selects RX12 yX12_push yX12_push ∈ tblG := tg 50 (by decide +kernel) (by decide +kernel)
theorem cd_X12_push : Cond.code yX12_push cX12_push 3 none ∈ tblG := tg 1541 (by decide +kernel) (by decide +kernel)
theorem gW_X12_push : GoodIn tblG (wsG yX12_push cX12_push 3 none) := tgi cd_X12_push
theorem gV_X12_261 : GoodIn tblG (wsV RX12 261 RX12 yX12_push (wsG yX12_push cX12_push 3 none)) := tgV ml_X12_261 im_X12_push se_X12_push ini_X12 gW_X12_push
theorem hv_X12_push : yX12_push.cls = RX12 ∧ yX12_push.cls ≠ "java/lang/invoke/MethodHandle" ∧ yX12_push.cls ≠ "java/lang/invoke/VarHandle" ∧ (parseMethodDescriptor yX12_push.desc).map (fun d => d.parameters.length) = some 2 := by decide +kernel
