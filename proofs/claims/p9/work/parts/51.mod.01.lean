set_option maxHeartbeats 4000000 in
set_option maxRecDepth 100000 in
theorem n_next (l : Launch) (G : g5_G) (b_o b_tp b_rf b_ro b_im b_ke b_nl b_op b_ar b_pi b_pa b_ws b_hw b_se b_re b_pt b_ip b_ah b_be b_me b_tr b_ld b_wn : Nat) (sz : Nat) (u_th : Int32) (u_sa : Int32) (u_fd : Int32) (u_td : Int32) (u_fr : Int32) (u_to : Int32) (u_so : Int32) (u_fa : Int32) (u_bd : Int32) (u_nc : Int32) (u_co : Int32) (u_le : Int32) (u_pd : Int32) (u_od : Int32) (u_la : Int32) (u_bk : Int32) (u_ce : Int32) (u_ho : Int32) (u_wy : Int32) (u_bt : Int32) (u_ps : Int32) (u_tg : Int32) (u_sn : Int32) (u_ic : Int32) (u_wd : Int32) (u_id : Int32) (u_wo : Int64) (u_va : Int64) (u_su : Int64) (u_st : Int64) (v_tp : Nat → Int32) (h_u_td : 0 ≤ u_td.toInt ∧ u_td.toInt ≤ 400) (h_u_fr : 0 ≤ u_fr.toInt ∧ u_fr.toInt ≤ 400) (h_u_to : 0 ≤ u_to.toInt ∧ u_to.toInt ≤ 400) (h_u_bd : 0 ≤ u_bd.toInt ∧ u_bd.toInt ≤ 1) (h_u_nc : 0 ≤ u_nc.toInt ∧ u_nc.toInt ≤ 12) (h_u_co : 0 ≤ u_co.toInt ∧ u_co.toInt ≤ 400) (h_u_pd : 0 ≤ u_pd.toInt ∧ u_pd.toInt ≤ 400) (h_u_la : 0 ≤ u_la.toInt ∧ u_la.toInt ≤ 4840) (h_u_bk : 0 ≤ u_bk.toInt ∧ u_bk.toInt ≤ 1) (h_u_ce : 0 ≤ u_ce.toInt ∧ u_ce.toInt ≤ 63) (h_u_ho : 0 ≤ u_ho.toInt ∧ u_ho.toInt ≤ 23) (h_u_wy : 0 ≤ u_wy.toInt ∧ u_wy.toInt ≤ 3) (h_u_bt : 0 ≤ u_bt.toInt ∧ u_bt.toInt ≤ 1000000) (h_u_ps : 0 ≤ u_ps.toInt ∧ u_ps.toInt ≤ 200) (h_u_ic : 0 ≤ u_ic.toInt ∧ u_ic.toInt ≤ 1) (h_u_id : 0 ≤ u_id.toInt ∧ u_id.toInt ≤ 1) (e_t : u_to.toInt ≤ u_td.toInt) : Met l yX12_next (wsG yX12_next cX12_next 1 none) ({ frames := 1, cells := 0, slots := 0, locals := 20 }) (va_Pc [.ref b_o] (g5_P G [(b_o, (oc12 u_th u_sa b_rf b_ro b_im b_ke u_fd b_tp u_td u_fr u_to u_so u_wo u_fa u_bd u_nc b_nl u_co b_op b_ar u_le b_pi b_pa u_pd u_od b_ws b_hw u_la b_se b_re u_bk u_va u_su u_ce u_ho u_wy u_bt u_ps b_pt u_tg u_sn b_ip u_ic b_ah b_be b_me u_wd b_tr b_ld u_st b_wn u_id)), (b_tp, (arI G 400 v_tp))] sz)) (va_Qv (fun (u : va_W) => (∃ (o_fr : Int32) (o_to : Int32) (o_so : Int32) (o_wo : Int64), (0 ≤ o_fr.toInt ∧ o_fr.toInt ≤ 400) ∧ (0 ≤ o_to.toInt ∧ o_to.toInt ≤ 400) ∧ (u_to.toInt ≤ o_fr.toInt ∧ o_fr.toInt ≤ o_to.toInt ∧ o_to.toInt ≤ u_td.toInt) ∧ (TKs o_so.toInt o_fr.toInt o_to.toInt) ∧ (u = [(b_o, (oc12 u_th u_sa b_rf b_ro b_im b_ke u_fd b_tp u_td o_fr o_to o_so o_wo u_fa u_bd u_nc b_nl u_co b_op b_ar u_le b_pi b_pa u_pd u_od b_ws b_hw u_la b_se b_re u_bk u_va u_su u_ce u_ho u_wy u_bt u_ps b_pt u_tg u_sn b_ip u_ic b_ah b_be b_me u_wd b_tr b_ld u_st b_wn u_id)), (b_tp, (arI G 400 v_tp))]))) (g5_B G (va_A [(b_o, (oc12 u_th u_sa b_rf b_ro b_im b_ke u_fd b_tp u_td u_fr u_to u_so u_wo u_fa u_bd u_nc b_nl u_co b_op b_ar u_le b_pi b_pa u_pd u_od b_ws b_hw u_la b_se b_re u_bk u_va u_su u_ce u_ho u_wy u_bt u_ps b_pt u_tg u_sn b_ip u_ic b_ah b_be b_me u_wd b_tr b_ld u_st b_wn u_id)), (b_tp, (arI G 400 v_tp))] sz)) (va_A [(b_o, (oc12 u_th u_sa b_rf b_ro b_im b_ke u_fd b_tp u_td u_fr u_to u_so u_wo u_fa u_bd u_nc b_nl u_co b_op b_ar u_le b_pi b_pa u_pd u_od b_ws b_hw u_la b_se b_re u_bk u_va u_su u_ce u_ho u_wy u_bt u_ps b_pt u_tg u_sn b_ip u_ic b_ah b_be b_me u_wd b_tr b_ld u_st b_wn u_id)), (b_tp, (arI G 400 v_tp))] sz)) 0 0 (va_A [(b_o, (oc12 u_th u_sa b_rf b_ro b_im b_ke u_fd b_tp u_td u_fr u_to u_so u_wo u_fa u_bd u_nc b_nl u_co b_op b_ar u_le b_pi b_pa u_pd u_od b_ws b_hw u_la b_se b_re u_bk u_va u_su u_ce u_ho u_wy u_bt u_ps b_pt u_tg u_sn b_ip u_ic b_ah b_be b_me u_wd b_tr b_ld u_st b_wn u_id)), (b_tp, (arI G 400 v_tp))] sz) := by
  refine Met.ofW (cc := cX12_next) (maxL := 1) (ret := none) (by decide) rfl ?_
  intro p e s m args below meth c s₁ B hml hv
  obtain ⟨rfl, hsz, hP, hK, hD0, hN, hT⟩ := hv
  have hx := B.exec
  have hb := B.bytes
  have hr := B.returns
  have hts : ∀ w ∈ tblG, w.before _ s = true := fun w h => atoms_spec (ws := (wsG yX12_next cX12_next 1 none)) B.pre w (List.mem_cons_of_mem _ h)
  have hown : s.vm.findClass RX12 = some m.cls := findClass_of_methodNamed B.named
  have hlocks := B.notSynchronized
  subst hsz
  have hD := hD0.self (sz := s.heap.size)
  generalize hAe : va_A [(b_o, (oc12 u_th u_sa b_rf b_ro b_im b_ke u_fd b_tp u_td u_fr u_to u_so u_wo u_fa u_bd u_nc b_nl u_co b_op b_ar u_le b_pi b_pa u_pd u_od b_ws b_hw u_la b_se b_re u_bk u_va u_su u_ce u_ho u_wy u_bt u_ps b_pt u_tg u_sn b_ip u_ic b_ah b_be b_me u_wd b_tr b_ld u_st b_wn u_id)), (b_tp, (arI G 400 v_tp))] s.heap.size = A at hD hT ⊢
  have hA : ∀ q : Nat, s.heap.size ≤ q → A q := fun q h => by rw [← hAe]; exact Or.inr h
  have hS : va_S A s.heap s.heap [] := va_S.rf
  have hP : va_P G.1 vwCl [(b_o, (oc12 u_th u_sa b_rf b_ro b_im b_ke u_fd b_tp u_td u_fr u_to u_so u_wo u_fa u_bd u_nc b_nl u_co b_op b_ar u_le b_pi b_pa u_pd u_od b_ws b_hw u_la b_se b_re u_bk u_va u_su u_ce u_ho u_wy u_bt u_ps b_pt u_tg u_sn b_ip u_ic b_ah b_be b_me u_wd b_tr b_ld u_st b_wn u_id)), (b_tp, (arI G 400 v_tp))] s.heap := hP
  have hl := lv_entry ([.ref b_o]) (n := 1) (Nat.le_of_ble_eq_true rfl)
  rw [lg_entry_eq]
  generalize (lg_sl ([.ref b_o]) ++ List.replicate (1 - (lg_sl ([.ref b_o])).length) Slot.unset).toArray = ls at hl ⊢
  have hl : lv_has ls 1 [(0, .ref b_o)] := hl
  refine lv_aload_n hx hb dX12_next_0 rfl (lv_at hl 0 rfl) ?_
  refine lv_aload_n hx hb dX12_next_1 rfl (lv_at hl 0 rfl) ?_
  refine va_get (D := G.1) (ci := 12) (v := .int u_to) (C := RX12) (T := TX12) (N := 52) hx hb hts inG_X12 hown hK hP 0 rfl rfl 10 (by decide) (hts _ fl_X12_202) (fun _ h9 => h9) rfl dX12_next_2 ?_
  refine va_put (D := G.1) (ci := 12) (v := .int u_to) (ty := .int) (C := RX12) (T := TX12) (N := 52) hx hb hts inG_X12 tyX12 tyX12_ok nmX12 hown hK hP hD hS 0 rfl rfl 9 (by decide) (hts _ fl_X12_211) (fun _ h9 => h9) rfl (by decide +kernel) rfl rfl (Nat.le_of_ble_eq_true rfl) dX12_next_5 (fun H locs hP hD hS => ?_)
  refine g5_rs [(b_o, (oc12 u_th u_sa b_rf b_ro b_im b_ke u_fd b_tp u_td u_to u_to u_so u_wo u_fa u_bd u_nc b_nl u_co b_op b_ar u_le b_pi b_pa u_pd u_od b_ws b_hw u_la b_se b_re u_bk u_va u_su u_ce u_ho u_wy u_bt u_ps b_pt u_tg u_sn b_ip u_ic b_ah b_be b_me u_wd b_tr b_ld u_st b_wn u_id)), (b_tp, (arI G 400 v_tp))] hP hD (fun hP hD => ?_)
  refine g5_loop (α := (Int32)) (fun (k8_fr : (Int32)) (ls : Array Slot) (H : Heap) (locs : List Loc) => lv_has ls 1 [(0, .ref b_o)] ∧ va_P G.1 vwCl [(b_o, (oc12 u_th u_sa b_rf b_ro b_im b_ke u_fd b_tp u_td k8_fr u_to u_so u_wo u_fa u_bd u_nc b_nl u_co b_op b_ar u_le b_pi b_pa u_pd u_od b_ws b_hw u_la b_se b_re u_bk u_va u_su u_ce u_ho u_wy u_bt u_ps b_pt u_tg u_sn b_ip u_ic b_ah b_be b_me u_wd b_tr b_ld u_st b_wn u_id)), (b_tp, (arI G 400 v_tp))] H ∧ va_D A [(b_o, (oc12 u_th u_sa b_rf b_ro b_im b_ke u_fd b_tp u_td k8_fr u_to u_so u_wo u_fa u_bd u_nc b_nl u_co b_op b_ar u_le b_pi b_pa u_pd u_od b_ws b_hw u_la b_se b_re u_bk u_va u_su u_ce u_ho u_wy u_bt u_ps b_pt u_tg u_sn b_ip u_ic b_ah b_be b_me u_wd b_tr b_ld u_st b_wn u_id)), (b_tp, (arI G 400 v_tp))] ∧ va_S A s.heap H locs ∧ (0 ≤ k8_fr.toInt ∧ k8_fr.toInt ≤ 400) ∧ (u_to.toInt ≤ k8_fr.toInt ∧ k8_fr.toInt ≤ u_td.toInt)) (fun (k8_fr : (Int32)) => Int.toNat (400 - k8_fr.toInt)) u_to ⟨lv_sub hl [0] rfl, hP, hD, hS, h_u_to, by omega⟩ ?_
  rintro k8_fr ls H locs ⟨hl, hP, hD, hS, i_1, i_2⟩ ih_8_3
  have hl : lv_has ls 1 [(0, .ref b_o)] := hl
  have i_1 : 0 ≤ k8_fr.toInt ∧ k8_fr.toInt ≤ 400 := i_1
  have i_2 : u_to.toInt ≤ k8_fr.toInt ∧ k8_fr.toInt ≤ u_td.toInt := i_2
  refine g5_rs [(b_o, (oc12 u_th u_sa b_rf b_ro b_im b_ke u_fd b_tp u_td k8_fr u_to u_so u_wo u_fa u_bd u_nc b_nl u_co b_op b_ar u_le b_pi b_pa u_pd u_od b_ws b_hw u_la b_se b_re u_bk u_va u_su u_ce u_ho u_wy u_bt u_ps b_pt u_tg u_sn b_ip u_ic b_ah b_be b_me u_wd b_tr b_ld u_st b_wn u_id)), (b_tp, (arI G 400 v_tp))] hP hD (fun hP hD => ?_)
  refine lv_aload_n hx hb dX12_next_8 rfl (lv_at hl 0 rfl) ?_
  refine va_get (D := G.1) (ci := 12) (v := .int k8_fr) (C := RX12) (T := TX12) (N := 52) hx hb hts inG_X12 hown hK hP 0 rfl rfl 9 (by decide) (hts _ fl_X12_211) (fun _ h9 => h9) rfl dX12_next_9 ?_
  refine lv_aload_n hx hb dX12_next_12 rfl (lv_at hl 0 rfl) ?_
  refine va_get (D := G.1) (ci := 12) (v := .int u_td) (C := RX12) (T := TX12) (N := 52) hx hb hts inG_X12 hown hK hP 0 rfl rfl 8 (by decide) (hts _ fl_X12_192) (fun _ h9 => h9) rfl dX12_next_13 ?_
  refine lv_icmp_ge (tgt := 46) hx hb dX12_next_16 (by decide) (fun c_4 => ?_) (fun c_4 => ?_)
  ·
    have i_4 : k8_fr.toInt ≥ u_td.toInt := by have z := g5_ge (a := k8_fr.toInt) (b := u_td.toInt) (by rfl) (by rfl) c_4; omega
    refine lv_aload_n hx hb dX12_next_46 rfl (lv_at hl 0 rfl) ?_
    refine lv_aload_n hx hb dX12_next_47 rfl (lv_at hl 0 rfl) ?_
    refine va_get (D := G.1) (ci := 12) (v := .int k8_fr) (C := RX12) (T := TX12) (N := 52) hx hb hts inG_X12 hown hK hP 0 rfl rfl 9 (by decide) (hts _ fl_X12_211) (fun _ h9 => h9) rfl dX12_next_48 ?_
    refine va_put (D := G.1) (ci := 12) (v := .int k8_fr) (ty := .int) (C := RX12) (T := TX12) (N := 52) hx hb hts inG_X12 tyX12 tyX12_ok nmX12 hown hK hP hD hS 0 rfl rfl 10 (by decide) (hts _ fl_X12_202) (fun _ h9 => h9) rfl (by decide +kernel) rfl rfl (Nat.le_of_ble_eq_true rfl) dX12_next_51 (fun H locs hP hD hS => ?_)
    refine g5_rs [(b_o, (oc12 u_th u_sa b_rf b_ro b_im b_ke u_fd b_tp u_td k8_fr k8_fr u_so u_wo u_fa u_bd u_nc b_nl u_co b_op b_ar u_le b_pi b_pa u_pd u_od b_ws b_hw u_la b_se b_re u_bk u_va u_su u_ce u_ho u_wy u_bt u_ps b_pt u_tg u_sn b_ip u_ic b_ah b_be b_me u_wd b_tr b_ld u_st b_wn u_id)), (b_tp, (arI G 400 v_tp))] hP hD (fun hP hD => ?_)
    refine lv_aload_n hx hb dX12_next_54 rfl (lv_at hl 0 rfl) ?_
    refine lv_lconst (v := 0) hx hb dX12_next_55 (by decide) ?_
    refine va_put (D := G.1) (ci := 12) (v := .long 0) (ty := .long) (C := RX12) (T := TX12) (N := 52) hx hb hts inG_X12 tyX12 tyX12_ok nmX12 hown hK hP hD hS 0 rfl rfl 12 (by decide) (hts _ fl_X12_214) (fun _ h9 => h9) rfl (by decide +kernel) rfl rfl (Nat.le_of_ble_eq_true rfl) dX12_next_56 (fun H locs hP hD hS => ?_)
    refine g5_rs [(b_o, (oc12 u_th u_sa b_rf b_ro b_im b_ke u_fd b_tp u_td k8_fr k8_fr u_so 0 u_fa u_bd u_nc b_nl u_co b_op b_ar u_le b_pi b_pa u_pd u_od b_ws b_hw u_la b_se b_re u_bk u_va u_su u_ce u_ho u_wy u_bt u_ps b_pt u_tg u_sn b_ip u_ic b_ah b_be b_me u_wd b_tr b_ld u_st b_wn u_id)), (b_tp, (arI G 400 v_tp))] hP hD (fun hP hD => ?_)
    refine lv_aload_n hx hb dX12_next_59 rfl (lv_at hl 0 rfl) ?_
    refine lv_aload_n hx hb dX12_next_60 rfl (lv_at hl 0 rfl) ?_
    refine va_get (D := G.1) (ci := 12) (v := .int k8_fr) (C := RX12) (T := TX12) (N := 52) hx hb hts inG_X12 hown hK hP 0 rfl rfl 9 (by decide) (hts _ fl_X12_211) (fun _ h9 => h9) rfl dX12_next_61 ?_
    refine lv_aload_n hx hb dX12_next_64 rfl (lv_at hl 0 rfl) ?_
    refine va_get (D := G.1) (ci := 12) (v := .int u_td) (C := RX12) (T := TX12) (N := 52) hx hb hts inG_X12 hown hK hP 0 rfl rfl 8 (by decide) (hts _ fl_X12_192) (fun _ h9 => h9) rfl dX12_next_65 ?_
    refine lv_icmp_ne (tgt := 75) hx hb dX12_next_68 (by decide) (fun c_5 => ?_) (fun c_5 => ?_)
    ·
      have n_5 : gNe (k8_fr.toInt) (u_td.toInt) := by have z := g5_ne (a := k8_fr.toInt) (b := u_td.toInt) (by rfl) (by rfl) c_5; unfold gNe; omega
      exact absurd (show k8_fr.toInt = u_td.toInt by omega) n_5
    ·
      have i_5 : k8_fr.toInt = u_td.toInt := by have z := g5_neN (a := k8_fr.toInt) (b := u_td.toInt) (by rfl) (by rfl) c_5; omega
      refine lv_iconst (v := 0) hx hb dX12_next_71 (by decide) ?_
      refine lv_goto (tgt := 114) hx hb dX12_next_72 (by decide) ?_
      refine va_put (D := G.1) (ci := 12) (v := .int 0) (ty := .int) (C := RX12) (T := TX12) (N := 52) hx hb hts inG_X12 tyX12 tyX12_ok nmX12 hown hK hP hD hS 0 rfl rfl 11 (by decide) (hts _ fl_X12_224) (fun _ h9 => h9) rfl (by decide +kernel) rfl rfl (Nat.le_of_ble_eq_true rfl) dX12_next_114 (fun H locs hP hD hS => ?_)
      refine g5_rs [(b_o, (oc12 u_th u_sa b_rf b_ro b_im b_ke u_fd b_tp u_td k8_fr k8_fr 0 0 u_fa u_bd u_nc b_nl u_co b_op b_ar u_le b_pi b_pa u_pd u_od b_ws b_hw u_la b_se b_re u_bk u_va u_su u_ce u_ho u_wy u_bt u_ps b_pt u_tg u_sn b_ip u_ic b_ah b_be b_me u_wd b_tr b_ld u_st b_wn u_id)), (b_tp, (arI G 400 v_tp))] hP hD (fun hP hD => ?_)
      refine lv_aload_n hx hb dX12_next_117 rfl (lv_at hl 0 rfl) ?_
      refine va_get (D := G.1) (ci := 12) (v := .int 0) (C := RX12) (T := TX12) (N := 52) hx hb hts inG_X12 hown hK hP 0 rfl rfl 11 (by decide) (hts _ fl_X12_224) (fun _ h9 => h9) rfl dX12_next_118 ?_
      refine lv_iconst (v := 3) hx hb dX12_next_121 (by decide) ?_
      refine lv_icmp_ne (tgt := 149) hx hb dX12_next_122 (by decide) (fun c_6 => ?_) (fun c_6 => ?_)
      ·
        refine g5_loop (α := (Int32) × (Int64)) (fun (q : (Int32) × (Int64)) (ls : Array Slot) (H : Heap) (locs : List Loc) => match q with | (k149_to, k149_wo) => lv_has ls 1 [(0, .ref b_o)] ∧ va_P G.1 vwCl [(b_o, (oc12 u_th u_sa b_rf b_ro b_im b_ke u_fd b_tp u_td k8_fr k149_to 0 k149_wo u_fa u_bd u_nc b_nl u_co b_op b_ar u_le b_pi b_pa u_pd u_od b_ws b_hw u_la b_se b_re u_bk u_va u_su u_ce u_ho u_wy u_bt u_ps b_pt u_tg u_sn b_ip u_ic b_ah b_be b_me u_wd b_tr b_ld u_st b_wn u_id)), (b_tp, (arI G 400 v_tp))] H ∧ va_D A [(b_o, (oc12 u_th u_sa b_rf b_ro b_im b_ke u_fd b_tp u_td k8_fr k149_to 0 k149_wo u_fa u_bd u_nc b_nl u_co b_op b_ar u_le b_pi b_pa u_pd u_od b_ws b_hw u_la b_se b_re u_bk u_va u_su u_ce u_ho u_wy u_bt u_ps b_pt u_tg u_sn b_ip u_ic b_ah b_be b_me u_wd b_tr b_ld u_st b_wn u_id)), (b_tp, (arI G 400 v_tp))] ∧ va_S A s.heap H locs ∧ (0 ≤ k149_to.toInt ∧ k149_to.toInt ≤ 400) ∧ (k8_fr.toInt ≤ k149_to.toInt ∧ k149_to.toInt ≤ u_td.toInt)) (fun (q : (Int32) × (Int64)) => match q with | (k149_to, k149_wo) => Int.toNat (400 - k149_to.toInt)) (k8_fr, 0) ⟨lv_sub hl [0] rfl, hP, hD, hS, i_1, by omega⟩ ?_
        rintro ⟨k149_to, k149_wo⟩ ls H locs ⟨hl, hP, hD, hS, i_7, i_8⟩ ih_149_9
        have hl : lv_has ls 1 [(0, .ref b_o)] := hl
        have i_7 : 0 ≤ k149_to.toInt ∧ k149_to.toInt ≤ 400 := i_7
        have i_8 : k8_fr.toInt ≤ k149_to.toInt ∧ k149_to.toInt ≤ u_td.toInt := i_8
        refine g5_rs [(b_o, (oc12 u_th u_sa b_rf b_ro b_im b_ke u_fd b_tp u_td k8_fr k149_to 0 k149_wo u_fa u_bd u_nc b_nl u_co b_op b_ar u_le b_pi b_pa u_pd u_od b_ws b_hw u_la b_se b_re u_bk u_va u_su u_ce u_ho u_wy u_bt u_ps b_pt u_tg u_sn b_ip u_ic b_ah b_be b_me u_wd b_tr b_ld u_st b_wn u_id)), (b_tp, (arI G 400 v_tp))] hP hD (fun hP hD => ?_)
        refine lv_aload_n hx hb dX12_next_149 rfl (lv_at hl 0 rfl) ?_
        refine va_get (D := G.1) (ci := 12) (v := .int 0) (C := RX12) (T := TX12) (N := 52) hx hb hts inG_X12 hown hK hP 0 rfl rfl 11 (by decide) (hts _ fl_X12_224) (fun _ h9 => h9) rfl dX12_next_150 ?_
        refine lv_iconst (v := 1) hx hb dX12_next_153 (by decide) ?_
        refine lv_icmp_ne (tgt := 243) hx hb dX12_next_154 (by decide) (fun c_10 => ?_) (fun c_10 => ?_)
        ·
          refine g5_loop (α := (Int32) × (Int64)) (fun (q : (Int32) × (Int64)) (ls : Array Slot) (H : Heap) (locs : List Loc) => match q with | (k243_to, k243_wo) => lv_has ls 1 [(0, .ref b_o)] ∧ va_P G.1 vwCl [(b_o, (oc12 u_th u_sa b_rf b_ro b_im b_ke u_fd b_tp u_td k8_fr k243_to 0 k243_wo u_fa u_bd u_nc b_nl u_co b_op b_ar u_le b_pi b_pa u_pd u_od b_ws b_hw u_la b_se b_re u_bk u_va u_su u_ce u_ho u_wy u_bt u_ps b_pt u_tg u_sn b_ip u_ic b_ah b_be b_me u_wd b_tr b_ld u_st b_wn u_id)), (b_tp, (arI G 400 v_tp))] H ∧ va_D A [(b_o, (oc12 u_th u_sa b_rf b_ro b_im b_ke u_fd b_tp u_td k8_fr k243_to 0 k243_wo u_fa u_bd u_nc b_nl u_co b_op b_ar u_le b_pi b_pa u_pd u_od b_ws b_hw u_la b_se b_re u_bk u_va u_su u_ce u_ho u_wy u_bt u_ps b_pt u_tg u_sn b_ip u_ic b_ah b_be b_me u_wd b_tr b_ld u_st b_wn u_id)), (b_tp, (arI G 400 v_tp))] ∧ va_S A s.heap H locs ∧ (0 ≤ k243_to.toInt ∧ k243_to.toInt ≤ 400) ∧ (k8_fr.toInt ≤ k243_to.toInt ∧ k243_to.toInt ≤ u_td.toInt)) (fun (q : (Int32) × (Int64)) => match q with | (k243_to, k243_wo) => Int.toNat (400 - k243_to.toInt)) (k149_to, k149_wo) ⟨lv_sub hl [0] rfl, hP, hD, hS, i_7, by omega⟩ ?_
          rintro ⟨k243_to, k243_wo⟩ ls H locs ⟨hl, hP, hD, hS, i_11, i_12⟩ ih_243_13
          have hl : lv_has ls 1 [(0, .ref b_o)] := hl
          have i_11 : 0 ≤ k243_to.toInt ∧ k243_to.toInt ≤ 400 := i_11
          have i_12 : k8_fr.toInt ≤ k243_to.toInt ∧ k243_to.toInt ≤ u_td.toInt := i_12
          refine g5_rs [(b_o, (oc12 u_th u_sa b_rf b_ro b_im b_ke u_fd b_tp u_td k8_fr k243_to 0 k243_wo u_fa u_bd u_nc b_nl u_co b_op b_ar u_le b_pi b_pa u_pd u_od b_ws b_hw u_la b_se b_re u_bk u_va u_su u_ce u_ho u_wy u_bt u_ps b_pt u_tg u_sn b_ip u_ic b_ah b_be b_me u_wd b_tr b_ld u_st b_wn u_id)), (b_tp, (arI G 400 v_tp))] hP hD (fun hP hD => ?_)
          refine lv_aload_n hx hb dX12_next_243 rfl (lv_at hl 0 rfl) ?_
          refine va_get (D := G.1) (ci := 12) (v := .int 0) (C := RX12) (T := TX12) (N := 52) hx hb hts inG_X12 hown hK hP 0 rfl rfl 11 (by decide) (hts _ fl_X12_224) (fun _ h9 => h9) rfl dX12_next_244 ?_
          refine lv_iconst (v := 2) hx hb dX12_next_247 (by decide) ?_
          refine lv_icmp_ne (tgt := 335) hx hb dX12_next_248 (by decide) (fun c_14 => ?_) (fun c_14 => ?_)
          ·
            exact W.vret hx hb hr (fun t ht hW => ⟨⟨[(b_o, (oc12 u_th u_sa b_rf b_ro b_im b_ke u_fd b_tp u_td k8_fr k243_to 0 k243_wo u_fa u_bd u_nc b_nl u_co b_op b_ar u_le b_pi b_pa u_pd u_od b_ws b_hw u_la b_se b_re u_bk u_va u_su u_ce u_ho u_wy u_bt u_ps b_pt u_tg u_sn b_ip u_ic b_ah b_be b_me u_wd b_tr b_ld u_st b_wn u_id)), (b_tp, (arI G 400 v_tp))], rfl, ⟨k8_fr, k243_to, 0, k243_wo, i_1, i_11, by omega, Or.inl (by decide), rfl⟩, by rw [ht]; exact hP.sub [0, 1] rfl, hD.sub [0, 1] (by decide) rfl⟩, hS.F ht⟩) hS.2.2 dX12_next_335
          ·
            exact absurd c_14 (by decide)
        ·
          exact absurd c_10 (by decide)
      ·
        exact absurd c_6 (by decide)
  ·
    have i_4 : k8_fr.toInt < u_td.toInt := by have z := g5_geN (a := k8_fr.toInt) (b := u_td.toInt) (by rfl) (by rfl) c_4; omega
    refine lv_aload_n hx hb dX12_next_19 rfl (lv_at hl 0 rfl) ?_
    refine va_get (D := G.1) (ci := 12) (v := .ref b_tp) (C := RX12) (T := TX12) (N := 52) hx hb hts inG_X12 hown hK hP 0 rfl rfl 7 (by decide) (hts _ fl_X12_23) (fun _ h9 => h9) rfl dX12_next_20 ?_
    refine lv_aload_n hx hb dX12_next_23 rfl (lv_at hl 0 rfl) ?_
    refine va_get (D := G.1) (ci := 12) (v := .int k8_fr) (C := RX12) (T := TX12) (N := 52) hx hb hts inG_X12 hown hK hP 0 rfl rfl 9 (by decide) (hts _ fl_X12_211) (fun _ h9 => h9) rfl dX12_next_24 ?_
    refine va_iald hx hb hK hP 1 0 rfl rfl (i := k8_fr) (vp_in_iff.mpr ⟨by omega, by omega⟩) dX12_next_27 ?_
    refine lv_bipush (v := 32) hx hb dX12_next_28 (by decide) ?_
    refine lv_icmp_ne (tgt := 46) hx hb dX12_next_30 (by decide) (fun c_15 => ?_) (fun c_15 => ?_)
    ·
      have n_15 : gNe ((v_tp k8_fr.toNatClampNeg).toInt) (32) := by have z := g5_ne (a := (v_tp k8_fr.toNatClampNeg).toInt) (b := 32) (by rfl) (by decide) c_15; unfold gNe; omega
      refine lv_aload_n hx hb dX12_next_46 rfl (lv_at hl 0 rfl) ?_
      refine lv_aload_n hx hb dX12_next_47 rfl (lv_at hl 0 rfl) ?_
      refine va_get (D := G.1) (ci := 12) (v := .int k8_fr) (C := RX12) (T := TX12) (N := 52) hx hb hts inG_X12 hown hK hP 0 rfl rfl 9 (by decide) (hts _ fl_X12_211) (fun _ h9 => h9) rfl dX12_next_48 ?_
      refine va_put (D := G.1) (ci := 12) (v := .int k8_fr) (ty := .int) (C := RX12) (T := TX12) (N := 52) hx hb hts inG_X12 tyX12 tyX12_ok nmX12 hown hK hP hD hS 0 rfl rfl 10 (by decide) (hts _ fl_X12_202) (fun _ h9 => h9) rfl (by decide +kernel) rfl rfl (Nat.le_of_ble_eq_true rfl) dX12_next_51 (fun H locs hP hD hS => ?_)
      refine g5_rs [(b_o, (oc12 u_th u_sa b_rf b_ro b_im b_ke u_fd b_tp u_td k8_fr k8_fr u_so u_wo u_fa u_bd u_nc b_nl u_co b_op b_ar u_le b_pi b_pa u_pd u_od b_ws b_hw u_la b_se b_re u_bk u_va u_su u_ce u_ho u_wy u_bt u_ps b_pt u_tg u_sn b_ip u_ic b_ah b_be b_me u_wd b_tr b_ld u_st b_wn u_id)), (b_tp, (arI G 400 v_tp))] hP hD (fun hP hD => ?_)
      refine lv_aload_n hx hb dX12_next_54 rfl (lv_at hl 0 rfl) ?_
      refine lv_lconst (v := 0) hx hb dX12_next_55 (by decide) ?_
      refine va_put (D := G.1) (ci := 12) (v := .long 0) (ty := .long) (C := RX12) (T := TX12) (N := 52) hx hb hts inG_X12 tyX12 tyX12_ok nmX12 hown hK hP hD hS 0 rfl rfl 12 (by decide) (hts _ fl_X12_214) (fun _ h9 => h9) rfl (by decide +kernel) rfl rfl (Nat.le_of_ble_eq_true rfl) dX12_next_56 (fun H locs hP hD hS => ?_)
      refine g5_rs [(b_o, (oc12 u_th u_sa b_rf b_ro b_im b_ke u_fd b_tp u_td k8_fr k8_fr u_so 0 u_fa u_bd u_nc b_nl u_co b_op b_ar u_le b_pi b_pa u_pd u_od b_ws b_hw u_la b_se b_re u_bk u_va u_su u_ce u_ho u_wy u_bt u_ps b_pt u_tg u_sn b_ip u_ic b_ah b_be b_me u_wd b_tr b_ld u_st b_wn u_id)), (b_tp, (arI G 400 v_tp))] hP hD (fun hP hD => ?_)
      refine lv_aload_n hx hb dX12_next_59 rfl (lv_at hl 0 rfl) ?_
      refine lv_aload_n hx hb dX12_next_60 rfl (lv_at hl 0 rfl) ?_
      refine va_get (D := G.1) (ci := 12) (v := .int k8_fr) (C := RX12) (T := TX12) (N := 52) hx hb hts inG_X12 hown hK hP 0 rfl rfl 9 (by decide) (hts _ fl_X12_211) (fun _ h9 => h9) rfl dX12_next_61 ?_
      refine lv_aload_n hx hb dX12_next_64 rfl (lv_at hl 0 rfl) ?_
      refine va_get (D := G.1) (ci := 12) (v := .int u_td) (C := RX12) (T := TX12) (N := 52) hx hb hts inG_X12 hown hK hP 0 rfl rfl 8 (by decide) (hts _ fl_X12_192) (fun _ h9 => h9) rfl dX12_next_65 ?_
      refine lv_icmp_ne (tgt := 75) hx hb dX12_next_68 (by decide) (fun c_16 => ?_) (fun c_16 => ?_)
      ·
        have n_16 : gNe (k8_fr.toInt) (u_td.toInt) := by have z := g5_ne (a := k8_fr.toInt) (b := u_td.toInt) (by rfl) (by rfl) c_16; unfold gNe; omega
        refine lv_aload_n hx hb dX12_next_75 rfl (lv_at hl 0 rfl) ?_
        refine va_get (D := G.1) (ci := 12) (v := .ref b_tp) (C := RX12) (T := TX12) (N := 52) hx hb hts inG_X12 hown hK hP 0 rfl rfl 7 (by decide) (hts _ fl_X12_23) (fun _ h9 => h9) rfl dX12_next_76 ?_
        refine lv_aload_n hx hb dX12_next_79 rfl (lv_at hl 0 rfl) ?_
        refine va_get (D := G.1) (ci := 12) (v := .int k8_fr) (C := RX12) (T := TX12) (N := 52) hx hb hts inG_X12 hown hK hP 0 rfl rfl 9 (by decide) (hts _ fl_X12_211) (fun _ h9 => h9) rfl dX12_next_80 ?_
        refine va_iald hx hb hK hP 1 0 rfl rfl (i := k8_fr) (vp_in_iff.mpr ⟨by omega, by omega⟩) dX12_next_83 ?_
        obtain ⟨hPc, hDc, hFc⟩ := g5_sub3 (wc := []) hP hD hS hA [] (by decide) rfl
        refine va_calli (va_runS (As := [.int (v_tp k8_fr.toNatClampNeg)]) (rest := [.ref b_o]) ⟨hx, hb, hml, hown, hts⟩ (n_isSmallX l G H.size (v_tp k8_fr.toNatClampNeg)) (va_cwS 1 hts gS_X12_218 rfl rfl rfl hs_X12_isSmall ⟨Nat.le_of_ble_eq_true rfl, Nat.le_of_ble_eq_true rfl⟩) (g5_preS hPc hK hDc hN hT hS hFc) rfl rfl hl.1 rfl (lv_room (Nat.le_of_ble_eq_true rfl)) dX12_next_84 ⟨Nat.le_of_ble_eq_true rfl, Nat.le_of_ble_eq_true rfl⟩) hS (fun q _ h => hFc q h) hFc (fun r u t H1 locs ht hvm hw hB hz1 hk1 hS => ?_)
        obtain ⟨hP1, hD1⟩ := hB
        rw [ht] at hP1
        rcases hw with ⟨i_17, rfl, rfl⟩ | ⟨i_18, rfl, rfl⟩
        ·
          have i_17 : 97 ≤ (v_tp k8_fr.toNatClampNeg).toInt ∧ (v_tp k8_fr.toNatClampNeg).toInt ≤ 122 := i_17
          have hP := g5_same hP hk1
          generalize H1 = H at hP hS ⊢
          refine lv_if_eq (tgt := 94) hx hb dX12_next_87 (by decide) (fun c_19 => ?_) (fun c_19 => ?_)
          ·
            exact absurd c_19 (by decide)
          ·
            refine lv_iconst (v := 1) hx hb dX12_next_90 (by decide) ?_
            refine lv_goto (tgt := 114) hx hb dX12_next_91 (by decide) ?_
            refine va_put (D := G.1) (ci := 12) (v := .int 1) (ty := .int) (C := RX12) (T := TX12) (N := 52) hx hb hts inG_X12 tyX12 tyX12_ok nmX12 hown hK hP hD hS 0 rfl rfl 11 (by decide) (hts _ fl_X12_224) (fun _ h9 => h9) rfl (by decide +kernel) rfl rfl (Nat.le_of_ble_eq_true rfl) dX12_next_114 (fun H locs hP hD hS => ?_)
            refine g5_rs [(b_o, (oc12 u_th u_sa b_rf b_ro b_im b_ke u_fd b_tp u_td k8_fr k8_fr 1 0 u_fa u_bd u_nc b_nl u_co b_op b_ar u_le b_pi b_pa u_pd u_od b_ws b_hw u_la b_se b_re u_bk u_va u_su u_ce u_ho u_wy u_bt u_ps b_pt u_tg u_sn b_ip u_ic b_ah b_be b_me u_wd b_tr b_ld u_st b_wn u_id)), (b_tp, (arI G 400 v_tp))] hP hD (fun hP hD => ?_)
            refine lv_aload_n hx hb dX12_next_117 rfl (lv_at hl 0 rfl) ?_
            refine va_get (D := G.1) (ci := 12) (v := .int 1) (C := RX12) (T := TX12) (N := 52) hx hb hts inG_X12 hown hK hP 0 rfl rfl 11 (by decide) (hts _ fl_X12_224) (fun _ h9 => h9) rfl dX12_next_118 ?_
            refine lv_iconst (v := 3) hx hb dX12_next_121 (by decide) ?_
            refine lv_icmp_ne (tgt := 149) hx hb dX12_next_122 (by decide) (fun c_20 => ?_) (fun c_20 => ?_)
            ·
              refine g5_loop (α := (Int32) × (Int64)) (fun (q : (Int32) × (Int64)) (ls : Array Slot) (H : Heap) (locs : List Loc) => match q with | (k149_to, k149_wo) => lv_has ls 1 [(0, .ref b_o)] ∧ va_P G.1 vwCl [(b_o, (oc12 u_th u_sa b_rf b_ro b_im b_ke u_fd b_tp u_td k8_fr k149_to 1 k149_wo u_fa u_bd u_nc b_nl u_co b_op b_ar u_le b_pi b_pa u_pd u_od b_ws b_hw u_la b_se b_re u_bk u_va u_su u_ce u_ho u_wy u_bt u_ps b_pt u_tg u_sn b_ip u_ic b_ah b_be b_me u_wd b_tr b_ld u_st b_wn u_id)), (b_tp, (arI G 400 v_tp))] H ∧ va_D A [(b_o, (oc12 u_th u_sa b_rf b_ro b_im b_ke u_fd b_tp u_td k8_fr k149_to 1 k149_wo u_fa u_bd u_nc b_nl u_co b_op b_ar u_le b_pi b_pa u_pd u_od b_ws b_hw u_la b_se b_re u_bk u_va u_su u_ce u_ho u_wy u_bt u_ps b_pt u_tg u_sn b_ip u_ic b_ah b_be b_me u_wd b_tr b_ld u_st b_wn u_id)), (b_tp, (arI G 400 v_tp))] ∧ va_S A s.heap H locs ∧ (0 ≤ k149_to.toInt ∧ k149_to.toInt ≤ 400) ∧ (k8_fr.toInt ≤ k149_to.toInt ∧ k149_to.toInt ≤ u_td.toInt) ∧ (k8_fr.toInt < k149_to.toInt ∨ (97 ≤ (v_tp k8_fr.toNatClampNeg).toInt ∧ (v_tp k8_fr.toNatClampNeg).toInt ≤ 122 ∧ k149_to.toInt = k8_fr.toInt))) (fun (q : (Int32) × (Int64)) => match q with | (k149_to, k149_wo) => Int.toNat (400 - k149_to.toInt)) (k8_fr, 0) ⟨lv_sub hl [0] rfl, hP, hD, hS, i_1, by omega, Or.inr ⟨by omega, by omega, by omega⟩⟩ ?_
              rintro ⟨k149_to, k149_wo⟩ ls H locs ⟨hl, hP, hD, hS, i_21, i_22, i_23⟩ ih_149_24
              have hl : lv_has ls 1 [(0, .ref b_o)] := hl
              have i_21 : 0 ≤ k149_to.toInt ∧ k149_to.toInt ≤ 400 := i_21
              have i_22 : k8_fr.toInt ≤ k149_to.toInt ∧ k149_to.toInt ≤ u_td.toInt := i_22
              have i_23 : k8_fr.toInt < k149_to.toInt ∨ (97 ≤ (v_tp k8_fr.toNatClampNeg).toInt ∧ (v_tp k8_fr.toNatClampNeg).toInt ≤ 122 ∧ k149_to.toInt = k8_fr.toInt) := i_23
              refine g5_rs [(b_o, (oc12 u_th u_sa b_rf b_ro b_im b_ke u_fd b_tp u_td k8_fr k149_to 1 k149_wo u_fa u_bd u_nc b_nl u_co b_op b_ar u_le b_pi b_pa u_pd u_od b_ws b_hw u_la b_se b_re u_bk u_va u_su u_ce u_ho u_wy u_bt u_ps b_pt u_tg u_sn b_ip u_ic b_ah b_be b_me u_wd b_tr b_ld u_st b_wn u_id)), (b_tp, (arI G 400 v_tp))] hP hD (fun hP hD => ?_)
              refine lv_aload_n hx hb dX12_next_149 rfl (lv_at hl 0 rfl) ?_
              refine va_get (D := G.1) (ci := 12) (v := .int 1) (C := RX12) (T := TX12) (N := 52) hx hb hts inG_X12 hown hK hP 0 rfl rfl 11 (by decide) (hts _ fl_X12_224) (fun _ h9 => h9) rfl dX12_next_150 ?_
              refine lv_iconst (v := 1) hx hb dX12_next_153 (by decide) ?_
              refine lv_icmp_ne (tgt := 243) hx hb dX12_next_154 (by decide) (fun c_25 => ?_) (fun c_25 => ?_)
              ·
                exact absurd c_25 (by decide)
              ·
                refine lv_aload_n hx hb dX12_next_157 rfl (lv_at hl 0 rfl) ?_
                refine va_get (D := G.1) (ci := 12) (v := .int k149_to) (C := RX12) (T := TX12) (N := 52) hx hb hts inG_X12 hown hK hP 0 rfl rfl 10 (by decide) (hts _ fl_X12_202) (fun _ h9 => h9) rfl dX12_next_158 ?_
                refine lv_aload_n hx hb dX12_next_161 rfl (lv_at hl 0 rfl) ?_
                refine va_get (D := G.1) (ci := 12) (v := .int u_td) (C := RX12) (T := TX12) (N := 52) hx hb hts inG_X12 hown hK hP 0 rfl rfl 8 (by decide) (hts _ fl_X12_192) (fun _ h9 => h9) rfl dX12_next_162 ?_
                refine lv_icmp_ge (tgt := 243) hx hb dX12_next_165 (by decide) (fun c_26 => ?_) (fun c_26 => ?_)
                ·
                  have i_26 : k149_to.toInt ≥ u_td.toInt := by have z := g5_ge (a := k149_to.toInt) (b := u_td.toInt) (by rfl) (by rfl) c_26; omega
                  refine g5_loop (α := (Int32) × (Int64)) (fun (q : (Int32) × (Int64)) (ls : Array Slot) (H : Heap) (locs : List Loc) => match q with | (k243_to, k243_wo) => lv_has ls 1 [(0, .ref b_o)] ∧ va_P G.1 vwCl [(b_o, (oc12 u_th u_sa b_rf b_ro b_im b_ke u_fd b_tp u_td k8_fr k243_to 1 k243_wo u_fa u_bd u_nc b_nl u_co b_op b_ar u_le b_pi b_pa u_pd u_od b_ws b_hw u_la b_se b_re u_bk u_va u_su u_ce u_ho u_wy u_bt u_ps b_pt u_tg u_sn b_ip u_ic b_ah b_be b_me u_wd b_tr b_ld u_st b_wn u_id)), (b_tp, (arI G 400 v_tp))] H ∧ va_D A [(b_o, (oc12 u_th u_sa b_rf b_ro b_im b_ke u_fd b_tp u_td k8_fr k243_to 1 k243_wo u_fa u_bd u_nc b_nl u_co b_op b_ar u_le b_pi b_pa u_pd u_od b_ws b_hw u_la b_se b_re u_bk u_va u_su u_ce u_ho u_wy u_bt u_ps b_pt u_tg u_sn b_ip u_ic b_ah b_be b_me u_wd b_tr b_ld u_st b_wn u_id)), (b_tp, (arI G 400 v_tp))] ∧ va_S A s.heap H locs ∧ (0 ≤ k243_to.toInt ∧ k243_to.toInt ≤ 400) ∧ (k8_fr.toInt ≤ k243_to.toInt ∧ k243_to.toInt ≤ u_td.toInt) ∧ (k8_fr.toInt < k243_to.toInt)) (fun (q : (Int32) × (Int64)) => match q with | (k243_to, k243_wo) => Int.toNat (400 - k243_to.toInt)) (k149_to, k149_wo) ⟨lv_sub hl [0] rfl, hP, hD, hS, i_21, by omega, by omega⟩ ?_
                  rintro ⟨k243_to, k243_wo⟩ ls H locs ⟨hl, hP, hD, hS, i_27, i_28, i_29⟩ ih_243_30
                  have hl : lv_has ls 1 [(0, .ref b_o)] := hl
                  have i_27 : 0 ≤ k243_to.toInt ∧ k243_to.toInt ≤ 400 := i_27
                  have i_28 : k8_fr.toInt ≤ k243_to.toInt ∧ k243_to.toInt ≤ u_td.toInt := i_28
                  have i_29 : k8_fr.toInt < k243_to.toInt := i_29
                  refine g5_rs [(b_o, (oc12 u_th u_sa b_rf b_ro b_im b_ke u_fd b_tp u_td k8_fr k243_to 1 k243_wo u_fa u_bd u_nc b_nl u_co b_op b_ar u_le b_pi b_pa u_pd u_od b_ws b_hw u_la b_se b_re u_bk u_va u_su u_ce u_ho u_wy u_bt u_ps b_pt u_tg u_sn b_ip u_ic b_ah b_be b_me u_wd b_tr b_ld u_st b_wn u_id)), (b_tp, (arI G 400 v_tp))] hP hD (fun hP hD => ?_)
                  refine lv_aload_n hx hb dX12_next_243 rfl (lv_at hl 0 rfl) ?_
                  refine va_get (D := G.1) (ci := 12) (v := .int 1) (C := RX12) (T := TX12) (N := 52) hx hb hts inG_X12 hown hK hP 0 rfl rfl 11 (by decide) (hts _ fl_X12_224) (fun _ h9 => h9) rfl dX12_next_244 ?_
                  refine lv_iconst (v := 2) hx hb dX12_next_247 (by decide) ?_
                  refine lv_icmp_ne (tgt := 335) hx hb dX12_next_248 (by decide) (fun c_31 => ?_) (fun c_31 => ?_)
                  ·
                    exact W.vret hx hb hr (fun t ht hW => ⟨⟨[(b_o, (oc12 u_th u_sa b_rf b_ro b_im b_ke u_fd b_tp u_td k8_fr k243_to 1 k243_wo u_fa u_bd u_nc b_nl u_co b_op b_ar u_le b_pi b_pa u_pd u_od b_ws b_hw u_la b_se b_re u_bk u_va u_su u_ce u_ho u_wy u_bt u_ps b_pt u_tg u_sn b_ip u_ic b_ah b_be b_me u_wd b_tr b_ld u_st b_wn u_id)), (b_tp, (arI G 400 v_tp))], rfl, ⟨k8_fr, k243_to, 1, k243_wo, i_1, i_27, by omega, Or.inr (by omega), rfl⟩, by rw [ht]; exact hP.sub [0, 1] rfl, hD.sub [0, 1] (by decide) rfl⟩, hS.F ht⟩) hS.2.2 dX12_next_335
                  ·
                    exact absurd c_31 (by decide)
                ·
                  have i_26 : k149_to.toInt < u_td.toInt := by have z := g5_geN (a := k149_to.toInt) (b := u_td.toInt) (by rfl) (by rfl) c_26; omega
                  refine lv_aload_n hx hb dX12_next_168 rfl (lv_at hl 0 rfl) ?_
                  refine va_get (D := G.1) (ci := 12) (v := .ref b_tp) (C := RX12) (T := TX12) (N := 52) hx hb hts inG_X12 hown hK hP 0 rfl rfl 7 (by decide) (hts _ fl_X12_23) (fun _ h9 => h9) rfl dX12_next_169 ?_
                  refine lv_aload_n hx hb dX12_next_172 rfl (lv_at hl 0 rfl) ?_
                  refine va_get (D := G.1) (ci := 12) (v := .int k149_to) (C := RX12) (T := TX12) (N := 52) hx hb hts inG_X12 hown hK hP 0 rfl rfl 10 (by decide) (hts _ fl_X12_202) (fun _ h9 => h9) rfl dX12_next_173 ?_
                  refine va_iald hx hb hK hP 1 0 rfl rfl (i := k149_to) (vp_in_iff.mpr ⟨by omega, by omega⟩) dX12_next_176 ?_
                  obtain ⟨hPc, hDc, hFc⟩ := g5_sub3 (wc := []) hP hD hS hA [] (by decide) rfl
                  refine va_calli (va_runS (As := [.int (v_tp k149_to.toNatClampNeg)]) (rest := []) ⟨hx, hb, hml, hown, hts⟩ (n_isSmallX l G H.size (v_tp k149_to.toNatClampNeg)) (va_cwS 1 hts gS_X12_218 rfl rfl rfl hs_X12_isSmall ⟨Nat.le_of_ble_eq_true rfl, Nat.le_of_ble_eq_true rfl⟩) (g5_preS hPc hK hDc hN hT hS hFc) rfl rfl hl.1 rfl (lv_room (Nat.le_of_ble_eq_true rfl)) dX12_next_177 ⟨Nat.le_of_ble_eq_true rfl, Nat.le_of_ble_eq_true rfl⟩) hS (fun q _ h => hFc q h) hFc (fun r u t H1 locs ht hvm hw hB hz1 hk1 hS => ?_)
                  obtain ⟨hP1, hD1⟩ := hB
                  rw [ht] at hP1
                  rcases hw with ⟨i_32, rfl, rfl⟩ | ⟨i_33, rfl, rfl⟩
                  ·
                    have i_32 : 97 ≤ (v_tp k149_to.toNatClampNeg).toInt ∧ (v_tp k149_to.toNatClampNeg).toInt ≤ 122 := i_32
                    have hP := g5_same hP hk1
                    generalize H1 = H at hP hS ⊢
                    refine lv_if_eq (tgt := 243) hx hb dX12_next_180 (by decide) (fun c_34 => ?_) (fun c_34 => ?_)
                    ·
                      exact absurd c_34 (by decide)
                    ·
                      refine lv_aload_n hx hb dX12_next_183 rfl (lv_at hl 0 rfl) ?_
                      refine lv_aload_n hx hb dX12_next_184 rfl (lv_at hl 0 rfl) ?_
                      refine va_get (D := G.1) (ci := 12) (v := .int k149_to) (C := RX12) (T := TX12) (N := 52) hx hb hts inG_X12 hown hK hP 0 rfl rfl 10 (by decide) (hts _ fl_X12_202) (fun _ h9 => h9) rfl dX12_next_185 ?_
                      refine lv_aload_n hx hb dX12_next_188 rfl (lv_at hl 0 rfl) ?_
                      refine va_get (D := G.1) (ci := 12) (v := .int k8_fr) (C := RX12) (T := TX12) (N := 52) hx hb hts inG_X12 hown hK hP 0 rfl rfl 9 (by decide) (hts _ fl_X12_211) (fun _ h9 => h9) rfl dX12_next_189 ?_
                      refine lv_isub hx hb dX12_next_192 ?_
                      have t_35 : (k149_to - k8_fr).toInt = k149_to.toInt - k8_fr.toInt := g5_isub (a := k149_to.toInt) (b := k8_fr.toInt) (by rfl) (by rfl) (by omega) (by omega)
                      refine lv_bipush (v := 10) hx hb dX12_next_193 (by decide) ?_
                      refine lv_icmp_ge (tgt := 224) hx hb dX12_next_195 (by decide) (fun c_36 => ?_) (fun c_36 => ?_)
                      ·
                        have i_36 : (k149_to.toInt - k8_fr.toInt) ≥ 10 := by have z := g5_ge (a := (k149_to - k8_fr).toInt) (b := 10) (by rfl) (by decide) c_36; omega
                        refine lv_ldc2 (v := (-1)) hx hb hown (hts _ kl_X12_178) dX12_next_224 ?_
                        refine va_put (D := G.1) (ci := 12) (v := .long (-1)) (ty := .long) (C := RX12) (T := TX12) (N := 52) hx hb hts inG_X12 tyX12 tyX12_ok nmX12 hown hK hP hD hS 0 rfl rfl 12 (by decide) (hts _ fl_X12_214) (fun _ h9 => h9) rfl (by decide +kernel) rfl rfl (Nat.le_of_ble_eq_true rfl) dX12_next_227 (fun H locs hP hD hS => ?_)
                        refine g5_rs [(b_o, (oc12 u_th u_sa b_rf b_ro b_im b_ke u_fd b_tp u_td k8_fr k149_to 1 (-1) u_fa u_bd u_nc b_nl u_co b_op b_ar u_le b_pi b_pa u_pd u_od b_ws b_hw u_la b_se b_re u_bk u_va u_su u_ce u_ho u_wy u_bt u_ps b_pt u_tg u_sn b_ip u_ic b_ah b_be b_me u_wd b_tr b_ld u_st b_wn u_id)), (b_tp, (arI G 400 v_tp))] hP hD (fun hP hD => ?_)
                        refine lv_aload_n hx hb dX12_next_230 rfl (lv_at hl 0 rfl) ?_
                        refine lv_dup hx hb dX12_next_231 rfl ?_
                        refine va_get (D := G.1) (ci := 12) (v := .int k149_to) (C := RX12) (T := TX12) (N := 52) hx hb hts inG_X12 hown hK hP 0 rfl rfl 10 (by decide) (hts _ fl_X12_202) (fun _ h9 => h9) rfl dX12_next_232 ?_
                        refine lv_iconst (v := 1) hx hb dX12_next_235 (by decide) ?_
                        refine lv_iadd hx hb dX12_next_236 ?_
                        have t_37 : (k149_to + 1).toInt = k149_to.toInt + 1 := g5_iadd (a := k149_to.toInt) (b := 1) (by rfl) (by decide) (by omega) (by omega)
                        refine va_put (D := G.1) (ci := 12) (v := .int (k149_to + 1)) (ty := .int) (C := RX12) (T := TX12) (N := 52) hx hb hts inG_X12 tyX12 tyX12_ok nmX12 hown hK hP hD hS 0 rfl rfl 10 (by decide) (hts _ fl_X12_202) (fun _ h9 => h9) rfl (by decide +kernel) rfl rfl (Nat.le_of_ble_eq_true rfl) dX12_next_237 (fun H locs hP hD hS => ?_)
                        refine g5_rs [(b_o, (oc12 u_th u_sa b_rf b_ro b_im b_ke u_fd b_tp u_td k8_fr (k149_to + 1) 1 (-1) u_fa u_bd u_nc b_nl u_co b_op b_ar u_le b_pi b_pa u_pd u_od b_ws b_hw u_la b_se b_re u_bk u_va u_su u_ce u_ho u_wy u_bt u_ps b_pt u_tg u_sn b_ip u_ic b_ah b_be b_me u_wd b_tr b_ld u_st b_wn u_id)), (b_tp, (arI G 400 v_tp))] hP hD (fun hP hD => ?_)
                        refine lv_goto (tgt := 149) hx hb dX12_next_240 (by decide) ?_
                        exact ih_149_24 ((k149_to + 1), (-1)) ls H locs (show Int.toNat (400 - (k149_to + 1).toInt) < Int.toNat (400 - k149_to.toInt) from g_up (show k149_to.toInt < (k149_to + 1).toInt by omega) (show k149_to.toInt < 400 by omega)) ⟨lv_sub hl [0] rfl, hP, hD, hS, ⟨by omega, by omega⟩, by omega, Or.inl (by omega)⟩
                      ·
                        have i_36 : (k149_to.toInt - k8_fr.toInt) < 10 := by have z := g5_geN (a := (k149_to - k8_fr).toInt) (b := 10) (by rfl) (by decide) c_36; omega
                        refine lv_aload_n hx hb dX12_next_198 rfl (lv_at hl 0 rfl) ?_
                        refine va_get (D := G.1) (ci := 12) (v := .long k149_wo) (C := RX12) (T := TX12) (N := 52) hx hb hts inG_X12 hown hK hP 0 rfl rfl 12 (by decide) (hts _ fl_X12_214) (fun _ h9 => h9) rfl dX12_next_199 ?_
                        refine lv_ldc2 (v := 32) hx hb hown (hts _ kl_X12_227) dX12_next_202 ?_
                        refine lv_lmul hx hb dX12_next_205 ?_
                        refine lv_aload_n hx hb dX12_next_206 rfl (lv_at hl 0 rfl) ?_
                        refine va_get (D := G.1) (ci := 12) (v := .ref b_tp) (C := RX12) (T := TX12) (N := 52) hx hb hts inG_X12 hown hK hP 0 rfl rfl 7 (by decide) (hts _ fl_X12_23) (fun _ h9 => h9) rfl dX12_next_207 ?_
                        refine lv_aload_n hx hb dX12_next_210 rfl (lv_at hl 0 rfl) ?_
                        refine va_get (D := G.1) (ci := 12) (v := .int k149_to) (C := RX12) (T := TX12) (N := 52) hx hb hts inG_X12 hown hK hP 0 rfl rfl 10 (by decide) (hts _ fl_X12_202) (fun _ h9 => h9) rfl dX12_next_211 ?_
                        refine va_iald hx hb hK hP 1 0 rfl rfl (i := k149_to) (vp_in_iff.mpr ⟨by omega, by omega⟩) dX12_next_214 ?_
                        refine lv_i2l (v := (v_tp k149_to.toNatClampNeg).toInt64) hx hb dX12_next_215 rfl ?_
                        refine lv_ladd hx hb dX12_next_216 ?_
                        refine lv_ldc2 (v := 96) hx hb hown (hts _ kl_X12_229) dX12_next_217 ?_
                        refine lv_lsub hx hb dX12_next_220 ?_
                        refine lv_goto (tgt := 227) hx hb dX12_next_221 (by decide) ?_
                        refine va_put (D := G.1) (ci := 12) (v := .long (((k149_wo * 32) + ((v_tp k149_to.toNatClampNeg).toInt64)) - 96)) (ty := .long) (C := RX12) (T := TX12) (N := 52) hx hb hts inG_X12 tyX12 tyX12_ok nmX12 hown hK hP hD hS 0 rfl rfl 12 (by decide) (hts _ fl_X12_214) (fun _ h9 => h9) rfl (by decide +kernel) rfl rfl (Nat.le_of_ble_eq_true rfl) dX12_next_227 (fun H locs hP hD hS => ?_)
                        refine g5_rs [(b_o, (oc12 u_th u_sa b_rf b_ro b_im b_ke u_fd b_tp u_td k8_fr k149_to 1 (((k149_wo * 32) + ((v_tp k149_to.toNatClampNeg).toInt64)) - 96) u_fa u_bd u_nc b_nl u_co b_op b_ar u_le b_pi b_pa u_pd u_od b_ws b_hw u_la b_se b_re u_bk u_va u_su u_ce u_ho u_wy u_bt u_ps b_pt u_tg u_sn b_ip u_ic b_ah b_be b_me u_wd b_tr b_ld u_st b_wn u_id)), (b_tp, (arI G 400 v_tp))] hP hD (fun hP hD => ?_)
                        refine lv_aload_n hx hb dX12_next_230 rfl (lv_at hl 0 rfl) ?_
                        refine lv_dup hx hb dX12_next_231 rfl ?_
                        refine va_get (D := G.1) (ci := 12) (v := .int k149_to) (C := RX12) (T := TX12) (N := 52) hx hb hts inG_X12 hown hK hP 0 rfl rfl 10 (by decide) (hts _ fl_X12_202) (fun _ h9 => h9) rfl dX12_next_232 ?_
                        refine lv_iconst (v := 1) hx hb dX12_next_235 (by decide) ?_
                        refine lv_iadd hx hb dX12_next_236 ?_
                        have t_38 : (k149_to + 1).toInt = k149_to.toInt + 1 := g5_iadd (a := k149_to.toInt) (b := 1) (by rfl) (by decide) (by omega) (by omega)
                        refine va_put (D := G.1) (ci := 12) (v := .int (k149_to + 1)) (ty := .int) (C := RX12) (T := TX12) (N := 52) hx hb hts inG_X12 tyX12 tyX12_ok nmX12 hown hK hP hD hS 0 rfl rfl 10 (by decide) (hts _ fl_X12_202) (fun _ h9 => h9) rfl (by decide +kernel) rfl rfl (Nat.le_of_ble_eq_true rfl) dX12_next_237 (fun H locs hP hD hS => ?_)
                        refine g5_rs [(b_o, (oc12 u_th u_sa b_rf b_ro b_im b_ke u_fd b_tp u_td k8_fr (k149_to + 1) 1 (((k149_wo * 32) + ((v_tp k149_to.toNatClampNeg).toInt64)) - 96) u_fa u_bd u_nc b_nl u_co b_op b_ar u_le b_pi b_pa u_pd u_od b_ws b_hw u_la b_se b_re u_bk u_va u_su u_ce u_ho u_wy u_bt u_ps b_pt u_tg u_sn b_ip u_ic b_ah b_be b_me u_wd b_tr b_ld u_st b_wn u_id)), (b_tp, (arI G 400 v_tp))] hP hD (fun hP hD => ?_)
                        refine lv_goto (tgt := 149) hx hb dX12_next_240 (by decide) ?_
                        exact ih_149_24 ((k149_to + 1), (((k149_wo * 32) + ((v_tp k149_to.toNatClampNeg).toInt64)) - 96)) ls H locs (show Int.toNat (400 - (k149_to + 1).toInt) < Int.toNat (400 - k149_to.toInt) from g_up (show k149_to.toInt < (k149_to + 1).toInt by omega) (show k149_to.toInt < 400 by omega)) ⟨lv_sub hl [0] rfl, hP, hD, hS, ⟨by omega, by omega⟩, by omega, Or.inl (by omega)⟩
                  ·
                    have i_33 : (v_tp k149_to.toNatClampNeg).toInt < 97 ∨ 122 < (v_tp k149_to.toNatClampNeg).toInt := i_33
                    have hP := g5_same hP hk1
                    generalize H1 = H at hP hS ⊢
                    refine lv_if_eq (tgt := 243) hx hb dX12_next_180 (by decide) (fun c_39 => ?_) (fun c_39 => ?_)
                    ·
                      refine g5_loop (α := (Int32) × (Int64)) (fun (q : (Int32) × (Int64)) (ls : Array Slot) (H : Heap) (locs : List Loc) => match q with | (k243_to, k243_wo) => lv_has ls 1 [(0, .ref b_o)] ∧ va_P G.1 vwCl [(b_o, (oc12 u_th u_sa b_rf b_ro b_im b_ke u_fd b_tp u_td k8_fr k243_to 1 k243_wo u_fa u_bd u_nc b_nl u_co b_op b_ar u_le b_pi b_pa u_pd u_od b_ws b_hw u_la b_se b_re u_bk u_va u_su u_ce u_ho u_wy u_bt u_ps b_pt u_tg u_sn b_ip u_ic b_ah b_be b_me u_wd b_tr b_ld u_st b_wn u_id)), (b_tp, (arI G 400 v_tp))] H ∧ va_D A [(b_o, (oc12 u_th u_sa b_rf b_ro b_im b_ke u_fd b_tp u_td k8_fr k243_to 1 k243_wo u_fa u_bd u_nc b_nl u_co b_op b_ar u_le b_pi b_pa u_pd u_od b_ws b_hw u_la b_se b_re u_bk u_va u_su u_ce u_ho u_wy u_bt u_ps b_pt u_tg u_sn b_ip u_ic b_ah b_be b_me u_wd b_tr b_ld u_st b_wn u_id)), (b_tp, (arI G 400 v_tp))] ∧ va_S A s.heap H locs ∧ (0 ≤ k243_to.toInt ∧ k243_to.toInt ≤ 400) ∧ (k8_fr.toInt ≤ k243_to.toInt ∧ k243_to.toInt ≤ u_td.toInt) ∧ (k8_fr.toInt < k243_to.toInt)) (fun (q : (Int32) × (Int64)) => match q with | (k243_to, k243_wo) => Int.toNat (400 - k243_to.toInt)) (k149_to, k149_wo) ⟨lv_sub hl [0] rfl, hP, hD, hS, i_21, by omega, tk_exit i_23 i_33⟩ ?_
                      rintro ⟨k243_to, k243_wo⟩ ls H locs ⟨hl, hP, hD, hS, i_40, i_41, i_42⟩ ih_243_43
                      have hl : lv_has ls 1 [(0, .ref b_o)] := hl
                      have i_40 : 0 ≤ k243_to.toInt ∧ k243_to.toInt ≤ 400 := i_40
                      have i_41 : k8_fr.toInt ≤ k243_to.toInt ∧ k243_to.toInt ≤ u_td.toInt := i_41
                      have i_42 : k8_fr.toInt < k243_to.toInt := i_42
                      refine g5_rs [(b_o, (oc12 u_th u_sa b_rf b_ro b_im b_ke u_fd b_tp u_td k8_fr k243_to 1 k243_wo u_fa u_bd u_nc b_nl u_co b_op b_ar u_le b_pi b_pa u_pd u_od b_ws b_hw u_la b_se b_re u_bk u_va u_su u_ce u_ho u_wy u_bt u_ps b_pt u_tg u_sn b_ip u_ic b_ah b_be b_me u_wd b_tr b_ld u_st b_wn u_id)), (b_tp, (arI G 400 v_tp))] hP hD (fun hP hD => ?_)
                      refine lv_aload_n hx hb dX12_next_243 rfl (lv_at hl 0 rfl) ?_
                      refine va_get (D := G.1) (ci := 12) (v := .int 1) (C := RX12) (T := TX12) (N := 52) hx hb hts inG_X12 hown hK hP 0 rfl rfl 11 (by decide) (hts _ fl_X12_224) (fun _ h9 => h9) rfl dX12_next_244 ?_
                      refine lv_iconst (v := 2) hx hb dX12_next_247 (by decide) ?_
                      refine lv_icmp_ne (tgt := 335) hx hb dX12_next_248 (by decide) (fun c_44 => ?_) (fun c_44 => ?_)
                      ·
                        exact W.vret hx hb hr (fun t ht hW => ⟨⟨[(b_o, (oc12 u_th u_sa b_rf b_ro b_im b_ke u_fd b_tp u_td k8_fr k243_to 1 k243_wo u_fa u_bd u_nc b_nl u_co b_op b_ar u_le b_pi b_pa u_pd u_od b_ws b_hw u_la b_se b_re u_bk u_va u_su u_ce u_ho u_wy u_bt u_ps b_pt u_tg u_sn b_ip u_ic b_ah b_be b_me u_wd b_tr b_ld u_st b_wn u_id)), (b_tp, (arI G 400 v_tp))], rfl, ⟨k8_fr, k243_to, 1, k243_wo, i_1, i_40, by omega, Or.inr (by omega), rfl⟩, by rw [ht]; exact hP.sub [0, 1] rfl, hD.sub [0, 1] (by decide) rfl⟩, hS.F ht⟩) hS.2.2 dX12_next_335
                      ·
                        exact absurd c_44 (by decide)
                    ·
                      exact absurd c_39 (by decide)
            ·
              exact absurd c_20 (by decide)
        ·
          have i_18 : (v_tp k8_fr.toNatClampNeg).toInt < 97 ∨ 122 < (v_tp k8_fr.toNatClampNeg).toInt := i_18
          have hP := g5_same hP hk1
          generalize H1 = H at hP hS ⊢
          refine lv_if_eq (tgt := 94) hx hb dX12_next_87 (by decide) (fun c_45 => ?_) (fun c_45 => ?_)
          ·
            refine lv_aload_n hx hb dX12_next_94 rfl (lv_at hl 0 rfl) ?_
            refine va_get (D := G.1) (ci := 12) (v := .ref b_tp) (C := RX12) (T := TX12) (N := 52) hx hb hts inG_X12 hown hK hP 0 rfl rfl 7 (by decide) (hts _ fl_X12_23) (fun _ h9 => h9) rfl dX12_next_95 ?_
            refine lv_aload_n hx hb dX12_next_98 rfl (lv_at hl 0 rfl) ?_
            refine va_get (D := G.1) (ci := 12) (v := .int k8_fr) (C := RX12) (T := TX12) (N := 52) hx hb hts inG_X12 hown hK hP 0 rfl rfl 9 (by decide) (hts _ fl_X12_211) (fun _ h9 => h9) rfl dX12_next_99 ?_
            refine va_iald hx hb hK hP 1 0 rfl rfl (i := k8_fr) (vp_in_iff.mpr ⟨by omega, by omega⟩) dX12_next_102 ?_
            obtain ⟨hPc, hDc, hFc⟩ := g5_sub3 (wc := []) hP hD hS hA [] (by decide) rfl
            refine va_calli (va_runS (As := [.int (v_tp k8_fr.toNatClampNeg)]) (rest := [.ref b_o]) ⟨hx, hb, hml, hown, hts⟩ (n_isDigitX l G H.size (v_tp k8_fr.toNatClampNeg)) (va_cwS 1 hts gS_X12_221 rfl rfl rfl hs_X12_isDigit ⟨Nat.le_of_ble_eq_true rfl, Nat.le_of_ble_eq_true rfl⟩) (g5_preS hPc hK hDc hN hT hS hFc) rfl rfl hl.1 rfl (lv_room (Nat.le_of_ble_eq_true rfl)) dX12_next_103 ⟨Nat.le_of_ble_eq_true rfl, Nat.le_of_ble_eq_true rfl⟩) hS (fun q _ h => hFc q h) hFc (fun r u t H1 locs ht hvm hw hB hz1 hk1 hS => ?_)
            obtain ⟨hP1, hD1⟩ := hB
            rw [ht] at hP1
            rcases hw with ⟨i_46, rfl, rfl⟩ | ⟨i_47, rfl, rfl⟩
            ·
              have i_46 : 48 ≤ (v_tp k8_fr.toNatClampNeg).toInt ∧ (v_tp k8_fr.toNatClampNeg).toInt ≤ 57 := i_46
              have hP := g5_same hP hk1
              generalize H1 = H at hP hS ⊢
              refine lv_if_eq (tgt := 113) hx hb dX12_next_106 (by decide) (fun c_48 => ?_) (fun c_48 => ?_)
              ·
                exact absurd c_48 (by decide)
              ·
                refine lv_iconst (v := 2) hx hb dX12_next_109 (by decide) ?_
                refine lv_goto (tgt := 114) hx hb dX12_next_110 (by decide) ?_
                refine va_put (D := G.1) (ci := 12) (v := .int 2) (ty := .int) (C := RX12) (T := TX12) (N := 52) hx hb hts inG_X12 tyX12 tyX12_ok nmX12 hown hK hP hD hS 0 rfl rfl 11 (by decide) (hts _ fl_X12_224) (fun _ h9 => h9) rfl (by decide +kernel) rfl rfl (Nat.le_of_ble_eq_true rfl) dX12_next_114 (fun H locs hP hD hS => ?_)
                refine g5_rs [(b_o, (oc12 u_th u_sa b_rf b_ro b_im b_ke u_fd b_tp u_td k8_fr k8_fr 2 0 u_fa u_bd u_nc b_nl u_co b_op b_ar u_le b_pi b_pa u_pd u_od b_ws b_hw u_la b_se b_re u_bk u_va u_su u_ce u_ho u_wy u_bt u_ps b_pt u_tg u_sn b_ip u_ic b_ah b_be b_me u_wd b_tr b_ld u_st b_wn u_id)), (b_tp, (arI G 400 v_tp))] hP hD (fun hP hD => ?_)
                refine lv_aload_n hx hb dX12_next_117 rfl (lv_at hl 0 rfl) ?_
                refine va_get (D := G.1) (ci := 12) (v := .int 2) (C := RX12) (T := TX12) (N := 52) hx hb hts inG_X12 hown hK hP 0 rfl rfl 11 (by decide) (hts _ fl_X12_224) (fun _ h9 => h9) rfl dX12_next_118 ?_
                refine lv_iconst (v := 3) hx hb dX12_next_121 (by decide) ?_
                refine lv_icmp_ne (tgt := 149) hx hb dX12_next_122 (by decide) (fun c_49 => ?_) (fun c_49 => ?_)
                ·
                  refine g5_loop (α := (Int32) × (Int64)) (fun (q : (Int32) × (Int64)) (ls : Array Slot) (H : Heap) (locs : List Loc) => match q with | (k149_to, k149_wo) => lv_has ls 1 [(0, .ref b_o)] ∧ va_P G.1 vwCl [(b_o, (oc12 u_th u_sa b_rf b_ro b_im b_ke u_fd b_tp u_td k8_fr k149_to 2 k149_wo u_fa u_bd u_nc b_nl u_co b_op b_ar u_le b_pi b_pa u_pd u_od b_ws b_hw u_la b_se b_re u_bk u_va u_su u_ce u_ho u_wy u_bt u_ps b_pt u_tg u_sn b_ip u_ic b_ah b_be b_me u_wd b_tr b_ld u_st b_wn u_id)), (b_tp, (arI G 400 v_tp))] H ∧ va_D A [(b_o, (oc12 u_th u_sa b_rf b_ro b_im b_ke u_fd b_tp u_td k8_fr k149_to 2 k149_wo u_fa u_bd u_nc b_nl u_co b_op b_ar u_le b_pi b_pa u_pd u_od b_ws b_hw u_la b_se b_re u_bk u_va u_su u_ce u_ho u_wy u_bt u_ps b_pt u_tg u_sn b_ip u_ic b_ah b_be b_me u_wd b_tr b_ld u_st b_wn u_id)), (b_tp, (arI G 400 v_tp))] ∧ va_S A s.heap H locs ∧ (0 ≤ k149_to.toInt ∧ k149_to.toInt ≤ 400) ∧ (k8_fr.toInt ≤ k149_to.toInt ∧ k149_to.toInt ≤ u_td.toInt) ∧ (k149_to.toInt = k8_fr.toInt)) (fun (q : (Int32) × (Int64)) => match q with | (k149_to, k149_wo) => Int.toNat (400 - k149_to.toInt)) (k8_fr, 0) ⟨lv_sub hl [0] rfl, hP, hD, hS, i_1, by omega, by omega⟩ ?_
                  rintro ⟨k149_to, k149_wo⟩ ls H locs ⟨hl, hP, hD, hS, i_50, i_51, i_52⟩ ih_149_53
                  have hl : lv_has ls 1 [(0, .ref b_o)] := hl
                  have i_50 : 0 ≤ k149_to.toInt ∧ k149_to.toInt ≤ 400 := i_50
                  have i_51 : k8_fr.toInt ≤ k149_to.toInt ∧ k149_to.toInt ≤ u_td.toInt := i_51
                  have i_52 : k149_to.toInt = k8_fr.toInt := i_52
                  refine g5_rs [(b_o, (oc12 u_th u_sa b_rf b_ro b_im b_ke u_fd b_tp u_td k8_fr k149_to 2 k149_wo u_fa u_bd u_nc b_nl u_co b_op b_ar u_le b_pi b_pa u_pd u_od b_ws b_hw u_la b_se b_re u_bk u_va u_su u_ce u_ho u_wy u_bt u_ps b_pt u_tg u_sn b_ip u_ic b_ah b_be b_me u_wd b_tr b_ld u_st b_wn u_id)), (b_tp, (arI G 400 v_tp))] hP hD (fun hP hD => ?_)
                  refine lv_aload_n hx hb dX12_next_149 rfl (lv_at hl 0 rfl) ?_
                  refine va_get (D := G.1) (ci := 12) (v := .int 2) (C := RX12) (T := TX12) (N := 52) hx hb hts inG_X12 hown hK hP 0 rfl rfl 11 (by decide) (hts _ fl_X12_224) (fun _ h9 => h9) rfl dX12_next_150 ?_
                  refine lv_iconst (v := 1) hx hb dX12_next_153 (by decide) ?_
                  refine lv_icmp_ne (tgt := 243) hx hb dX12_next_154 (by decide) (fun c_54 => ?_) (fun c_54 => ?_)
                  ·
                    refine g5_loop (α := (Int32) × (Int64)) (fun (q : (Int32) × (Int64)) (ls : Array Slot) (H : Heap) (locs : List Loc) => match q with | (k243_to, k243_wo) => lv_has ls 1 [(0, .ref b_o)] ∧ va_P G.1 vwCl [(b_o, (oc12 u_th u_sa b_rf b_ro b_im b_ke u_fd b_tp u_td k8_fr k243_to 2 k243_wo u_fa u_bd u_nc b_nl u_co b_op b_ar u_le b_pi b_pa u_pd u_od b_ws b_hw u_la b_se b_re u_bk u_va u_su u_ce u_ho u_wy u_bt u_ps b_pt u_tg u_sn b_ip u_ic b_ah b_be b_me u_wd b_tr b_ld u_st b_wn u_id)), (b_tp, (arI G 400 v_tp))] H ∧ va_D A [(b_o, (oc12 u_th u_sa b_rf b_ro b_im b_ke u_fd b_tp u_td k8_fr k243_to 2 k243_wo u_fa u_bd u_nc b_nl u_co b_op b_ar u_le b_pi b_pa u_pd u_od b_ws b_hw u_la b_se b_re u_bk u_va u_su u_ce u_ho u_wy u_bt u_ps b_pt u_tg u_sn b_ip u_ic b_ah b_be b_me u_wd b_tr b_ld u_st b_wn u_id)), (b_tp, (arI G 400 v_tp))] ∧ va_S A s.heap H locs ∧ (0 ≤ k243_to.toInt ∧ k243_to.toInt ≤ 400) ∧ (k8_fr.toInt ≤ k243_to.toInt ∧ k243_to.toInt ≤ u_td.toInt) ∧ (k8_fr.toInt < k243_to.toInt ∨ (48 ≤ (v_tp k8_fr.toNatClampNeg).toInt ∧ (v_tp k8_fr.toNatClampNeg).toInt ≤ 57 ∧ k243_to.toInt = k8_fr.toInt))) (fun (q : (Int32) × (Int64)) => match q with | (k243_to, k243_wo) => Int.toNat (400 - k243_to.toInt)) (k149_to, k149_wo) ⟨lv_sub hl [0] rfl, hP, hD, hS, i_50, by omega, Or.inr ⟨by omega, by omega, by omega⟩⟩ ?_
                    rintro ⟨k243_to, k243_wo⟩ ls H locs ⟨hl, hP, hD, hS, i_55, i_56, i_57⟩ ih_243_58
                    have hl : lv_has ls 1 [(0, .ref b_o)] := hl
                    have i_55 : 0 ≤ k243_to.toInt ∧ k243_to.toInt ≤ 400 := i_55
                    have i_56 : k8_fr.toInt ≤ k243_to.toInt ∧ k243_to.toInt ≤ u_td.toInt := i_56
                    have i_57 : k8_fr.toInt < k243_to.toInt ∨ (48 ≤ (v_tp k8_fr.toNatClampNeg).toInt ∧ (v_tp k8_fr.toNatClampNeg).toInt ≤ 57 ∧ k243_to.toInt = k8_fr.toInt) := i_57
                    refine g5_rs [(b_o, (oc12 u_th u_sa b_rf b_ro b_im b_ke u_fd b_tp u_td k8_fr k243_to 2 k243_wo u_fa u_bd u_nc b_nl u_co b_op b_ar u_le b_pi b_pa u_pd u_od b_ws b_hw u_la b_se b_re u_bk u_va u_su u_ce u_ho u_wy u_bt u_ps b_pt u_tg u_sn b_ip u_ic b_ah b_be b_me u_wd b_tr b_ld u_st b_wn u_id)), (b_tp, (arI G 400 v_tp))] hP hD (fun hP hD => ?_)
                    refine lv_aload_n hx hb dX12_next_243 rfl (lv_at hl 0 rfl) ?_
                    refine va_get (D := G.1) (ci := 12) (v := .int 2) (C := RX12) (T := TX12) (N := 52) hx hb hts inG_X12 hown hK hP 0 rfl rfl 11 (by decide) (hts _ fl_X12_224) (fun _ h9 => h9) rfl dX12_next_244 ?_
                    refine lv_iconst (v := 2) hx hb dX12_next_247 (by decide) ?_
                    refine lv_icmp_ne (tgt := 335) hx hb dX12_next_248 (by decide) (fun c_59 => ?_) (fun c_59 => ?_)
                    ·
                      exact absurd c_59 (by decide)
                    ·
                      refine lv_aload_n hx hb dX12_next_251 rfl (lv_at hl 0 rfl) ?_
                      refine va_get (D := G.1) (ci := 12) (v := .int k243_to) (C := RX12) (T := TX12) (N := 52) hx hb hts inG_X12 hown hK hP 0 rfl rfl 10 (by decide) (hts _ fl_X12_202) (fun _ h9 => h9) rfl dX12_next_252 ?_
                      refine lv_aload_n hx hb dX12_next_255 rfl (lv_at hl 0 rfl) ?_
                      refine va_get (D := G.1) (ci := 12) (v := .int u_td) (C := RX12) (T := TX12) (N := 52) hx hb hts inG_X12 hown hK hP 0 rfl rfl 8 (by decide) (hts _ fl_X12_192) (fun _ h9 => h9) rfl dX12_next_256 ?_
                      refine lv_icmp_ge (tgt := 335) hx hb dX12_next_259 (by decide) (fun c_60 => ?_) (fun c_60 => ?_)
                      ·
                        have i_60 : k243_to.toInt ≥ u_td.toInt := by have z := g5_ge (a := k243_to.toInt) (b := u_td.toInt) (by rfl) (by rfl) c_60; omega
                        exact W.vret hx hb hr (fun t ht hW => ⟨⟨[(b_o, (oc12 u_th u_sa b_rf b_ro b_im b_ke u_fd b_tp u_td k8_fr k243_to 2 k243_wo u_fa u_bd u_nc b_nl u_co b_op b_ar u_le b_pi b_pa u_pd u_od b_ws b_hw u_la b_se b_re u_bk u_va u_su u_ce u_ho u_wy u_bt u_ps b_pt u_tg u_sn b_ip u_ic b_ah b_be b_me u_wd b_tr b_ld u_st b_wn u_id)), (b_tp, (arI G 400 v_tp))], rfl, ⟨k8_fr, k243_to, 2, k243_wo, i_1, i_55, by omega, Or.inr (by omega), rfl⟩, by rw [ht]; exact hP.sub [0, 1] rfl, hD.sub [0, 1] (by decide) rfl⟩, hS.F ht⟩) hS.2.2 dX12_next_335
                      ·
                        have i_60 : k243_to.toInt < u_td.toInt := by have z := g5_geN (a := k243_to.toInt) (b := u_td.toInt) (by rfl) (by rfl) c_60; omega
                        refine lv_aload_n hx hb dX12_next_262 rfl (lv_at hl 0 rfl) ?_
                        refine va_get (D := G.1) (ci := 12) (v := .ref b_tp) (C := RX12) (T := TX12) (N := 52) hx hb hts inG_X12 hown hK hP 0 rfl rfl 7 (by decide) (hts _ fl_X12_23) (fun _ h9 => h9) rfl dX12_next_263 ?_
                        refine lv_aload_n hx hb dX12_next_266 rfl (lv_at hl 0 rfl) ?_
                        refine va_get (D := G.1) (ci := 12) (v := .int k243_to) (C := RX12) (T := TX12) (N := 52) hx hb hts inG_X12 hown hK hP 0 rfl rfl 10 (by decide) (hts _ fl_X12_202) (fun _ h9 => h9) rfl dX12_next_267 ?_
                        refine va_iald hx hb hK hP 1 0 rfl rfl (i := k243_to) (vp_in_iff.mpr ⟨by omega, by omega⟩) dX12_next_270 ?_
                        obtain ⟨hPc, hDc, hFc⟩ := g5_sub3 (wc := []) hP hD hS hA [] (by decide) rfl
                        refine va_calli (va_runS (As := [.int (v_tp k243_to.toNatClampNeg)]) (rest := []) ⟨hx, hb, hml, hown, hts⟩ (n_isDigitX l G H.size (v_tp k243_to.toNatClampNeg)) (va_cwS 1 hts gS_X12_221 rfl rfl rfl hs_X12_isDigit ⟨Nat.le_of_ble_eq_true rfl, Nat.le_of_ble_eq_true rfl⟩) (g5_preS hPc hK hDc hN hT hS hFc) rfl rfl hl.1 rfl (lv_room (Nat.le_of_ble_eq_true rfl)) dX12_next_271 ⟨Nat.le_of_ble_eq_true rfl, Nat.le_of_ble_eq_true rfl⟩) hS (fun q _ h => hFc q h) hFc (fun r u t H1 locs ht hvm hw hB hz1 hk1 hS => ?_)
                        obtain ⟨hP1, hD1⟩ := hB
                        rw [ht] at hP1
                        rcases hw with ⟨i_61, rfl, rfl⟩ | ⟨i_62, rfl, rfl⟩
                        ·
                          have i_61 : 48 ≤ (v_tp k243_to.toNatClampNeg).toInt ∧ (v_tp k243_to.toNatClampNeg).toInt ≤ 57 := i_61
                          have hP := g5_same hP hk1
                          generalize H1 = H at hP hS ⊢
                          refine lv_if_eq (tgt := 335) hx hb dX12_next_274 (by decide) (fun c_63 => ?_) (fun c_63 => ?_)
                          ·
                            exact absurd c_63 (by decide)
                          ·
                            refine lv_aload_n hx hb dX12_next_277 rfl (lv_at hl 0 rfl) ?_
                            refine lv_aload_n hx hb dX12_next_278 rfl (lv_at hl 0 rfl) ?_
                            refine va_get (D := G.1) (ci := 12) (v := .long k243_wo) (C := RX12) (T := TX12) (N := 52) hx hb hts inG_X12 hown hK hP 0 rfl rfl 12 (by decide) (hts _ fl_X12_214) (fun _ h9 => h9) rfl dX12_next_279 ?_
                            refine lv_ldc2 (v := 1000000) hx hb hown (hts _ kl_X12_190) dX12_next_282 ?_
                            refine W.lcmp hx hb dX12_next_285 ?_
                            refine lv_if_le (tgt := 296) hx hb dX12_next_286 (by decide) (fun c_64 => ?_) (fun c_64 => ?_)
                            ·
                              have i_64 : (lg_cmp k243_wo 1000000).toInt ≤ 0 := by have z := g5_le (a := (lg_cmp k243_wo 1000000).toInt) (b := 0) (by rfl) (by decide) c_64; omega
                              refine lv_aload_n hx hb dX12_next_296 rfl (lv_at hl 0 rfl) ?_
                              refine va_get (D := G.1) (ci := 12) (v := .long k243_wo) (C := RX12) (T := TX12) (N := 52) hx hb hts inG_X12 hown hK hP 0 rfl rfl 12 (by decide) (hts _ fl_X12_214) (fun _ h9 => h9) rfl dX12_next_297 ?_
                              refine lv_ldc2 (v := 10) hx hb hown (hts _ kl_X12_156) dX12_next_300 ?_
                              refine lv_lmul hx hb dX12_next_303 ?_
                              refine lv_aload_n hx hb dX12_next_304 rfl (lv_at hl 0 rfl) ?_
                              refine va_get (D := G.1) (ci := 12) (v := .ref b_tp) (C := RX12) (T := TX12) (N := 52) hx hb hts inG_X12 hown hK hP 0 rfl rfl 7 (by decide) (hts _ fl_X12_23) (fun _ h9 => h9) rfl dX12_next_305 ?_
                              refine lv_aload_n hx hb dX12_next_308 rfl (lv_at hl 0 rfl) ?_
                              refine va_get (D := G.1) (ci := 12) (v := .int k243_to) (C := RX12) (T := TX12) (N := 52) hx hb hts inG_X12 hown hK hP 0 rfl rfl 10 (by decide) (hts _ fl_X12_202) (fun _ h9 => h9) rfl dX12_next_309 ?_
                              refine va_iald hx hb hK hP 1 0 rfl rfl (i := k243_to) (vp_in_iff.mpr ⟨by omega, by omega⟩) dX12_next_312 ?_
                              refine lv_i2l (v := (v_tp k243_to.toNatClampNeg).toInt64) hx hb dX12_next_313 rfl ?_
                              refine lv_ladd hx hb dX12_next_314 ?_
                              refine lv_ldc2 (v := 48) hx hb hown (hts _ kl_X12_231) dX12_next_315 ?_
                              refine lv_lsub hx hb dX12_next_318 ?_
                              refine va_put (D := G.1) (ci := 12) (v := .long (((k243_wo * 10) + ((v_tp k243_to.toNatClampNeg).toInt64)) - 48)) (ty := .long) (C := RX12) (T := TX12) (N := 52) hx hb hts inG_X12 tyX12 tyX12_ok nmX12 hown hK hP hD hS 0 rfl rfl 12 (by decide) (hts _ fl_X12_214) (fun _ h9 => h9) rfl (by decide +kernel) rfl rfl (Nat.le_of_ble_eq_true rfl) dX12_next_319 (fun H locs hP hD hS => ?_)
                              refine g5_rs [(b_o, (oc12 u_th u_sa b_rf b_ro b_im b_ke u_fd b_tp u_td k8_fr k243_to 2 (((k243_wo * 10) + ((v_tp k243_to.toNatClampNeg).toInt64)) - 48) u_fa u_bd u_nc b_nl u_co b_op b_ar u_le b_pi b_pa u_pd u_od b_ws b_hw u_la b_se b_re u_bk u_va u_su u_ce u_ho u_wy u_bt u_ps b_pt u_tg u_sn b_ip u_ic b_ah b_be b_me u_wd b_tr b_ld u_st b_wn u_id)), (b_tp, (arI G 400 v_tp))] hP hD (fun hP hD => ?_)
                              refine lv_aload_n hx hb dX12_next_322 rfl (lv_at hl 0 rfl) ?_
                              refine lv_dup hx hb dX12_next_323 rfl ?_
                              refine va_get (D := G.1) (ci := 12) (v := .int k243_to) (C := RX12) (T := TX12) (N := 52) hx hb hts inG_X12 hown hK hP 0 rfl rfl 10 (by decide) (hts _ fl_X12_202) (fun _ h9 => h9) rfl dX12_next_324 ?_
                              refine lv_iconst (v := 1) hx hb dX12_next_327 (by decide) ?_
                              refine lv_iadd hx hb dX12_next_328 ?_
                              have t_65 : (k243_to + 1).toInt = k243_to.toInt + 1 := g5_iadd (a := k243_to.toInt) (b := 1) (by rfl) (by decide) (by omega) (by omega)
                              refine va_put (D := G.1) (ci := 12) (v := .int (k243_to + 1)) (ty := .int) (C := RX12) (T := TX12) (N := 52) hx hb hts inG_X12 tyX12 tyX12_ok nmX12 hown hK hP hD hS 0 rfl rfl 10 (by decide) (hts _ fl_X12_202) (fun _ h9 => h9) rfl (by decide +kernel) rfl rfl (Nat.le_of_ble_eq_true rfl) dX12_next_329 (fun H locs hP hD hS => ?_)
                              refine g5_rs [(b_o, (oc12 u_th u_sa b_rf b_ro b_im b_ke u_fd b_tp u_td k8_fr (k243_to + 1) 2 (((k243_wo * 10) + ((v_tp k243_to.toNatClampNeg).toInt64)) - 48) u_fa u_bd u_nc b_nl u_co b_op b_ar u_le b_pi b_pa u_pd u_od b_ws b_hw u_la b_se b_re u_bk u_va u_su u_ce u_ho u_wy u_bt u_ps b_pt u_tg u_sn b_ip u_ic b_ah b_be b_me u_wd b_tr b_ld u_st b_wn u_id)), (b_tp, (arI G 400 v_tp))] hP hD (fun hP hD => ?_)
                              refine lv_goto (tgt := 243) hx hb dX12_next_332 (by decide) ?_
                              exact ih_243_58 ((k243_to + 1), (((k243_wo * 10) + ((v_tp k243_to.toNatClampNeg).toInt64)) - 48)) ls H locs (show Int.toNat (400 - (k243_to + 1).toInt) < Int.toNat (400 - k243_to.toInt) from g_up (show k243_to.toInt < (k243_to + 1).toInt by omega) (show k243_to.toInt < 400 by omega)) ⟨lv_sub hl [0] rfl, hP, hD, hS, ⟨by omega, by omega⟩, by omega, Or.inl (by omega)⟩
                            ·
                              have i_64 : (lg_cmp k243_wo 1000000).toInt > 0 := by have z := g5_leN (a := (lg_cmp k243_wo 1000000).toInt) (b := 0) (by rfl) (by decide) c_64; omega
                              refine lv_aload_n hx hb dX12_next_289 rfl (lv_at hl 0 rfl) ?_
                              refine va_get (D := G.1) (ci := 12) (v := .long k243_wo) (C := RX12) (T := TX12) (N := 52) hx hb hts inG_X12 hown hK hP 0 rfl rfl 12 (by decide) (hts _ fl_X12_214) (fun _ h9 => h9) rfl dX12_next_290 ?_
                              refine lv_goto (tgt := 319) hx hb dX12_next_293 (by decide) ?_
                              refine va_put (D := G.1) (ci := 12) (v := .long k243_wo) (ty := .long) (C := RX12) (T := TX12) (N := 52) hx hb hts inG_X12 tyX12 tyX12_ok nmX12 hown hK hP hD hS 0 rfl rfl 12 (by decide) (hts _ fl_X12_214) (fun _ h9 => h9) rfl (by decide +kernel) rfl rfl (Nat.le_of_ble_eq_true rfl) dX12_next_319 (fun H locs hP hD hS => ?_)
                              refine g5_rs [(b_o, (oc12 u_th u_sa b_rf b_ro b_im b_ke u_fd b_tp u_td k8_fr k243_to 2 k243_wo u_fa u_bd u_nc b_nl u_co b_op b_ar u_le b_pi b_pa u_pd u_od b_ws b_hw u_la b_se b_re u_bk u_va u_su u_ce u_ho u_wy u_bt u_ps b_pt u_tg u_sn b_ip u_ic b_ah b_be b_me u_wd b_tr b_ld u_st b_wn u_id)), (b_tp, (arI G 400 v_tp))] hP hD (fun hP hD => ?_)
                              refine lv_aload_n hx hb dX12_next_322 rfl (lv_at hl 0 rfl) ?_
                              refine lv_dup hx hb dX12_next_323 rfl ?_
                              refine va_get (D := G.1) (ci := 12) (v := .int k243_to) (C := RX12) (T := TX12) (N := 52) hx hb hts inG_X12 hown hK hP 0 rfl rfl 10 (by decide) (hts _ fl_X12_202) (fun _ h9 => h9) rfl dX12_next_324 ?_
                              refine lv_iconst (v := 1) hx hb dX12_next_327 (by decide) ?_
                              refine lv_iadd hx hb dX12_next_328 ?_
                              have t_66 : (k243_to + 1).toInt = k243_to.toInt + 1 := g5_iadd (a := k243_to.toInt) (b := 1) (by rfl) (by decide) (by omega) (by omega)
                              refine va_put (D := G.1) (ci := 12) (v := .int (k243_to + 1)) (ty := .int) (C := RX12) (T := TX12) (N := 52) hx hb hts inG_X12 tyX12 tyX12_ok nmX12 hown hK hP hD hS 0 rfl rfl 10 (by decide) (hts _ fl_X12_202) (fun _ h9 => h9) rfl (by decide +kernel) rfl rfl (Nat.le_of_ble_eq_true rfl) dX12_next_329 (fun H locs hP hD hS => ?_)
                              refine g5_rs [(b_o, (oc12 u_th u_sa b_rf b_ro b_im b_ke u_fd b_tp u_td k8_fr (k243_to + 1) 2 k243_wo u_fa u_bd u_nc b_nl u_co b_op b_ar u_le b_pi b_pa u_pd u_od b_ws b_hw u_la b_se b_re u_bk u_va u_su u_ce u_ho u_wy u_bt u_ps b_pt u_tg u_sn b_ip u_ic b_ah b_be b_me u_wd b_tr b_ld u_st b_wn u_id)), (b_tp, (arI G 400 v_tp))] hP hD (fun hP hD => ?_)
                              refine lv_goto (tgt := 243) hx hb dX12_next_332 (by decide) ?_
                              exact ih_243_58 ((k243_to + 1), k243_wo) ls H locs (show Int.toNat (400 - (k243_to + 1).toInt) < Int.toNat (400 - k243_to.toInt) from g_up (show k243_to.toInt < (k243_to + 1).toInt by omega) (show k243_to.toInt < 400 by omega)) ⟨lv_sub hl [0] rfl, hP, hD, hS, ⟨by omega, by omega⟩, by omega, Or.inl (by omega)⟩
                        ·
                          have i_62 : (v_tp k243_to.toNatClampNeg).toInt < 48 ∨ 57 < (v_tp k243_to.toNatClampNeg).toInt := i_62
                          have hP := g5_same hP hk1
                          generalize H1 = H at hP hS ⊢
                          refine lv_if_eq (tgt := 335) hx hb dX12_next_274 (by decide) (fun c_67 => ?_) (fun c_67 => ?_)
                          ·
                            exact W.vret hx hb hr (fun t ht hW => ⟨⟨[(b_o, (oc12 u_th u_sa b_rf b_ro b_im b_ke u_fd b_tp u_td k8_fr k243_to 2 k243_wo u_fa u_bd u_nc b_nl u_co b_op b_ar u_le b_pi b_pa u_pd u_od b_ws b_hw u_la b_se b_re u_bk u_va u_su u_ce u_ho u_wy u_bt u_ps b_pt u_tg u_sn b_ip u_ic b_ah b_be b_me u_wd b_tr b_ld u_st b_wn u_id)), (b_tp, (arI G 400 v_tp))], rfl, ⟨k8_fr, k243_to, 2, k243_wo, i_1, i_55, by omega, Or.inr (tk_exit i_57 i_62), rfl⟩, by rw [ht]; exact hP.sub [0, 1] rfl, hD.sub [0, 1] (by decide) rfl⟩, hS.F ht⟩) hS.2.2 dX12_next_335
                          ·
                            exact absurd c_67 (by decide)
                  ·
                    exact absurd c_54 (by decide)
                ·
                  exact absurd c_49 (by decide)
            ·
              have i_47 : (v_tp k8_fr.toNatClampNeg).toInt < 48 ∨ 57 < (v_tp k8_fr.toNatClampNeg).toInt := i_47
              have hP := g5_same hP hk1
              generalize H1 = H at hP hS ⊢
              refine lv_if_eq (tgt := 113) hx hb dX12_next_106 (by decide) (fun c_68 => ?_) (fun c_68 => ?_)
              ·
                refine lv_iconst (v := 3) hx hb dX12_next_113 (by decide) ?_
                refine va_put (D := G.1) (ci := 12) (v := .int 3) (ty := .int) (C := RX12) (T := TX12) (N := 52) hx hb hts inG_X12 tyX12 tyX12_ok nmX12 hown hK hP hD hS 0 rfl rfl 11 (by decide) (hts _ fl_X12_224) (fun _ h9 => h9) rfl (by decide +kernel) rfl rfl (Nat.le_of_ble_eq_true rfl) dX12_next_114 (fun H locs hP hD hS => ?_)
                refine g5_rs [(b_o, (oc12 u_th u_sa b_rf b_ro b_im b_ke u_fd b_tp u_td k8_fr k8_fr 3 0 u_fa u_bd u_nc b_nl u_co b_op b_ar u_le b_pi b_pa u_pd u_od b_ws b_hw u_la b_se b_re u_bk u_va u_su u_ce u_ho u_wy u_bt u_ps b_pt u_tg u_sn b_ip u_ic b_ah b_be b_me u_wd b_tr b_ld u_st b_wn u_id)), (b_tp, (arI G 400 v_tp))] hP hD (fun hP hD => ?_)
                refine lv_aload_n hx hb dX12_next_117 rfl (lv_at hl 0 rfl) ?_
                refine va_get (D := G.1) (ci := 12) (v := .int 3) (C := RX12) (T := TX12) (N := 52) hx hb hts inG_X12 hown hK hP 0 rfl rfl 11 (by decide) (hts _ fl_X12_224) (fun _ h9 => h9) rfl dX12_next_118 ?_
                refine lv_iconst (v := 3) hx hb dX12_next_121 (by decide) ?_
                refine lv_icmp_ne (tgt := 149) hx hb dX12_next_122 (by decide) (fun c_69 => ?_) (fun c_69 => ?_)
                ·
                  exact absurd c_69 (by decide)
                ·
                  refine lv_aload_n hx hb dX12_next_125 rfl (lv_at hl 0 rfl) ?_
                  refine lv_aload_n hx hb dX12_next_126 rfl (lv_at hl 0 rfl) ?_
                  refine va_get (D := G.1) (ci := 12) (v := .ref b_tp) (C := RX12) (T := TX12) (N := 52) hx hb hts inG_X12 hown hK hP 0 rfl rfl 7 (by decide) (hts _ fl_X12_23) (fun _ h9 => h9) rfl dX12_next_127 ?_
                  refine lv_aload_n hx hb dX12_next_130 rfl (lv_at hl 0 rfl) ?_
                  refine va_get (D := G.1) (ci := 12) (v := .int k8_fr) (C := RX12) (T := TX12) (N := 52) hx hb hts inG_X12 hown hK hP 0 rfl rfl 9 (by decide) (hts _ fl_X12_211) (fun _ h9 => h9) rfl dX12_next_131 ?_
                  refine va_iald hx hb hK hP 1 0 rfl rfl (i := k8_fr) (vp_in_iff.mpr ⟨by omega, by omega⟩) dX12_next_134 ?_
                  refine lv_i2l (v := (v_tp k8_fr.toNatClampNeg).toInt64) hx hb dX12_next_135 rfl ?_
                  refine va_put (D := G.1) (ci := 12) (v := .long (v_tp k8_fr.toNatClampNeg).toInt64) (ty := .long) (C := RX12) (T := TX12) (N := 52) hx hb hts inG_X12 tyX12 tyX12_ok nmX12 hown hK hP hD hS 0 rfl rfl 12 (by decide) (hts _ fl_X12_214) (fun _ h9 => h9) rfl (by decide +kernel) rfl rfl (Nat.le_of_ble_eq_true rfl) dX12_next_136 (fun H locs hP hD hS => ?_)
                  refine g5_rs [(b_o, (oc12 u_th u_sa b_rf b_ro b_im b_ke u_fd b_tp u_td k8_fr k8_fr 3 ((v_tp k8_fr.toNatClampNeg).toInt64) u_fa u_bd u_nc b_nl u_co b_op b_ar u_le b_pi b_pa u_pd u_od b_ws b_hw u_la b_se b_re u_bk u_va u_su u_ce u_ho u_wy u_bt u_ps b_pt u_tg u_sn b_ip u_ic b_ah b_be b_me u_wd b_tr b_ld u_st b_wn u_id)), (b_tp, (arI G 400 v_tp))] hP hD (fun hP hD => ?_)
                  refine lv_aload_n hx hb dX12_next_139 rfl (lv_at hl 0 rfl) ?_
                  refine lv_dup hx hb dX12_next_140 rfl ?_
                  refine va_get (D := G.1) (ci := 12) (v := .int k8_fr) (C := RX12) (T := TX12) (N := 52) hx hb hts inG_X12 hown hK hP 0 rfl rfl 10 (by decide) (hts _ fl_X12_202) (fun _ h9 => h9) rfl dX12_next_141 ?_
                  refine lv_iconst (v := 1) hx hb dX12_next_144 (by decide) ?_
                  refine lv_iadd hx hb dX12_next_145 ?_
                  have t_70 : (k8_fr + 1).toInt = k8_fr.toInt + 1 := g5_iadd (a := k8_fr.toInt) (b := 1) (by rfl) (by decide) (by omega) (by omega)
                  refine va_put (D := G.1) (ci := 12) (v := .int (k8_fr + 1)) (ty := .int) (C := RX12) (T := TX12) (N := 52) hx hb hts inG_X12 tyX12 tyX12_ok nmX12 hown hK hP hD hS 0 rfl rfl 10 (by decide) (hts _ fl_X12_202) (fun _ h9 => h9) rfl (by decide +kernel) rfl rfl (Nat.le_of_ble_eq_true rfl) dX12_next_146 (fun H locs hP hD hS => ?_)
                  refine g5_rs [(b_o, (oc12 u_th u_sa b_rf b_ro b_im b_ke u_fd b_tp u_td k8_fr (k8_fr + 1) 3 ((v_tp k8_fr.toNatClampNeg).toInt64) u_fa u_bd u_nc b_nl u_co b_op b_ar u_le b_pi b_pa u_pd u_od b_ws b_hw u_la b_se b_re u_bk u_va u_su u_ce u_ho u_wy u_bt u_ps b_pt u_tg u_sn b_ip u_ic b_ah b_be b_me u_wd b_tr b_ld u_st b_wn u_id)), (b_tp, (arI G 400 v_tp))] hP hD (fun hP hD => ?_)
                  refine g5_loop (α := (Int32) × (Int64)) (fun (q : (Int32) × (Int64)) (ls : Array Slot) (H : Heap) (locs : List Loc) => match q with | (k149_to, k149_wo) => lv_has ls 1 [(0, .ref b_o)] ∧ va_P G.1 vwCl [(b_o, (oc12 u_th u_sa b_rf b_ro b_im b_ke u_fd b_tp u_td k8_fr k149_to 3 k149_wo u_fa u_bd u_nc b_nl u_co b_op b_ar u_le b_pi b_pa u_pd u_od b_ws b_hw u_la b_se b_re u_bk u_va u_su u_ce u_ho u_wy u_bt u_ps b_pt u_tg u_sn b_ip u_ic b_ah b_be b_me u_wd b_tr b_ld u_st b_wn u_id)), (b_tp, (arI G 400 v_tp))] H ∧ va_D A [(b_o, (oc12 u_th u_sa b_rf b_ro b_im b_ke u_fd b_tp u_td k8_fr k149_to 3 k149_wo u_fa u_bd u_nc b_nl u_co b_op b_ar u_le b_pi b_pa u_pd u_od b_ws b_hw u_la b_se b_re u_bk u_va u_su u_ce u_ho u_wy u_bt u_ps b_pt u_tg u_sn b_ip u_ic b_ah b_be b_me u_wd b_tr b_ld u_st b_wn u_id)), (b_tp, (arI G 400 v_tp))] ∧ va_S A s.heap H locs ∧ (0 ≤ k149_to.toInt ∧ k149_to.toInt ≤ 400) ∧ (k8_fr.toInt ≤ k149_to.toInt ∧ k149_to.toInt ≤ u_td.toInt) ∧ (k8_fr.toInt < k149_to.toInt)) (fun (q : (Int32) × (Int64)) => match q with | (k149_to, k149_wo) => Int.toNat (400 - k149_to.toInt)) ((k8_fr + 1), (v_tp k8_fr.toNatClampNeg).toInt64) ⟨lv_sub hl [0] rfl, hP, hD, hS, ⟨by omega, by omega⟩, by omega, by omega⟩ ?_
                  rintro ⟨k149_to, k149_wo⟩ ls H locs ⟨hl, hP, hD, hS, i_71, i_72, i_73⟩ ih_149_74
                  have hl : lv_has ls 1 [(0, .ref b_o)] := hl
                  have i_71 : 0 ≤ k149_to.toInt ∧ k149_to.toInt ≤ 400 := i_71
                  have i_72 : k8_fr.toInt ≤ k149_to.toInt ∧ k149_to.toInt ≤ u_td.toInt := i_72
                  have i_73 : k8_fr.toInt < k149_to.toInt := i_73
                  refine g5_rs [(b_o, (oc12 u_th u_sa b_rf b_ro b_im b_ke u_fd b_tp u_td k8_fr k149_to 3 k149_wo u_fa u_bd u_nc b_nl u_co b_op b_ar u_le b_pi b_pa u_pd u_od b_ws b_hw u_la b_se b_re u_bk u_va u_su u_ce u_ho u_wy u_bt u_ps b_pt u_tg u_sn b_ip u_ic b_ah b_be b_me u_wd b_tr b_ld u_st b_wn u_id)), (b_tp, (arI G 400 v_tp))] hP hD (fun hP hD => ?_)
                  refine lv_aload_n hx hb dX12_next_149 rfl (lv_at hl 0 rfl) ?_
                  refine va_get (D := G.1) (ci := 12) (v := .int 3) (C := RX12) (T := TX12) (N := 52) hx hb hts inG_X12 hown hK hP 0 rfl rfl 11 (by decide) (hts _ fl_X12_224) (fun _ h9 => h9) rfl dX12_next_150 ?_
                  refine lv_iconst (v := 1) hx hb dX12_next_153 (by decide) ?_
                  refine lv_icmp_ne (tgt := 243) hx hb dX12_next_154 (by decide) (fun c_75 => ?_) (fun c_75 => ?_)
                  ·
                    refine g5_loop (α := (Int32) × (Int64)) (fun (q : (Int32) × (Int64)) (ls : Array Slot) (H : Heap) (locs : List Loc) => match q with | (k243_to, k243_wo) => lv_has ls 1 [(0, .ref b_o)] ∧ va_P G.1 vwCl [(b_o, (oc12 u_th u_sa b_rf b_ro b_im b_ke u_fd b_tp u_td k8_fr k243_to 3 k243_wo u_fa u_bd u_nc b_nl u_co b_op b_ar u_le b_pi b_pa u_pd u_od b_ws b_hw u_la b_se b_re u_bk u_va u_su u_ce u_ho u_wy u_bt u_ps b_pt u_tg u_sn b_ip u_ic b_ah b_be b_me u_wd b_tr b_ld u_st b_wn u_id)), (b_tp, (arI G 400 v_tp))] H ∧ va_D A [(b_o, (oc12 u_th u_sa b_rf b_ro b_im b_ke u_fd b_tp u_td k8_fr k243_to 3 k243_wo u_fa u_bd u_nc b_nl u_co b_op b_ar u_le b_pi b_pa u_pd u_od b_ws b_hw u_la b_se b_re u_bk u_va u_su u_ce u_ho u_wy u_bt u_ps b_pt u_tg u_sn b_ip u_ic b_ah b_be b_me u_wd b_tr b_ld u_st b_wn u_id)), (b_tp, (arI G 400 v_tp))] ∧ va_S A s.heap H locs ∧ (0 ≤ k243_to.toInt ∧ k243_to.toInt ≤ 400) ∧ (k8_fr.toInt ≤ k243_to.toInt ∧ k243_to.toInt ≤ u_td.toInt) ∧ (k8_fr.toInt < k243_to.toInt)) (fun (q : (Int32) × (Int64)) => match q with | (k243_to, k243_wo) => Int.toNat (400 - k243_to.toInt)) (k149_to, k149_wo) ⟨lv_sub hl [0] rfl, hP, hD, hS, i_71, by omega, by omega⟩ ?_
                    rintro ⟨k243_to, k243_wo⟩ ls H locs ⟨hl, hP, hD, hS, i_76, i_77, i_78⟩ ih_243_79
                    have hl : lv_has ls 1 [(0, .ref b_o)] := hl
                    have i_76 : 0 ≤ k243_to.toInt ∧ k243_to.toInt ≤ 400 := i_76
                    have i_77 : k8_fr.toInt ≤ k243_to.toInt ∧ k243_to.toInt ≤ u_td.toInt := i_77
                    have i_78 : k8_fr.toInt < k243_to.toInt := i_78
                    refine g5_rs [(b_o, (oc12 u_th u_sa b_rf b_ro b_im b_ke u_fd b_tp u_td k8_fr k243_to 3 k243_wo u_fa u_bd u_nc b_nl u_co b_op b_ar u_le b_pi b_pa u_pd u_od b_ws b_hw u_la b_se b_re u_bk u_va u_su u_ce u_ho u_wy u_bt u_ps b_pt u_tg u_sn b_ip u_ic b_ah b_be b_me u_wd b_tr b_ld u_st b_wn u_id)), (b_tp, (arI G 400 v_tp))] hP hD (fun hP hD => ?_)
                    refine lv_aload_n hx hb dX12_next_243 rfl (lv_at hl 0 rfl) ?_
                    refine va_get (D := G.1) (ci := 12) (v := .int 3) (C := RX12) (T := TX12) (N := 52) hx hb hts inG_X12 hown hK hP 0 rfl rfl 11 (by decide) (hts _ fl_X12_224) (fun _ h9 => h9) rfl dX12_next_244 ?_
                    refine lv_iconst (v := 2) hx hb dX12_next_247 (by decide) ?_
                    refine lv_icmp_ne (tgt := 335) hx hb dX12_next_248 (by decide) (fun c_80 => ?_) (fun c_80 => ?_)
                    ·
                      exact W.vret hx hb hr (fun t ht hW => ⟨⟨[(b_o, (oc12 u_th u_sa b_rf b_ro b_im b_ke u_fd b_tp u_td k8_fr k243_to 3 k243_wo u_fa u_bd u_nc b_nl u_co b_op b_ar u_le b_pi b_pa u_pd u_od b_ws b_hw u_la b_se b_re u_bk u_va u_su u_ce u_ho u_wy u_bt u_ps b_pt u_tg u_sn b_ip u_ic b_ah b_be b_me u_wd b_tr b_ld u_st b_wn u_id)), (b_tp, (arI G 400 v_tp))], rfl, ⟨k8_fr, k243_to, 3, k243_wo, i_1, i_76, by omega, Or.inr (by omega), rfl⟩, by rw [ht]; exact hP.sub [0, 1] rfl, hD.sub [0, 1] (by decide) rfl⟩, hS.F ht⟩) hS.2.2 dX12_next_335
                    ·
                      exact absurd c_80 (by decide)
                  ·
                    exact absurd c_75 (by decide)
              ·
                exact absurd c_68 (by decide)
          ·
            exact absurd c_45 (by decide)
      ·
        have i_16 : k8_fr.toInt = u_td.toInt := by have z := g5_neN (a := k8_fr.toInt) (b := u_td.toInt) (by rfl) (by rfl) c_16; omega
        omega
    ·
      have i_15 : (v_tp k8_fr.toNatClampNeg).toInt = 32 := by have z := g5_neN (a := (v_tp k8_fr.toNatClampNeg).toInt) (b := 32) (by rfl) (by decide) c_15; omega
      refine lv_aload_n hx hb dX12_next_33 rfl (lv_at hl 0 rfl) ?_
      refine lv_dup hx hb dX12_next_34 rfl ?_
      refine va_get (D := G.1) (ci := 12) (v := .int k8_fr) (C := RX12) (T := TX12) (N := 52) hx hb hts inG_X12 hown hK hP 0 rfl rfl 9 (by decide) (hts _ fl_X12_211) (fun _ h9 => h9) rfl dX12_next_35 ?_
      refine lv_iconst (v := 1) hx hb dX12_next_38 (by decide) ?_
      refine lv_iadd hx hb dX12_next_39 ?_
      have t_81 : (k8_fr + 1).toInt = k8_fr.toInt + 1 := g5_iadd (a := k8_fr.toInt) (b := 1) (by rfl) (by decide) (by omega) (by omega)
      refine va_put (D := G.1) (ci := 12) (v := .int (k8_fr + 1)) (ty := .int) (C := RX12) (T := TX12) (N := 52) hx hb hts inG_X12 tyX12 tyX12_ok nmX12 hown hK hP hD hS 0 rfl rfl 9 (by decide) (hts _ fl_X12_211) (fun _ h9 => h9) rfl (by decide +kernel) rfl rfl (Nat.le_of_ble_eq_true rfl) dX12_next_40 (fun H locs hP hD hS => ?_)
      refine g5_rs [(b_o, (oc12 u_th u_sa b_rf b_ro b_im b_ke u_fd b_tp u_td (k8_fr + 1) u_to u_so u_wo u_fa u_bd u_nc b_nl u_co b_op b_ar u_le b_pi b_pa u_pd u_od b_ws b_hw u_la b_se b_re u_bk u_va u_su u_ce u_ho u_wy u_bt u_ps b_pt u_tg u_sn b_ip u_ic b_ah b_be b_me u_wd b_tr b_ld u_st b_wn u_id)), (b_tp, (arI G 400 v_tp))] hP hD (fun hP hD => ?_)
      refine lv_goto (tgt := 8) hx hb dX12_next_43 (by decide) ?_
      exact ih_8_3 (k8_fr + 1) ls H locs (show Int.toNat (400 - (k8_fr + 1).toInt) < Int.toNat (400 - k8_fr.toInt) from g_up (show k8_fr.toInt < (k8_fr + 1).toInt by omega) (show k8_fr.toInt < 400 by omega)) ⟨lv_sub hl [0] rfl, hP, hD, hS, ⟨by omega, by omega⟩, by omega⟩
theorem dgX12_isWord_0 : ∀ r ∈ ([(0, (.aload_n 0, 1)), (1, (.getfield 224, 3)), (4, (.iconst 1, 1)), (5, (.if_icmp .ne 16, 3)), (8, (.aload_n 0, 1)), (9, (.getfield 214, 3)), (12, (.lload_n 1, 1)), (13, (.lcmp, 1)), (14, (.ifCond .ne 7, 3)), (17, (.iconst 1, 1)), (18, (.goto 4, 3)), (21, (.iconst 0, 1)), (22, (.ireturn, 1))] : List (Nat × (Instr × Nat))), decode cX12_isWord r.1 = .ok r.2 := by decide +kernel
theorem dX12_isWord_0 : decode cX12_isWord 0 = .ok (.aload_n 0, 1) := dgX12_isWord_0 (0, (.aload_n 0, 1)) (List.mem_of_getElem? (i := 0) rfl)
theorem dX12_isWord_1 : decode cX12_isWord 1 = .ok (.getfield 224, 3) := dgX12_isWord_0 (1, (.getfield 224, 3)) (List.mem_of_getElem? (i := 1) rfl)
theorem dX12_isWord_4 : decode cX12_isWord 4 = .ok (.iconst 1, 1) := dgX12_isWord_0 (4, (.iconst 1, 1)) (List.mem_of_getElem? (i := 2) rfl)
theorem dX12_isWord_5 : decode cX12_isWord 5 = .ok (.if_icmp .ne 16, 3) := dgX12_isWord_0 (5, (.if_icmp .ne 16, 3)) (List.mem_of_getElem? (i := 3) rfl)
theorem dX12_isWord_8 : decode cX12_isWord 8 = .ok (.aload_n 0, 1) := dgX12_isWord_0 (8, (.aload_n 0, 1)) (List.mem_of_getElem? (i := 4) rfl)
theorem dX12_isWord_9 : decode cX12_isWord 9 = .ok (.getfield 214, 3) := dgX12_isWord_0 (9, (.getfield 214, 3)) (List.mem_of_getElem? (i := 5) rfl)
theorem dX12_isWord_12 : decode cX12_isWord 12 = .ok (.lload_n 1, 1) := dgX12_isWord_0 (12, (.lload_n 1, 1)) (List.mem_of_getElem? (i := 6) rfl)
theorem dX12_isWord_13 : decode cX12_isWord 13 = .ok (.lcmp, 1) := dgX12_isWord_0 (13, (.lcmp, 1)) (List.mem_of_getElem? (i := 7) rfl)
theorem dX12_isWord_14 : decode cX12_isWord 14 = .ok (.ifCond .ne 7, 3) := dgX12_isWord_0 (14, (.ifCond .ne 7, 3)) (List.mem_of_getElem? (i := 8) rfl)
theorem dX12_isWord_17 : decode cX12_isWord 17 = .ok (.iconst 1, 1) := dgX12_isWord_0 (17, (.iconst 1, 1)) (List.mem_of_getElem? (i := 9) rfl)
theorem dX12_isWord_18 : decode cX12_isWord 18 = .ok (.goto 4, 3) := dgX12_isWord_0 (18, (.goto 4, 3)) (List.mem_of_getElem? (i := 10) rfl)
theorem dX12_isWord_21 : decode cX12_isWord 21 = .ok (.iconst 0, 1) := dgX12_isWord_0 (21, (.iconst 0, 1)) (List.mem_of_getElem? (i := 11) rfl)
theorem dX12_isWord_22 : decode cX12_isWord 22 = .ok (.ireturn, 1) := dgX12_isWord_0 (22, (.ireturn, 1)) (List.mem_of_getElem? (i := 12) rfl)
set_option maxHeartbeats 4000000 in
set_option maxRecDepth 100000 in
theorem n_isWord (l : Launch) (G : g5_G) (b_o b_rf b_ro b_im b_ke b_tp b_nl b_op b_ar b_pi b_pa b_ws b_hw b_se b_re b_pt b_ip b_ah b_be b_me b_tr b_ld b_wn : Nat) (sz : Nat) (u_th : Int32) (u_sa : Int32) (u_fd : Int32) (u_td : Int32) (u_fr : Int32) (u_to : Int32) (u_so : Int32) (u_fa : Int32) (u_bd : Int32) (u_nc : Int32) (u_co : Int32) (u_le : Int32) (u_pd : Int32) (u_od : Int32) (u_la : Int32) (u_bk : Int32) (u_ce : Int32) (u_ho : Int32) (u_wy : Int32) (u_bt : Int32) (u_ps : Int32) (u_tg : Int32) (u_sn : Int32) (u_ic : Int32) (u_wd : Int32) (u_id : Int32) (u_wo : Int64) (u_va : Int64) (u_su : Int64) (u_st : Int64) (p_1 : Int64) (h_u_td : 0 ≤ u_td.toInt ∧ u_td.toInt ≤ 400) (h_u_fr : 0 ≤ u_fr.toInt ∧ u_fr.toInt ≤ 400) (h_u_to : 0 ≤ u_to.toInt ∧ u_to.toInt ≤ 400) (h_u_bd : 0 ≤ u_bd.toInt ∧ u_bd.toInt ≤ 1) (h_u_nc : 0 ≤ u_nc.toInt ∧ u_nc.toInt ≤ 12) (h_u_co : 0 ≤ u_co.toInt ∧ u_co.toInt ≤ 400) (h_u_pd : 0 ≤ u_pd.toInt ∧ u_pd.toInt ≤ 400) (h_u_la : 0 ≤ u_la.toInt ∧ u_la.toInt ≤ 4840) (h_u_bk : 0 ≤ u_bk.toInt ∧ u_bk.toInt ≤ 1) (h_u_ce : 0 ≤ u_ce.toInt ∧ u_ce.toInt ≤ 63) (h_u_ho : 0 ≤ u_ho.toInt ∧ u_ho.toInt ≤ 23) (h_u_wy : 0 ≤ u_wy.toInt ∧ u_wy.toInt ≤ 3) (h_u_bt : 0 ≤ u_bt.toInt ∧ u_bt.toInt ≤ 1000000) (h_u_ps : 0 ≤ u_ps.toInt ∧ u_ps.toInt ≤ 200) (h_u_ic : 0 ≤ u_ic.toInt ∧ u_ic.toInt ≤ 1) (h_u_id : 0 ≤ u_id.toInt ∧ u_id.toInt ≤ 1) : Met l yX12_isWord (wsG yX12_isWord cX12_isWord 3 (some .boolean)) ({ frames := 0, cells := 0, slots := 0, locals := 0 }) (va_Pc [.ref b_o, .long p_1] (g5_P G [(b_o, (oc12 u_th u_sa b_rf b_ro b_im b_ke u_fd b_tp u_td u_fr u_to u_so u_wo u_fa u_bd u_nc b_nl u_co b_op b_ar u_le b_pi b_pa u_pd u_od b_ws b_hw u_la b_se b_re u_bk u_va u_su u_ce u_ho u_wy u_bt u_ps b_pt u_tg u_sn b_ip u_ic b_ah b_be b_me u_wd b_tr b_ld u_st b_wn u_id))] sz)) (va_Qi (fun (r : Int32) (u : va_W) => ((u_so.toInt = 1) ∧ (r = 1) ∧ (u = [(b_o, (oc12 u_th u_sa b_rf b_ro b_im b_ke u_fd b_tp u_td u_fr u_to u_so u_wo u_fa u_bd u_nc b_nl u_co b_op b_ar u_le b_pi b_pa u_pd u_od b_ws b_hw u_la b_se b_re u_bk u_va u_su u_ce u_ho u_wy u_bt u_ps b_pt u_tg u_sn b_ip u_ic b_ah b_be b_me u_wd b_tr b_ld u_st b_wn u_id))])) ∨ ((r = 0) ∧ (u = [(b_o, (oc12 u_th u_sa b_rf b_ro b_im b_ke u_fd b_tp u_td u_fr u_to u_so u_wo u_fa u_bd u_nc b_nl u_co b_op b_ar u_le b_pi b_pa u_pd u_od b_ws b_hw u_la b_se b_re u_bk u_va u_su u_ce u_ho u_wy u_bt u_ps b_pt u_tg u_sn b_ip u_ic b_ah b_be b_me u_wd b_tr b_ld u_st b_wn u_id))]))) (g5_B G (va_A [(b_o, (oc12 u_th u_sa b_rf b_ro b_im b_ke u_fd b_tp u_td u_fr u_to u_so u_wo u_fa u_bd u_nc b_nl u_co b_op b_ar u_le b_pi b_pa u_pd u_od b_ws b_hw u_la b_se b_re u_bk u_va u_su u_ce u_ho u_wy u_bt u_ps b_pt u_tg u_sn b_ip u_ic b_ah b_be b_me u_wd b_tr b_ld u_st b_wn u_id))] sz)) (va_A [(b_o, (oc12 u_th u_sa b_rf b_ro b_im b_ke u_fd b_tp u_td u_fr u_to u_so u_wo u_fa u_bd u_nc b_nl u_co b_op b_ar u_le b_pi b_pa u_pd u_od b_ws b_hw u_la b_se b_re u_bk u_va u_su u_ce u_ho u_wy u_bt u_ps b_pt u_tg u_sn b_ip u_ic b_ah b_be b_me u_wd b_tr b_ld u_st b_wn u_id))] sz)) 0 0 (va_A [(b_o, (oc12 u_th u_sa b_rf b_ro b_im b_ke u_fd b_tp u_td u_fr u_to u_so u_wo u_fa u_bd u_nc b_nl u_co b_op b_ar u_le b_pi b_pa u_pd u_od b_ws b_hw u_la b_se b_re u_bk u_va u_su u_ce u_ho u_wy u_bt u_ps b_pt u_tg u_sn b_ip u_ic b_ah b_be b_me u_wd b_tr b_ld u_st b_wn u_id))] sz) := by
  refine Met.ofW (cc := cX12_isWord) (maxL := 3) (ret := (some .boolean)) (by decide) rfl ?_
  intro p e s m args below meth c s₁ B hml hv
  obtain ⟨rfl, hsz, hP, hK, hD0, hN, hT⟩ := hv
  have hx := B.exec
  have hb := B.bytes
  have hr := B.returns
  have hts : ∀ w ∈ tblG, w.before _ s = true := fun w h => atoms_spec (ws := (wsG yX12_isWord cX12_isWord 3 (some .boolean))) B.pre w (List.mem_cons_of_mem _ h)
  have hown : s.vm.findClass RX12 = some m.cls := findClass_of_methodNamed B.named
  have hlocks := B.notSynchronized
  subst hsz
  have hD := hD0.self (sz := s.heap.size)
  generalize hAe : va_A [(b_o, (oc12 u_th u_sa b_rf b_ro b_im b_ke u_fd b_tp u_td u_fr u_to u_so u_wo u_fa u_bd u_nc b_nl u_co b_op b_ar u_le b_pi b_pa u_pd u_od b_ws b_hw u_la b_se b_re u_bk u_va u_su u_ce u_ho u_wy u_bt u_ps b_pt u_tg u_sn b_ip u_ic b_ah b_be b_me u_wd b_tr b_ld u_st b_wn u_id))] s.heap.size = A at hD hT ⊢
  have hA : ∀ q : Nat, s.heap.size ≤ q → A q := fun q h => by rw [← hAe]; exact Or.inr h
  have hS : va_S A s.heap s.heap [] := va_S.rf
  have hP : va_P G.1 vwCl [(b_o, (oc12 u_th u_sa b_rf b_ro b_im b_ke u_fd b_tp u_td u_fr u_to u_so u_wo u_fa u_bd u_nc b_nl u_co b_op b_ar u_le b_pi b_pa u_pd u_od b_ws b_hw u_la b_se b_re u_bk u_va u_su u_ce u_ho u_wy u_bt u_ps b_pt u_tg u_sn b_ip u_ic b_ah b_be b_me u_wd b_tr b_ld u_st b_wn u_id))] s.heap := hP
  have hl := lv_entry ([.ref b_o, .long p_1]) (n := 3) (Nat.le_of_ble_eq_true rfl)
  rw [lg_entry_eq]
  generalize (lg_sl ([.ref b_o, .long p_1]) ++ List.replicate (3 - (lg_sl ([.ref b_o, .long p_1])).length) Slot.unset).toArray = ls at hl ⊢
  have hl : lv_has ls 3 [(0, .ref b_o), (1, .long p_1)] := hl
  refine lv_aload_n hx hb dX12_isWord_0 rfl (lv_at hl 0 rfl) ?_
  refine va_get (D := G.1) (ci := 12) (v := .int u_so) (C := RX12) (T := TX12) (N := 52) hx hb hts inG_X12 hown hK hP 0 rfl rfl 11 (by decide) (hts _ fl_X12_224) (fun _ h9 => h9) rfl dX12_isWord_1 ?_
  refine lv_iconst (v := 1) hx hb dX12_isWord_4 (by decide) ?_
  refine lv_icmp_ne (tgt := 21) hx hb dX12_isWord_5 (by decide) (fun c_1 => ?_) (fun c_1 => ?_)
  ·
    have n_1 : gNe (u_so.toInt) (1) := by have z := g5_ne (a := u_so.toInt) (b := 1) (by rfl) (by decide) c_1; unfold gNe; omega
    refine lv_iconst (v := 0) hx hb dX12_isWord_21 (by decide) ?_
    exact W.zret (v := 0) hx hb hr rfl (fun t ht hW => ⟨⟨0, [(b_o, (oc12 u_th u_sa b_rf b_ro b_im b_ke u_fd b_tp u_td u_fr u_to u_so u_wo u_fa u_bd u_nc b_nl u_co b_op b_ar u_le b_pi b_pa u_pd u_od b_ws b_hw u_la b_se b_re u_bk u_va u_su u_ce u_ho u_wy u_bt u_ps b_pt u_tg u_sn b_ip u_ic b_ah b_be b_me u_wd b_tr b_ld u_st b_wn u_id))], rfl, Or.inr (⟨rfl, rfl⟩), by rw [ht]; exact hP.sub [0] rfl, hD.sub [0] (by decide) rfl⟩, hS.F ht⟩) hS.2.2 dX12_isWord_22
  ·
    have i_1 : u_so.toInt = 1 := by have z := g5_neN (a := u_so.toInt) (b := 1) (by rfl) (by decide) c_1; omega
    refine lv_aload_n hx hb dX12_isWord_8 rfl (lv_at hl 0 rfl) ?_
    refine va_get (D := G.1) (ci := 12) (v := .long u_wo) (C := RX12) (T := TX12) (N := 52) hx hb hts inG_X12 hown hK hP 0 rfl rfl 12 (by decide) (hts _ fl_X12_214) (fun _ h9 => h9) rfl dX12_isWord_9 ?_
    refine lv_lload_n hx hb dX12_isWord_12 rfl (lv_at hl 1 rfl) ?_
    refine W.lcmp hx hb dX12_isWord_13 ?_
    refine lv_if_ne (tgt := 21) hx hb dX12_isWord_14 (by decide) (fun c_2 => ?_) (fun c_2 => ?_)
    ·
      have n_2 : gNe ((lg_cmp u_wo p_1).toInt) (0) := by have z := g5_ne (a := (lg_cmp u_wo p_1).toInt) (b := 0) (by rfl) (by decide) c_2; unfold gNe; omega
      refine lv_iconst (v := 0) hx hb dX12_isWord_21 (by decide) ?_
      exact W.zret (v := 0) hx hb hr rfl (fun t ht hW => ⟨⟨0, [(b_o, (oc12 u_th u_sa b_rf b_ro b_im b_ke u_fd b_tp u_td u_fr u_to u_so u_wo u_fa u_bd u_nc b_nl u_co b_op b_ar u_le b_pi b_pa u_pd u_od b_ws b_hw u_la b_se b_re u_bk u_va u_su u_ce u_ho u_wy u_bt u_ps b_pt u_tg u_sn b_ip u_ic b_ah b_be b_me u_wd b_tr b_ld u_st b_wn u_id))], rfl, Or.inr (⟨rfl, rfl⟩), by rw [ht]; exact hP.sub [0] rfl, hD.sub [0] (by decide) rfl⟩, hS.F ht⟩) hS.2.2 dX12_isWord_22
    ·
      have i_2 : (lg_cmp u_wo p_1).toInt = 0 := by have z := g5_neN (a := (lg_cmp u_wo p_1).toInt) (b := 0) (by rfl) (by decide) c_2; omega
      refine lv_iconst (v := 1) hx hb dX12_isWord_17 (by decide) ?_
      refine lv_goto (tgt := 22) hx hb dX12_isWord_18 (by decide) ?_
      exact W.zret (v := 1) hx hb hr rfl (fun t ht hW => ⟨⟨1, [(b_o, (oc12 u_th u_sa b_rf b_ro b_im b_ke u_fd b_tp u_td u_fr u_to u_so u_wo u_fa u_bd u_nc b_nl u_co b_op b_ar u_le b_pi b_pa u_pd u_od b_ws b_hw u_la b_se b_re u_bk u_va u_su u_ce u_ho u_wy u_bt u_ps b_pt u_tg u_sn b_ip u_ic b_ah b_be b_me u_wd b_tr b_ld u_st b_wn u_id))], rfl, Or.inl (⟨by omega, rfl, rfl⟩), by rw [ht]; exact hP.sub [0] rfl, hD.sub [0] (by decide) rfl⟩, hS.F ht⟩) hS.2.2 dX12_isWord_22
theorem dgX12_isSign_0 : ∀ r ∈ ([(0, (.aload_n 0, 1)), (1, (.getfield 224, 3)), (4, (.iconst 3, 1)), (5, (.if_icmp .ne 17, 3)), (8, (.aload_n 0, 1)), (9, (.getfield 214, 3)), (12, (.iload_n 1, 1)), (13, (.i2l, 1)), (14, (.lcmp, 1)), (15, (.ifCond .ne 7, 3)), (18, (.iconst 1, 1)), (19, (.goto 4, 3)), (22, (.iconst 0, 1)), (23, (.ireturn, 1))] : List (Nat × (Instr × Nat))), decode cX12_isSign r.1 = .ok r.2 := by decide +kernel
theorem dX12_isSign_0 : decode cX12_isSign 0 = .ok (.aload_n 0, 1) := dgX12_isSign_0 (0, (.aload_n 0, 1)) (List.mem_of_getElem? (i := 0) rfl)
theorem dX12_isSign_1 : decode cX12_isSign 1 = .ok (.getfield 224, 3) := dgX12_isSign_0 (1, (.getfield 224, 3)) (List.mem_of_getElem? (i := 1) rfl)
theorem dX12_isSign_4 : decode cX12_isSign 4 = .ok (.iconst 3, 1) := dgX12_isSign_0 (4, (.iconst 3, 1)) (List.mem_of_getElem? (i := 2) rfl)
theorem dX12_isSign_5 : decode cX12_isSign 5 = .ok (.if_icmp .ne 17, 3) := dgX12_isSign_0 (5, (.if_icmp .ne 17, 3)) (List.mem_of_getElem? (i := 3) rfl)
theorem dX12_isSign_8 : decode cX12_isSign 8 = .ok (.aload_n 0, 1) := dgX12_isSign_0 (8, (.aload_n 0, 1)) (List.mem_of_getElem? (i := 4) rfl)
theorem dX12_isSign_9 : decode cX12_isSign 9 = .ok (.getfield 214, 3) := dgX12_isSign_0 (9, (.getfield 214, 3)) (List.mem_of_getElem? (i := 5) rfl)
theorem dX12_isSign_12 : decode cX12_isSign 12 = .ok (.iload_n 1, 1) := dgX12_isSign_0 (12, (.iload_n 1, 1)) (List.mem_of_getElem? (i := 6) rfl)
theorem dX12_isSign_13 : decode cX12_isSign 13 = .ok (.i2l, 1) := dgX12_isSign_0 (13, (.i2l, 1)) (List.mem_of_getElem? (i := 7) rfl)
theorem dX12_isSign_14 : decode cX12_isSign 14 = .ok (.lcmp, 1) := dgX12_isSign_0 (14, (.lcmp, 1)) (List.mem_of_getElem? (i := 8) rfl)
theorem dX12_isSign_15 : decode cX12_isSign 15 = .ok (.ifCond .ne 7, 3) := dgX12_isSign_0 (15, (.ifCond .ne 7, 3)) (List.mem_of_getElem? (i := 9) rfl)
theorem dX12_isSign_18 : decode cX12_isSign 18 = .ok (.iconst 1, 1) := dgX12_isSign_0 (18, (.iconst 1, 1)) (List.mem_of_getElem? (i := 10) rfl)
theorem dX12_isSign_19 : decode cX12_isSign 19 = .ok (.goto 4, 3) := dgX12_isSign_0 (19, (.goto 4, 3)) (List.mem_of_getElem? (i := 11) rfl)
theorem dX12_isSign_22 : decode cX12_isSign 22 = .ok (.iconst 0, 1) := dgX12_isSign_0 (22, (.iconst 0, 1)) (List.mem_of_getElem? (i := 12) rfl)
theorem dX12_isSign_23 : decode cX12_isSign 23 = .ok (.ireturn, 1) := dgX12_isSign_0 (23, (.ireturn, 1)) (List.mem_of_getElem? (i := 13) rfl)
set_option maxHeartbeats 4000000 in
set_option maxRecDepth 100000 in
theorem n_isSign (l : Launch) (G : g5_G) (b_o b_rf b_ro b_im b_ke b_tp b_nl b_op b_ar b_pi b_pa b_ws b_hw b_se b_re b_pt b_ip b_ah b_be b_me b_tr b_ld b_wn : Nat) (sz : Nat) (u_th : Int32) (u_sa : Int32) (u_fd : Int32) (u_td : Int32) (u_fr : Int32) (u_to : Int32) (u_so : Int32) (u_fa : Int32) (u_bd : Int32) (u_nc : Int32) (u_co : Int32) (u_le : Int32) (u_pd : Int32) (u_od : Int32) (u_la : Int32) (u_bk : Int32) (u_ce : Int32) (u_ho : Int32) (u_wy : Int32) (u_bt : Int32) (u_ps : Int32) (u_tg : Int32) (u_sn : Int32) (u_ic : Int32) (u_wd : Int32) (u_id : Int32) (p_1 : Int32) (u_wo : Int64) (u_va : Int64) (u_su : Int64) (u_st : Int64) (h_u_td : 0 ≤ u_td.toInt ∧ u_td.toInt ≤ 400) (h_u_fr : 0 ≤ u_fr.toInt ∧ u_fr.toInt ≤ 400) (h_u_to : 0 ≤ u_to.toInt ∧ u_to.toInt ≤ 400) (h_u_bd : 0 ≤ u_bd.toInt ∧ u_bd.toInt ≤ 1) (h_u_nc : 0 ≤ u_nc.toInt ∧ u_nc.toInt ≤ 12) (h_u_co : 0 ≤ u_co.toInt ∧ u_co.toInt ≤ 400) (h_u_pd : 0 ≤ u_pd.toInt ∧ u_pd.toInt ≤ 400) (h_u_la : 0 ≤ u_la.toInt ∧ u_la.toInt ≤ 4840) (h_u_bk : 0 ≤ u_bk.toInt ∧ u_bk.toInt ≤ 1) (h_u_ce : 0 ≤ u_ce.toInt ∧ u_ce.toInt ≤ 63) (h_u_ho : 0 ≤ u_ho.toInt ∧ u_ho.toInt ≤ 23) (h_u_wy : 0 ≤ u_wy.toInt ∧ u_wy.toInt ≤ 3) (h_u_bt : 0 ≤ u_bt.toInt ∧ u_bt.toInt ≤ 1000000) (h_u_ps : 0 ≤ u_ps.toInt ∧ u_ps.toInt ≤ 200) (h_u_ic : 0 ≤ u_ic.toInt ∧ u_ic.toInt ≤ 1) (h_u_id : 0 ≤ u_id.toInt ∧ u_id.toInt ≤ 1) : Met l yX12_isSign (wsG yX12_isSign cX12_isSign 2 (some .boolean)) ({ frames := 0, cells := 0, slots := 0, locals := 0 }) (va_Pc [.ref b_o, .int p_1] (g5_P G [(b_o, (oc12 u_th u_sa b_rf b_ro b_im b_ke u_fd b_tp u_td u_fr u_to u_so u_wo u_fa u_bd u_nc b_nl u_co b_op b_ar u_le b_pi b_pa u_pd u_od b_ws b_hw u_la b_se b_re u_bk u_va u_su u_ce u_ho u_wy u_bt u_ps b_pt u_tg u_sn b_ip u_ic b_ah b_be b_me u_wd b_tr b_ld u_st b_wn u_id))] sz)) (va_Qi (fun (r : Int32) (u : va_W) => ((u_so.toInt = 3) ∧ (r = 1) ∧ (u = [(b_o, (oc12 u_th u_sa b_rf b_ro b_im b_ke u_fd b_tp u_td u_fr u_to u_so u_wo u_fa u_bd u_nc b_nl u_co b_op b_ar u_le b_pi b_pa u_pd u_od b_ws b_hw u_la b_se b_re u_bk u_va u_su u_ce u_ho u_wy u_bt u_ps b_pt u_tg u_sn b_ip u_ic b_ah b_be b_me u_wd b_tr b_ld u_st b_wn u_id))])) ∨ ((r = 0) ∧ (u = [(b_o, (oc12 u_th u_sa b_rf b_ro b_im b_ke u_fd b_tp u_td u_fr u_to u_so u_wo u_fa u_bd u_nc b_nl u_co b_op b_ar u_le b_pi b_pa u_pd u_od b_ws b_hw u_la b_se b_re u_bk u_va u_su u_ce u_ho u_wy u_bt u_ps b_pt u_tg u_sn b_ip u_ic b_ah b_be b_me u_wd b_tr b_ld u_st b_wn u_id))]))) (g5_B G (va_A [(b_o, (oc12 u_th u_sa b_rf b_ro b_im b_ke u_fd b_tp u_td u_fr u_to u_so u_wo u_fa u_bd u_nc b_nl u_co b_op b_ar u_le b_pi b_pa u_pd u_od b_ws b_hw u_la b_se b_re u_bk u_va u_su u_ce u_ho u_wy u_bt u_ps b_pt u_tg u_sn b_ip u_ic b_ah b_be b_me u_wd b_tr b_ld u_st b_wn u_id))] sz)) (va_A [(b_o, (oc12 u_th u_sa b_rf b_ro b_im b_ke u_fd b_tp u_td u_fr u_to u_so u_wo u_fa u_bd u_nc b_nl u_co b_op b_ar u_le b_pi b_pa u_pd u_od b_ws b_hw u_la b_se b_re u_bk u_va u_su u_ce u_ho u_wy u_bt u_ps b_pt u_tg u_sn b_ip u_ic b_ah b_be b_me u_wd b_tr b_ld u_st b_wn u_id))] sz)) 0 0 (va_A [(b_o, (oc12 u_th u_sa b_rf b_ro b_im b_ke u_fd b_tp u_td u_fr u_to u_so u_wo u_fa u_bd u_nc b_nl u_co b_op b_ar u_le b_pi b_pa u_pd u_od b_ws b_hw u_la b_se b_re u_bk u_va u_su u_ce u_ho u_wy u_bt u_ps b_pt u_tg u_sn b_ip u_ic b_ah b_be b_me u_wd b_tr b_ld u_st b_wn u_id))] sz) := by
  refine Met.ofW (cc := cX12_isSign) (maxL := 2) (ret := (some .boolean)) (by decide) rfl ?_
  intro p e s m args below meth c s₁ B hml hv
  obtain ⟨rfl, hsz, hP, hK, hD0, hN, hT⟩ := hv
  have hx := B.exec
  have hb := B.bytes
  have hr := B.returns
  have hts : ∀ w ∈ tblG, w.before _ s = true := fun w h => atoms_spec (ws := (wsG yX12_isSign cX12_isSign 2 (some .boolean))) B.pre w (List.mem_cons_of_mem _ h)
  have hown : s.vm.findClass RX12 = some m.cls := findClass_of_methodNamed B.named
  have hlocks := B.notSynchronized
  subst hsz
  have hD := hD0.self (sz := s.heap.size)
  generalize hAe : va_A [(b_o, (oc12 u_th u_sa b_rf b_ro b_im b_ke u_fd b_tp u_td u_fr u_to u_so u_wo u_fa u_bd u_nc b_nl u_co b_op b_ar u_le b_pi b_pa u_pd u_od b_ws b_hw u_la b_se b_re u_bk u_va u_su u_ce u_ho u_wy u_bt u_ps b_pt u_tg u_sn b_ip u_ic b_ah b_be b_me u_wd b_tr b_ld u_st b_wn u_id))] s.heap.size = A at hD hT ⊢
  have hA : ∀ q : Nat, s.heap.size ≤ q → A q := fun q h => by rw [← hAe]; exact Or.inr h
  have hS : va_S A s.heap s.heap [] := va_S.rf
  have hP : va_P G.1 vwCl [(b_o, (oc12 u_th u_sa b_rf b_ro b_im b_ke u_fd b_tp u_td u_fr u_to u_so u_wo u_fa u_bd u_nc b_nl u_co b_op b_ar u_le b_pi b_pa u_pd u_od b_ws b_hw u_la b_se b_re u_bk u_va u_su u_ce u_ho u_wy u_bt u_ps b_pt u_tg u_sn b_ip u_ic b_ah b_be b_me u_wd b_tr b_ld u_st b_wn u_id))] s.heap := hP
  have hl := lv_entry ([.ref b_o, .int p_1]) (n := 2) (Nat.le_of_ble_eq_true rfl)
  rw [lg_entry_eq]
  generalize (lg_sl ([.ref b_o, .int p_1]) ++ List.replicate (2 - (lg_sl ([.ref b_o, .int p_1])).length) Slot.unset).toArray = ls at hl ⊢
  have hl : lv_has ls 2 [(0, .ref b_o), (1, .int p_1)] := hl
  refine lv_aload_n hx hb dX12_isSign_0 rfl (lv_at hl 0 rfl) ?_
  refine va_get (D := G.1) (ci := 12) (v := .int u_so) (C := RX12) (T := TX12) (N := 52) hx hb hts inG_X12 hown hK hP 0 rfl rfl 11 (by decide) (hts _ fl_X12_224) (fun _ h9 => h9) rfl dX12_isSign_1 ?_
  refine lv_iconst (v := 3) hx hb dX12_isSign_4 (by decide) ?_
  refine lv_icmp_ne (tgt := 22) hx hb dX12_isSign_5 (by decide) (fun c_1 => ?_) (fun c_1 => ?_)
  ·
    have n_1 : gNe (u_so.toInt) (3) := by have z := g5_ne (a := u_so.toInt) (b := 3) (by rfl) (by decide) c_1; unfold gNe; omega
    refine lv_iconst (v := 0) hx hb dX12_isSign_22 (by decide) ?_
    exact W.zret (v := 0) hx hb hr rfl (fun t ht hW => ⟨⟨0, [(b_o, (oc12 u_th u_sa b_rf b_ro b_im b_ke u_fd b_tp u_td u_fr u_to u_so u_wo u_fa u_bd u_nc b_nl u_co b_op b_ar u_le b_pi b_pa u_pd u_od b_ws b_hw u_la b_se b_re u_bk u_va u_su u_ce u_ho u_wy u_bt u_ps b_pt u_tg u_sn b_ip u_ic b_ah b_be b_me u_wd b_tr b_ld u_st b_wn u_id))], rfl, Or.inr (⟨rfl, rfl⟩), by rw [ht]; exact hP.sub [0] rfl, hD.sub [0] (by decide) rfl⟩, hS.F ht⟩) hS.2.2 dX12_isSign_23
  ·
    have i_1 : u_so.toInt = 3 := by have z := g5_neN (a := u_so.toInt) (b := 3) (by rfl) (by decide) c_1; omega
    refine lv_aload_n hx hb dX12_isSign_8 rfl (lv_at hl 0 rfl) ?_
    refine va_get (D := G.1) (ci := 12) (v := .long u_wo) (C := RX12) (T := TX12) (N := 52) hx hb hts inG_X12 hown hK hP 0 rfl rfl 12 (by decide) (hts _ fl_X12_214) (fun _ h9 => h9) rfl dX12_isSign_9 ?_
    refine lv_iload_n hx hb dX12_isSign_12 rfl (lv_at hl 1 rfl) ?_
    refine lv_i2l (v := p_1.toInt64) hx hb dX12_isSign_13 rfl ?_
    refine W.lcmp hx hb dX12_isSign_14 ?_
    refine lv_if_ne (tgt := 22) hx hb dX12_isSign_15 (by decide) (fun c_2 => ?_) (fun c_2 => ?_)
    ·
      have n_2 : gNe ((lg_cmp u_wo p_1.toInt64).toInt) (0) := by have z := g5_ne (a := (lg_cmp u_wo p_1.toInt64).toInt) (b := 0) (by rfl) (by decide) c_2; unfold gNe; omega
      refine lv_iconst (v := 0) hx hb dX12_isSign_22 (by decide) ?_
      exact W.zret (v := 0) hx hb hr rfl (fun t ht hW => ⟨⟨0, [(b_o, (oc12 u_th u_sa b_rf b_ro b_im b_ke u_fd b_tp u_td u_fr u_to u_so u_wo u_fa u_bd u_nc b_nl u_co b_op b_ar u_le b_pi b_pa u_pd u_od b_ws b_hw u_la b_se b_re u_bk u_va u_su u_ce u_ho u_wy u_bt u_ps b_pt u_tg u_sn b_ip u_ic b_ah b_be b_me u_wd b_tr b_ld u_st b_wn u_id))], rfl, Or.inr (⟨rfl, rfl⟩), by rw [ht]; exact hP.sub [0] rfl, hD.sub [0] (by decide) rfl⟩, hS.F ht⟩) hS.2.2 dX12_isSign_23
    ·
      have i_2 : (lg_cmp u_wo p_1.toInt64).toInt = 0 := by have z := g5_neN (a := (lg_cmp u_wo p_1.toInt64).toInt) (b := 0) (by rfl) (by decide) c_2; omega
      refine lv_iconst (v := 1) hx hb dX12_isSign_18 (by decide) ?_
      refine lv_goto (tgt := 23) hx hb dX12_isSign_19 (by decide) ?_
      exact W.zret (v := 1) hx hb hr rfl (fun t ht hW => ⟨⟨1, [(b_o, (oc12 u_th u_sa b_rf b_ro b_im b_ke u_fd b_tp u_td u_fr u_to u_so u_wo u_fa u_bd u_nc b_nl u_co b_op b_ar u_le b_pi b_pa u_pd u_od b_ws b_hw u_la b_se b_re u_bk u_va u_su u_ce u_ho u_wy u_bt u_ps b_pt u_tg u_sn b_ip u_ic b_ah b_be b_me u_wd b_tr b_ld u_st b_wn u_id))], rfl, Or.inl (⟨by omega, rfl, rfl⟩), by rw [ht]; exact hP.sub [0] rfl, hD.sub [0] (by decide) rfl⟩, hS.F ht⟩) hS.2.2 dX12_isSign_23
theorem dgX12_must_0 : ∀ r ∈ ([(0, (.aload_n 0, 1)), (1, (.getfield 205, 3)), (4, (.ifCond .ne 20, 3)), (7, (.iload_n 1, 1)), (8, (.ifCond .ne 16, 3)), (11, (.aload_n 0, 1)), (12, (.iconst 1, 1)), (13, (.putfield 205, 3)), (16, (.aload_n 0, 1)), (17, (.aload_n 0, 1)), (18, (.getfield 211, 3)), (21, (.putfield 26, 3)), (24, (.aload_n 0, 1)), (25, (.getfield 205, 3)), (28, (.ifCond .ne 7, 3)), (31, (.aload_n 0, 1)), (32, (.invokevirtual 208, 3)), (35, (.return_, 1))] : List (Nat × (Instr × Nat))), decode cX12_must r.1 = .ok r.2 := by decide +kernel
theorem dX12_must_0 : decode cX12_must 0 = .ok (.aload_n 0, 1) := dgX12_must_0 (0, (.aload_n 0, 1)) (List.mem_of_getElem? (i := 0) rfl)
theorem dX12_must_1 : decode cX12_must 1 = .ok (.getfield 205, 3) := dgX12_must_0 (1, (.getfield 205, 3)) (List.mem_of_getElem? (i := 1) rfl)
theorem dX12_must_4 : decode cX12_must 4 = .ok (.ifCond .ne 20, 3) := dgX12_must_0 (4, (.ifCond .ne 20, 3)) (List.mem_of_getElem? (i := 2) rfl)
theorem dX12_must_7 : decode cX12_must 7 = .ok (.iload_n 1, 1) := dgX12_must_0 (7, (.iload_n 1, 1)) (List.mem_of_getElem? (i := 3) rfl)
theorem dX12_must_8 : decode cX12_must 8 = .ok (.ifCond .ne 16, 3) := dgX12_must_0 (8, (.ifCond .ne 16, 3)) (List.mem_of_getElem? (i := 4) rfl)
theorem dX12_must_11 : decode cX12_must 11 = .ok (.aload_n 0, 1) := dgX12_must_0 (11, (.aload_n 0, 1)) (List.mem_of_getElem? (i := 5) rfl)
theorem dX12_must_12 : decode cX12_must 12 = .ok (.iconst 1, 1) := dgX12_must_0 (12, (.iconst 1, 1)) (List.mem_of_getElem? (i := 6) rfl)
theorem dX12_must_13 : decode cX12_must 13 = .ok (.putfield 205, 3) := dgX12_must_0 (13, (.putfield 205, 3)) (List.mem_of_getElem? (i := 7) rfl)
theorem dX12_must_16 : decode cX12_must 16 = .ok (.aload_n 0, 1) := dgX12_must_0 (16, (.aload_n 0, 1)) (List.mem_of_getElem? (i := 8) rfl)
theorem dX12_must_17 : decode cX12_must 17 = .ok (.aload_n 0, 1) := dgX12_must_0 (17, (.aload_n 0, 1)) (List.mem_of_getElem? (i := 9) rfl)
theorem dX12_must_18 : decode cX12_must 18 = .ok (.getfield 211, 3) := dgX12_must_0 (18, (.getfield 211, 3)) (List.mem_of_getElem? (i := 10) rfl)
theorem dX12_must_21 : decode cX12_must 21 = .ok (.putfield 26, 3) := dgX12_must_0 (21, (.putfield 26, 3)) (List.mem_of_getElem? (i := 11) rfl)
theorem dX12_must_24 : decode cX12_must 24 = .ok (.aload_n 0, 1) := dgX12_must_0 (24, (.aload_n 0, 1)) (List.mem_of_getElem? (i := 12) rfl)
theorem dX12_must_25 : decode cX12_must 25 = .ok (.getfield 205, 3) := dgX12_must_0 (25, (.getfield 205, 3)) (List.mem_of_getElem? (i := 13) rfl)
theorem dX12_must_28 : decode cX12_must 28 = .ok (.ifCond .ne 7, 3) := dgX12_must_0 (28, (.ifCond .ne 7, 3)) (List.mem_of_getElem? (i := 14) rfl)
theorem dX12_must_31 : decode cX12_must 31 = .ok (.aload_n 0, 1) := dgX12_must_0 (31, (.aload_n 0, 1)) (List.mem_of_getElem? (i := 15) rfl)
theorem dX12_must_32 : decode cX12_must 32 = .ok (.invokevirtual 208, 3) := dgX12_must_0 (32, (.invokevirtual 208, 3)) (List.mem_of_getElem? (i := 16) rfl)
theorem dX12_must_35 : decode cX12_must 35 = .ok (.return_, 1) := dgX12_must_0 (35, (.return_, 1)) (List.mem_of_getElem? (i := 17) rfl)
theorem fl_X12_205 : Cond.fieldLink RX12 205 "LateGlassModel" "bad" "Z" ∈ tblG := tg 1217 (by decide +kernel) (by decide +kernel)
theorem ml_X12_208 : Cond.methodLink RX12 208 yX12_next ∈ tblG := tg 1504 (by decide +kernel) (by decide +kernel)
theorem im_X12_next : Cond.instanceMethod yX12_next ∈ tblG := tg 1506 (by decide +kernel) (by decide +kernel)
theorem se_X12_next : Cond.selects RX12 yX12_next yX12_next ∈ tblG := tg 44 (by decide +kernel) (by decide +kernel)
theorem cd_X12_next : Cond.code yX12_next cX12_next 1 none ∈ tblG := tg 1507 (by decide +kernel) (by decide +kernel)
theorem gW_X12_next : GoodIn tblG (wsG yX12_next cX12_next 1 none) := tgi cd_X12_next
theorem gV_X12_208 : GoodIn tblG (wsV RX12 208 RX12 yX12_next (wsG yX12_next cX12_next 1 none)) := tgV ml_X12_208 im_X12_next se_X12_next ini_X12 gW_X12_next
theorem hv_X12_next : yX12_next.cls = RX12 ∧ yX12_next.cls ≠ "java/lang/invoke/MethodHandle" ∧ yX12_next.cls ≠ "java/lang/invoke/VarHandle" ∧ (parseMethodDescriptor yX12_next.desc).map (fun d => d.parameters.length) = some 0 := by decide +kernel
