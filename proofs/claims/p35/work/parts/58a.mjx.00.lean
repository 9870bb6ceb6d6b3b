set_option maxHeartbeats 4000000 in
set_option maxRecDepth 100000 in
theorem n_inB (l : Launch) (G : g5_G) (sz : Nat) (p_a : Int64) : Met l yX12_in (wsG yX12_in cX12_in 6 (some .boolean)) ({ frames := 0, cells := 0, slots := 0, locals := 0 }) (va_Pc [.long p_a, .long (-1000000000), .long 1000000000] (g5_P G [] sz)) (va_Qi (fun (r : Int32) (u : va_W) => ((-1000000000 ≤ p_a.toInt ∧ p_a.toInt ≤ 1000000000) ∧ (r = 1) ∧ (u = [])) ∨ ((p_a.toInt < -1000000000 ∨ 1000000000 < p_a.toInt) ∧ (r = 0) ∧ (u = []))) (g5_B G (va_A [] sz)) (va_A [] sz)) 0 0 (va_A [] sz) := by
  refine Met.ofW (cc := cX12_in) (maxL := 6) (ret := (some .boolean)) (by decide) rfl ?_
  intro p e s m args below meth c s₁ B hml hv
  obtain ⟨rfl, hsz, hP, hK, hD0, hN, hT⟩ := hv
  have hx := B.exec
  have hb := B.bytes
  have hr := B.returns
  have hts : ∀ w ∈ tblG, w.before _ s = true := fun w h => atoms_spec (ws := (wsG yX12_in cX12_in 6 (some .boolean))) B.pre w (List.mem_cons_of_mem _ h)
  have hown : s.vm.findClass RX12 = some m.cls := findClass_of_methodNamed B.named
  have hlocks := B.notSynchronized
  subst hsz
  have hD := hD0.self (sz := s.heap.size)
  generalize hAe : va_A [] s.heap.size = A at hD hT ⊢
  have hA : ∀ q : Nat, s.heap.size ≤ q → A q := fun q h => by rw [← hAe]; exact Or.inr h
  have hS : va_S A s.heap s.heap [] := va_S.rf
  have hP : va_P G.1 vwCl [] s.heap := hP
  have hl := lv_entry ([.long p_a, .long (-1000000000), .long 1000000000]) (n := 6) (Nat.le_of_ble_eq_true rfl)
  rw [lg_entry_eq]
  generalize (lg_sl ([.long p_a, .long (-1000000000), .long 1000000000]) ++ List.replicate (6 - (lg_sl ([.long p_a, .long (-1000000000), .long 1000000000])).length) Slot.unset).toArray = ls at hl ⊢
  have hl : lv_has ls 6 [(0, .long p_a), (2, .long (-1000000000)), (4, .long 1000000000)] := hl
  refine lv_lload_n hx hb dX12_in_0 rfl (lv_at hl 0 rfl) ?_
  refine lv_lload_n hx hb dX12_in_1 rfl (lv_at hl 1 rfl) ?_
  have tl_1 : ((-1000000000) : Int64).toInt = (-1000000000) := (by decide)
  have tc_2 := g5_cmpI p_a ((-1000000000) : Int64)
  refine W.lcmp hx hb dX12_in_2 ?_
  refine lv_if_lt (tgt := 17) hx hb dX12_in_3 (by decide) (fun c_3 => ?_) (fun c_3 => ?_)
  ·
    have i_3 : (lg_cmp p_a (-1000000000)).toInt < 0 := by have z := g5_lt (a := (lg_cmp p_a (-1000000000)).toInt) (b := 0) (by rfl) (by decide) c_3; omega
    refine lv_iconst (v := 0) hx hb dX12_in_17 (by decide) ?_
    exact W.zret (v := 0) hx hb hr rfl (fun t ht hW => ⟨⟨0, [], rfl, Or.inr (⟨by have z9 := in_q (v := p_a); omega, rfl, rfl⟩), by rw [ht]; exact hP.sub [] rfl, hD.sub [] (by decide) rfl⟩, hS.F ht⟩) hS.2.2 dX12_in_18
  ·
    have i_3 : (lg_cmp p_a (-1000000000)).toInt ≥ 0 := by have z := g5_ltN (a := (lg_cmp p_a (-1000000000)).toInt) (b := 0) (by rfl) (by decide) c_3; omega
    refine lv_lload_n hx hb dX12_in_6 rfl (lv_at hl 0 rfl) ?_
    refine lv_lload hx hb dX12_in_7 (lv_at hl 2 rfl) ?_
    have tl_4 : (1000000000 : Int64).toInt = 1000000000 := (by decide)
    have tc_5 := g5_cmpI p_a (1000000000 : Int64)
    refine W.lcmp hx hb dX12_in_9 ?_
    refine lv_if_gt (tgt := 17) hx hb dX12_in_10 (by decide) (fun c_6 => ?_) (fun c_6 => ?_)
    ·
      have i_6 : (lg_cmp p_a 1000000000).toInt > 0 := by have z := g5_gt (a := (lg_cmp p_a 1000000000).toInt) (b := 0) (by rfl) (by decide) c_6; omega
      refine lv_iconst (v := 0) hx hb dX12_in_17 (by decide) ?_
      exact W.zret (v := 0) hx hb hr rfl (fun t ht hW => ⟨⟨0, [], rfl, Or.inr (⟨by have z9 := in_q (v := p_a); omega, rfl, rfl⟩), by rw [ht]; exact hP.sub [] rfl, hD.sub [] (by decide) rfl⟩, hS.F ht⟩) hS.2.2 dX12_in_18
    ·
      have i_6 : (lg_cmp p_a 1000000000).toInt ≤ 0 := by have z := g5_gtN (a := (lg_cmp p_a 1000000000).toInt) (b := 0) (by rfl) (by decide) c_6; omega
      refine lv_iconst (v := 1) hx hb dX12_in_13 (by decide) ?_
      refine lv_goto (tgt := 18) hx hb dX12_in_14 (by decide) ?_
      exact W.zret (v := 1) hx hb hr rfl (fun t ht hW => ⟨⟨1, [], rfl, Or.inl (⟨⟨(in_q (v := p_a)).1.mp (by omega), (in_q (v := p_a)).2.mp (by omega)⟩, rfl, rfl⟩), by rw [ht]; exact hP.sub [] rfl, hD.sub [] (by decide) rfl⟩, hS.F ht⟩) hS.2.2 dX12_in_18
set_option maxHeartbeats 4000000 in
set_option maxRecDepth 100000 in
theorem n_reckonX (l : Launch) (G : g5_G) (b_o b_rf b_ro b_im b_ke b_tp b_nl b_op b_ar b_pi b_pa b_ws b_hw b_se b_re b_pt b_ip b_ah b_be b_me b_tr b_ld b_wn : Nat) (sz : Nat) (u_th : Int32) (u_sa : Int32) (u_fd : Int32) (u_td : Int32) (u_fr : Int32) (u_to : Int32) (u_so : Int32) (u_fa : Int32) (u_bd : Int32) (u_nc : Int32) (u_co : Int32) (u_le : Int32) (u_pd : Int32) (u_od : Int32) (u_la : Int32) (u_bk : Int32) (u_ce : Int32) (u_ho : Int32) (u_wy : Int32) (u_bt : Int32) (u_ps : Int32) (u_tg : Int32) (u_sn : Int32) (u_ic : Int32) (u_wd : Int32) (u_id : Int32) (p_1 : Int32) (u_wo : Int64) (u_va : Int64) (u_su : Int64) (u_st : Int64) (p_2 : Int64) (p_4 : Int64) (h_u_td : 0 ≤ u_td.toInt ∧ u_td.toInt ≤ 400) (h_u_fr : 0 ≤ u_fr.toInt ∧ u_fr.toInt ≤ 400) (h_u_to : 0 ≤ u_to.toInt ∧ u_to.toInt ≤ 400) (h_u_bd : 0 ≤ u_bd.toInt ∧ u_bd.toInt ≤ 1) (h_u_nc : 0 ≤ u_nc.toInt ∧ u_nc.toInt ≤ 12) (h_u_co : 0 ≤ u_co.toInt ∧ u_co.toInt ≤ 400) (h_u_pd : 0 ≤ u_pd.toInt ∧ u_pd.toInt ≤ 400) (h_u_la : 0 ≤ u_la.toInt ∧ u_la.toInt ≤ 4840) (h_u_bk : 0 ≤ u_bk.toInt ∧ u_bk.toInt ≤ 1) (h_u_ce : 0 ≤ u_ce.toInt ∧ u_ce.toInt ≤ 63) (h_u_ho : 0 ≤ u_ho.toInt ∧ u_ho.toInt ≤ 23) (h_u_wy : 0 ≤ u_wy.toInt ∧ u_wy.toInt ≤ 3) (h_u_bt : 0 ≤ u_bt.toInt ∧ u_bt.toInt ≤ 1000000) (h_u_ps : 0 ≤ u_ps.toInt ∧ u_ps.toInt ≤ 200) (h_u_ic : 0 ≤ u_ic.toInt ∧ u_ic.toInt ≤ 1) (h_u_id : 0 ≤ u_id.toInt ∧ u_id.toInt ≤ 1) (h_p_1 : 0 ≤ p_1.toInt ∧ p_1.toInt ≤ 29) (e_bk : u_bk.toInt = 0) : Met l yX12_reckon (wsG yX12_reckon cX12_reckon 6 (some .long)) ({ frames := 0, cells := 0, slots := 0, locals := 0 }) (va_Pc [.ref b_o, .int p_1, .long p_2, .long p_4] (g5_P G [(b_o, (oc12 u_th u_sa b_rf b_ro b_im b_ke u_fd b_tp u_td u_fr u_to u_so u_wo u_fa u_bd u_nc b_nl u_co b_op b_ar u_le b_pi b_pa u_pd u_od b_ws b_hw u_la b_se b_re u_bk u_va u_su u_ce u_ho u_wy u_bt u_ps b_pt u_tg u_sn b_ip u_ic b_ah b_be b_me u_wd b_tr b_ld u_st b_wn u_id))] sz)) (va_Ql (fun (r : Int64) (u : va_W) => (∃ (o_r : Int64) (o_bk : Int32), (0 ≤ o_bk.toInt ∧ o_bk.toInt ≤ 1) ∧ ((p_1.toInt = 23 ∧ p_4 = 0 ∧ o_bk.toInt = 1) ∨ (¬ (p_1.toInt = 23 ∧ p_4 = 0) ∧ o_bk.toInt = 0 ∧ o_r = bv p_1.toInt p_2 p_4)) ∧ (r = o_r) ∧ (u = [(b_o, (oc12 u_th u_sa b_rf b_ro b_im b_ke u_fd b_tp u_td u_fr u_to u_so u_wo u_fa u_bd u_nc b_nl u_co b_op b_ar u_le b_pi b_pa u_pd u_od b_ws b_hw u_la b_se b_re o_bk u_va u_su u_ce u_ho u_wy u_bt u_ps b_pt u_tg u_sn b_ip u_ic b_ah b_be b_me u_wd b_tr b_ld u_st b_wn u_id))]))) (g5_B G (va_A [(b_o, (oc12 u_th u_sa b_rf b_ro b_im b_ke u_fd b_tp u_td u_fr u_to u_so u_wo u_fa u_bd u_nc b_nl u_co b_op b_ar u_le b_pi b_pa u_pd u_od b_ws b_hw u_la b_se b_re u_bk u_va u_su u_ce u_ho u_wy u_bt u_ps b_pt u_tg u_sn b_ip u_ic b_ah b_be b_me u_wd b_tr b_ld u_st b_wn u_id))] sz)) (va_A [(b_o, (oc12 u_th u_sa b_rf b_ro b_im b_ke u_fd b_tp u_td u_fr u_to u_so u_wo u_fa u_bd u_nc b_nl u_co b_op b_ar u_le b_pi b_pa u_pd u_od b_ws b_hw u_la b_se b_re u_bk u_va u_su u_ce u_ho u_wy u_bt u_ps b_pt u_tg u_sn b_ip u_ic b_ah b_be b_me u_wd b_tr b_ld u_st b_wn u_id))] sz)) 0 0 (va_A [(b_o, (oc12 u_th u_sa b_rf b_ro b_im b_ke u_fd b_tp u_td u_fr u_to u_so u_wo u_fa u_bd u_nc b_nl u_co b_op b_ar u_le b_pi b_pa u_pd u_od b_ws b_hw u_la b_se b_re u_bk u_va u_su u_ce u_ho u_wy u_bt u_ps b_pt u_tg u_sn b_ip u_ic b_ah b_be b_me u_wd b_tr b_ld u_st b_wn u_id))] sz) := by
  refine Met.ofW (cc := cX12_reckon) (maxL := 6) (ret := (some .long)) (by decide +kernel) rfl ?_
  intro p e s m args below meth c s₁ B hml hv
  obtain ⟨rfl, hsz, hP, hK, hD0, hN, hT⟩ := hv
  have hx := B.exec
  have hb := B.bytes
  have hr := B.returns
  have hts : ∀ w ∈ tblG, w.before _ s = true := fun w h => atoms_spec (ws := (wsG yX12_reckon cX12_reckon 6 (some .long))) B.pre w (List.mem_cons_of_mem _ h)
  have hown : s.vm.findClass RX12 = some m.cls := findClass_of_methodNamed B.named
  have hlocks := B.notSynchronized
  subst hsz
  have hD := hD0.self (sz := s.heap.size)
  generalize hAe : va_A [(b_o, (oc12 u_th u_sa b_rf b_ro b_im b_ke u_fd b_tp u_td u_fr u_to u_so u_wo u_fa u_bd u_nc b_nl u_co b_op b_ar u_le b_pi b_pa u_pd u_od b_ws b_hw u_la b_se b_re u_bk u_va u_su u_ce u_ho u_wy u_bt u_ps b_pt u_tg u_sn b_ip u_ic b_ah b_be b_me u_wd b_tr b_ld u_st b_wn u_id))] s.heap.size = A at hD hT ⊢
  have hA : ∀ q : Nat, s.heap.size ≤ q → A q := fun q h => by rw [← hAe]; exact Or.inr h
  have hS : va_S A s.heap s.heap [] := va_S.rf
  replace hP : va_P G.1 vwCl [(b_o, (oc12 u_th u_sa b_rf b_ro b_im b_ke u_fd b_tp u_td u_fr u_to u_so u_wo u_fa u_bd u_nc b_nl u_co b_op b_ar u_le b_pi b_pa u_pd u_od b_ws b_hw u_la b_se b_re u_bk u_va u_su u_ce u_ho u_wy u_bt u_ps b_pt u_tg u_sn b_ip u_ic b_ah b_be b_me u_wd b_tr b_ld u_st b_wn u_id))] s.heap := hP
  have hl := lv_entry ([.ref b_o, .int p_1, .long p_2, .long p_4]) (n := 6) (Nat.le_of_ble_eq_true rfl)
  rw [lg_entry_eq]
  generalize (lg_sl ([.ref b_o, .int p_1, .long p_2, .long p_4]) ++ List.replicate (6 - (lg_sl ([.ref b_o, .int p_1, .long p_2, .long p_4])).length) Slot.unset).toArray = ls at hl ⊢
  replace hl : lv_has ls 6 [(0, .ref b_o), (1, .int p_1), (2, .long p_2), (4, .long p_4)] := hl
  refine lv_iload_n hx hb dX12_reckon_0 rfl (lv_at hl 1 rfl) ?_
  rcases (show p_1.toInt = 20 ∨ p_1.toInt = 21 ∨ p_1.toInt = 22 ∨ p_1.toInt = 23 ∨ p_1.toInt = 24 ∨ p_1.toInt = 25 ∨ p_1.toInt < 20 ∨ p_1.toInt > 25 by omega) with s_1 | s_1 | s_1 | s_1 | s_1 | s_1 | s_1 | s_1
  ·
    have i_1 : p_1.toInt = 20 := by omega
    refine lv_tableIn (tgt := 40) hx hb dX12_reckon_1 (by omega) (by omega) (by rw [s_1]; rfl) (by decide +kernel) ?_
    refine lv_lload_n hx hb dX12_reckon_40 rfl (lv_at hl 2 rfl) ?_
    refine lv_lload hx hb dX12_reckon_41 (lv_at hl 3 rfl) ?_
    refine lv_ladd hx hb dX12_reckon_43 ?_
    exact W.lret (v := (p_2 + p_4)) hx hb hr (fun t ht hW => ⟨⟨(p_2 + p_4), [(b_o, (oc12 u_th u_sa b_rf b_ro b_im b_ke u_fd b_tp u_td u_fr u_to u_so u_wo u_fa u_bd u_nc b_nl u_co b_op b_ar u_le b_pi b_pa u_pd u_od b_ws b_hw u_la b_se b_re u_bk u_va u_su u_ce u_ho u_wy u_bt u_ps b_pt u_tg u_sn b_ip u_ic b_ah b_be b_me u_wd b_tr b_ld u_st b_wn u_id))], rfl, ⟨(p_2 + p_4), u_bk, h_u_bk, Or.inr ⟨fun q9 => by have q8 := q9.1; omega, by first | decide | omega, (bn_20 (by omega)).symm⟩, rfl, rfl⟩, by rw [ht]; exact hP.sub [0] rfl, hD.sub [0] (by decide +kernel) rfl⟩, hS.F ht⟩) hS.2.2 dX12_reckon_44
  ·
    have i_1 : p_1.toInt = 21 := by omega
    refine lv_tableIn (tgt := 45) hx hb dX12_reckon_1 (by omega) (by omega) (by rw [s_1]; rfl) (by decide +kernel) ?_
    refine lv_lload_n hx hb dX12_reckon_45 rfl (lv_at hl 2 rfl) ?_
    refine lv_lload hx hb dX12_reckon_46 (lv_at hl 3 rfl) ?_
    refine lv_lsub hx hb dX12_reckon_48 ?_
    exact W.lret (v := (p_2 - p_4)) hx hb hr (fun t ht hW => ⟨⟨(p_2 - p_4), [(b_o, (oc12 u_th u_sa b_rf b_ro b_im b_ke u_fd b_tp u_td u_fr u_to u_so u_wo u_fa u_bd u_nc b_nl u_co b_op b_ar u_le b_pi b_pa u_pd u_od b_ws b_hw u_la b_se b_re u_bk u_va u_su u_ce u_ho u_wy u_bt u_ps b_pt u_tg u_sn b_ip u_ic b_ah b_be b_me u_wd b_tr b_ld u_st b_wn u_id))], rfl, ⟨(p_2 - p_4), u_bk, h_u_bk, Or.inr ⟨fun q9 => by have q8 := q9.1; omega, by first | decide | omega, (bn_21 (by omega)).symm⟩, rfl, rfl⟩, by rw [ht]; exact hP.sub [0] rfl, hD.sub [0] (by decide +kernel) rfl⟩, hS.F ht⟩) hS.2.2 dX12_reckon_49
  ·
    have i_1 : p_1.toInt = 22 := by omega
    refine lv_tableIn (tgt := 50) hx hb dX12_reckon_1 (by omega) (by omega) (by rw [s_1]; rfl) (by decide +kernel) ?_
    refine lv_lload_n hx hb dX12_reckon_50 rfl (lv_at hl 2 rfl) ?_
    refine lv_lload hx hb dX12_reckon_51 (lv_at hl 3 rfl) ?_
    refine lv_lmul hx hb dX12_reckon_53 ?_
    exact W.lret (v := (p_2 * p_4)) hx hb hr (fun t ht hW => ⟨⟨(p_2 * p_4), [(b_o, (oc12 u_th u_sa b_rf b_ro b_im b_ke u_fd b_tp u_td u_fr u_to u_so u_wo u_fa u_bd u_nc b_nl u_co b_op b_ar u_le b_pi b_pa u_pd u_od b_ws b_hw u_la b_se b_re u_bk u_va u_su u_ce u_ho u_wy u_bt u_ps b_pt u_tg u_sn b_ip u_ic b_ah b_be b_me u_wd b_tr b_ld u_st b_wn u_id))], rfl, ⟨(p_2 * p_4), u_bk, h_u_bk, Or.inr ⟨fun q9 => by have q8 := q9.1; omega, by first | decide | omega, (bn_22 (by omega)).symm⟩, rfl, rfl⟩, by rw [ht]; exact hP.sub [0] rfl, hD.sub [0] (by decide +kernel) rfl⟩, hS.F ht⟩) hS.2.2 dX12_reckon_54
  ·
    have i_1 : p_1.toInt = 23 := by omega
    refine lv_tableIn (tgt := 55) hx hb dX12_reckon_1 (by omega) (by omega) (by rw [s_1]; rfl) (by decide +kernel) ?_
    refine lv_aload_n hx hb dX12_reckon_55 rfl (lv_at hl 0 rfl) ?_
    refine lv_lload hx hb dX12_reckon_56 (lv_at hl 3 rfl) ?_
    refine lv_lconst (v := 0) hx hb dX12_reckon_58 (by decide +kernel) ?_
    have tl_2 : (0 : Int64).toInt = 0 := (by decide +kernel)
    have tc_3 := g5_cmpI p_4 (0 : Int64)
    refine W.lcmp hx hb dX12_reckon_59 ?_
    refine W.eq (g2 := F0 m 60 ls [.int (lg_cmp p_4 0), .ref b_o]) rfl ?_
    refine lv_if_ne (tgt := 67) hx hb dX12_reckon_60 (by decide +kernel) (fun c_4 => ?_) (fun c_4 => ?_)
    ·
      have n_4 : gNe ((lg_cmp p_4 0).toInt) (0) := g5_ne (a := (lg_cmp p_4 0).toInt) (b := 0) rfl (by decide +kernel) c_4
      refine lv_iconst (v := 0) hx hb dX12_reckon_67 (by decide +kernel) ?_
      refine va_put (D := G.1) (ci := 12) (v := .int 0) (ty := .boolean) (C := RX12) (T := TX12) (N := 52) hx hb hts inG_X12 tyX12 tyX12_ok nmX12 hown hK hP hD hS 0 rfl rfl 30 (by decide +kernel) (hts _ fl_X12_326) (fun _ h9 => h9) rfl (by decide +kernel) rfl rfl (Nat.le_of_ble_eq_true rfl) dX12_reckon_68 ?_
      clear hP hD hS
      intro H locs hP hD hS
      refine g5_rs [(b_o, (oc12 u_th u_sa b_rf b_ro b_im b_ke u_fd b_tp u_td u_fr u_to u_so u_wo u_fa u_bd u_nc b_nl u_co b_op b_ar u_le b_pi b_pa u_pd u_od b_ws b_hw u_la b_se b_re 0 u_va u_su u_ce u_ho u_wy u_bt u_ps b_pt u_tg u_sn b_ip u_ic b_ah b_be b_me u_wd b_tr b_ld u_st b_wn u_id))] hP hD ?_
      clear hP hD
      intro hP hD
      refine lv_aload_n hx hb dX12_reckon_71 rfl (lv_at hl 0 rfl) ?_
      refine va_get (D := G.1) (ci := 12) (v := .int 0) (C := RX12) (T := TX12) (N := 52) hx hb hts inG_X12 hown hK hP 0 rfl rfl 30 (by decide +kernel) (hts _ fl_X12_326) (fun _ h9 => h9) rfl dX12_reckon_72 ?_
      refine W.eq (g2 := F0 m 75 ls [.int 0]) rfl ?_
      refine lv_if_eq (tgt := 82) hx hb dX12_reckon_75 (by decide +kernel) (fun c_5 => ?_) (fun c_5 => ?_)
      ·
        refine lv_lload_n hx hb dX12_reckon_82 rfl (lv_at hl 2 rfl) ?_
        refine lv_lload hx hb dX12_reckon_83 (lv_at hl 3 rfl) ?_
        refine lv_ldiv hx hb dX12_reckon_85 (g5_cmp1 n_4) ?_
        exact W.lret (v := (p_2 / p_4)) hx hb hr (fun t ht hW => ⟨⟨(p_2 / p_4), [(b_o, (oc12 u_th u_sa b_rf b_ro b_im b_ke u_fd b_tp u_td u_fr u_to u_so u_wo u_fa u_bd u_nc b_nl u_co b_op b_ar u_le b_pi b_pa u_pd u_od b_ws b_hw u_la b_se b_re 0 u_va u_su u_ce u_ho u_wy u_bt u_ps b_pt u_tg u_sn b_ip u_ic b_ah b_be b_me u_wd b_tr b_ld u_st b_wn u_id))], rfl, ⟨(p_2 / p_4), 0, ⟨by have zc_o_bk : (0 : Int32).toInt = 0 := (by decide +kernel); omega, by have zc_o_bk : (0 : Int32).toInt = 0 := (by decide +kernel); omega⟩, Or.inr ⟨fun q9 => ne_z (by first | omega | (unfold gNe at *; omega)) q9.2, by first | decide | omega, (bn_23 (by omega)).symm⟩, rfl, rfl⟩, by rw [ht]; exact hP.sub [0] rfl, hD.sub [0] (by decide +kernel) rfl⟩, hS.F ht⟩) hS.2.2 dX12_reckon_86
      ·
        exact absurd c_5 (by decide +kernel)
    ·
      have i_4 : (lg_cmp p_4 0).toInt = 0 := g5_neN (a := (lg_cmp p_4 0).toInt) (b := 0) rfl (by decide +kernel) c_4
      refine lv_iconst (v := 1) hx hb dX12_reckon_63 (by decide +kernel) ?_
      refine lv_goto (tgt := 68) hx hb dX12_reckon_64 (by decide +kernel) ?_
      refine va_put (D := G.1) (ci := 12) (v := .int 1) (ty := .boolean) (C := RX12) (T := TX12) (N := 52) hx hb hts inG_X12 tyX12 tyX12_ok nmX12 hown hK hP hD hS 0 rfl rfl 30 (by decide +kernel) (hts _ fl_X12_326) (fun _ h9 => h9) rfl (by decide +kernel) rfl rfl (Nat.le_of_ble_eq_true rfl) dX12_reckon_68 ?_
      clear hP hD hS
      intro H locs hP hD hS
      refine g5_rs [(b_o, (oc12 u_th u_sa b_rf b_ro b_im b_ke u_fd b_tp u_td u_fr u_to u_so u_wo u_fa u_bd u_nc b_nl u_co b_op b_ar u_le b_pi b_pa u_pd u_od b_ws b_hw u_la b_se b_re 1 u_va u_su u_ce u_ho u_wy u_bt u_ps b_pt u_tg u_sn b_ip u_ic b_ah b_be b_me u_wd b_tr b_ld u_st b_wn u_id))] hP hD ?_
      clear hP hD
      intro hP hD
      refine lv_aload_n hx hb dX12_reckon_71 rfl (lv_at hl 0 rfl) ?_
      refine W.eq (g2 := F0 m 72 ls [.ref b_o]) rfl ?_
      refine va_get (D := G.1) (ci := 12) (v := .int 1) (C := RX12) (T := TX12) (N := 52) hx hb hts inG_X12 hown hK hP 0 rfl rfl 30 (by decide +kernel) (hts _ fl_X12_326) (fun _ h9 => h9) rfl dX12_reckon_72 ?_
      refine lv_if_eq (tgt := 82) hx hb dX12_reckon_75 (by decide +kernel) (fun c_6 => ?_) (fun c_6 => ?_)
      ·
        exact absurd c_6 (by decide +kernel)
      ·
        refine lv_lconst (v := 0) hx hb dX12_reckon_78 (by decide +kernel) ?_
        refine lv_goto (tgt := 86) hx hb dX12_reckon_79 (by decide +kernel) ?_
        exact W.lret (v := 0) hx hb hr (fun t ht hW => ⟨⟨0, [(b_o, (oc12 u_th u_sa b_rf b_ro b_im b_ke u_fd b_tp u_td u_fr u_to u_so u_wo u_fa u_bd u_nc b_nl u_co b_op b_ar u_le b_pi b_pa u_pd u_od b_ws b_hw u_la b_se b_re 1 u_va u_su u_ce u_ho u_wy u_bt u_ps b_pt u_tg u_sn b_ip u_ic b_ah b_be b_me u_wd b_tr b_ld u_st b_wn u_id))], rfl, ⟨0, 1, ⟨by have zc_o_bk : (1 : Int32).toInt = 1 := (by decide +kernel); omega, by have zc_o_bk : (1 : Int32).toInt = 1 := (by decide +kernel); omega⟩, Or.inl ⟨by omega, eq_z (by omega), by first | decide | omega⟩, rfl, rfl⟩, by rw [ht]; exact hP.sub [0] rfl, hD.sub [0] (by decide +kernel) rfl⟩, hS.F ht⟩) hS.2.2 dX12_reckon_86
  ·
    have i_1 : p_1.toInt = 24 := by omega
    refine lv_tableIn (tgt := 87) hx hb dX12_reckon_1 (by omega) (by omega) (by rw [s_1]; rfl) (by decide +kernel) ?_
    refine lv_lload_n hx hb dX12_reckon_87 rfl (lv_at hl 2 rfl) ?_
    refine lv_lload hx hb dX12_reckon_88 (lv_at hl 3 rfl) ?_
    have tc_7 := g5_cmpI p_2 p_4
    refine W.lcmp hx hb dX12_reckon_90 ?_
    refine lv_if_ge (tgt := 98) hx hb dX12_reckon_91 (by decide +kernel) (fun c_8 => ?_) (fun c_8 => ?_)
    ·
      have i_8 : (lg_cmp p_2 p_4).toInt ≥ 0 := g5_ge (a := (lg_cmp p_2 p_4).toInt) (b := 0) rfl (by decide +kernel) c_8
      refine lv_lconst (v := 0) hx hb dX12_reckon_98 (by decide +kernel) ?_
      exact W.lret (v := 0) hx hb hr (fun t ht hW => ⟨⟨0, [(b_o, (oc12 u_th u_sa b_rf b_ro b_im b_ke u_fd b_tp u_td u_fr u_to u_so u_wo u_fa u_bd u_nc b_nl u_co b_op b_ar u_le b_pi b_pa u_pd u_od b_ws b_hw u_la b_se b_re u_bk u_va u_su u_ce u_ho u_wy u_bt u_ps b_pt u_tg u_sn b_ip u_ic b_ah b_be b_me u_wd b_tr b_ld u_st b_wn u_id))], rfl, ⟨0, u_bk, h_u_bk, Or.inr ⟨fun q9 => by have q8 := q9.1; omega, by first | decide | omega, (bv_lt0 (by omega) (by omega)).symm⟩, rfl, rfl⟩, by rw [ht]; exact hP.sub [0] rfl, hD.sub [0] (by decide +kernel) rfl⟩, hS.F ht⟩) hS.2.2 dX12_reckon_99
    ·
      have i_8 : (lg_cmp p_2 p_4).toInt < 0 := g5_geN (a := (lg_cmp p_2 p_4).toInt) (b := 0) rfl (by decide +kernel) c_8
      refine lv_lconst (v := 1) hx hb dX12_reckon_94 (by decide +kernel) ?_
      refine lv_goto (tgt := 99) hx hb dX12_reckon_95 (by decide +kernel) ?_
      exact W.lret (v := 1) hx hb hr (fun t ht hW => ⟨⟨1, [(b_o, (oc12 u_th u_sa b_rf b_ro b_im b_ke u_fd b_tp u_td u_fr u_to u_so u_wo u_fa u_bd u_nc b_nl u_co b_op b_ar u_le b_pi b_pa u_pd u_od b_ws b_hw u_la b_se b_re u_bk u_va u_su u_ce u_ho u_wy u_bt u_ps b_pt u_tg u_sn b_ip u_ic b_ah b_be b_me u_wd b_tr b_ld u_st b_wn u_id))], rfl, ⟨1, u_bk, h_u_bk, Or.inr ⟨fun q9 => by have q8 := q9.1; omega, by first | decide | omega, (bv_lt1 (by omega) (by omega)).symm⟩, rfl, rfl⟩, by rw [ht]; exact hP.sub [0] rfl, hD.sub [0] (by decide +kernel) rfl⟩, hS.F ht⟩) hS.2.2 dX12_reckon_99
  ·
    have i_1 : p_1.toInt = 25 := by omega
    refine lv_tableIn (tgt := 100) hx hb dX12_reckon_1 (by omega) (by omega) (by rw [s_1]; rfl) (by decide +kernel) ?_
    refine lv_lload_n hx hb dX12_reckon_100 rfl (lv_at hl 2 rfl) ?_
    refine lv_lload hx hb dX12_reckon_101 (lv_at hl 3 rfl) ?_
    have tc_9 := g5_cmpI p_2 p_4
    refine W.lcmp hx hb dX12_reckon_103 ?_
    refine lv_if_le (tgt := 111) hx hb dX12_reckon_104 (by decide +kernel) (fun c_10 => ?_) (fun c_10 => ?_)
    ·
      have i_10 : (lg_cmp p_2 p_4).toInt ≤ 0 := g5_le (a := (lg_cmp p_2 p_4).toInt) (b := 0) rfl (by decide +kernel) c_10
      refine lv_lconst (v := 0) hx hb dX12_reckon_111 (by decide +kernel) ?_
      exact W.lret (v := 0) hx hb hr (fun t ht hW => ⟨⟨0, [(b_o, (oc12 u_th u_sa b_rf b_ro b_im b_ke u_fd b_tp u_td u_fr u_to u_so u_wo u_fa u_bd u_nc b_nl u_co b_op b_ar u_le b_pi b_pa u_pd u_od b_ws b_hw u_la b_se b_re u_bk u_va u_su u_ce u_ho u_wy u_bt u_ps b_pt u_tg u_sn b_ip u_ic b_ah b_be b_me u_wd b_tr b_ld u_st b_wn u_id))], rfl, ⟨0, u_bk, h_u_bk, Or.inr ⟨fun q9 => by have q8 := q9.1; omega, by first | decide | omega, (bv_gt0 (by omega) (by omega)).symm⟩, rfl, rfl⟩, by rw [ht]; exact hP.sub [0] rfl, hD.sub [0] (by decide +kernel) rfl⟩, hS.F ht⟩) hS.2.2 dX12_reckon_112
    ·
      have i_10 : (lg_cmp p_2 p_4).toInt > 0 := g5_leN (a := (lg_cmp p_2 p_4).toInt) (b := 0) rfl (by decide +kernel) c_10
      refine lv_lconst (v := 1) hx hb dX12_reckon_107 (by decide +kernel) ?_
      refine lv_goto (tgt := 112) hx hb dX12_reckon_108 (by decide +kernel) ?_
      exact W.lret (v := 1) hx hb hr (fun t ht hW => ⟨⟨1, [(b_o, (oc12 u_th u_sa b_rf b_ro b_im b_ke u_fd b_tp u_td u_fr u_to u_so u_wo u_fa u_bd u_nc b_nl u_co b_op b_ar u_le b_pi b_pa u_pd u_od b_ws b_hw u_la b_se b_re u_bk u_va u_su u_ce u_ho u_wy u_bt u_ps b_pt u_tg u_sn b_ip u_ic b_ah b_be b_me u_wd b_tr b_ld u_st b_wn u_id))], rfl, ⟨1, u_bk, h_u_bk, Or.inr ⟨fun q9 => by have q8 := q9.1; omega, by first | decide | omega, (bv_gt1 (by omega) (by omega)).symm⟩, rfl, rfl⟩, by rw [ht]; exact hP.sub [0] rfl, hD.sub [0] (by decide +kernel) rfl⟩, hS.F ht⟩) hS.2.2 dX12_reckon_112
  ·
    have i_1 : p_1.toInt < 20 := by omega
    refine lv_tableOut (tgt := 113) hx hb dX12_reckon_1 (by omega) (by decide +kernel) ?_
    refine lv_lload_n hx hb dX12_reckon_113 rfl (lv_at hl 2 rfl) ?_
    refine lv_lload hx hb dX12_reckon_114 (lv_at hl 3 rfl) ?_
    have tc_11 := g5_cmpI p_2 p_4
    refine W.lcmp hx hb dX12_reckon_116 ?_
    refine lv_if_ne (tgt := 124) hx hb dX12_reckon_117 (by decide +kernel) (fun c_12 => ?_) (fun c_12 => ?_)
    ·
      have n_12 : gNe ((lg_cmp p_2 p_4).toInt) (0) := g5_ne (a := (lg_cmp p_2 p_4).toInt) (b := 0) rfl (by decide +kernel) c_12
      refine lv_lconst (v := 0) hx hb dX12_reckon_124 (by decide +kernel) ?_
      exact W.lret (v := 0) hx hb hr (fun t ht hW => ⟨⟨0, [(b_o, (oc12 u_th u_sa b_rf b_ro b_im b_ke u_fd b_tp u_td u_fr u_to u_so u_wo u_fa u_bd u_nc b_nl u_co b_op b_ar u_le b_pi b_pa u_pd u_od b_ws b_hw u_la b_se b_re u_bk u_va u_su u_ce u_ho u_wy u_bt u_ps b_pt u_tg u_sn b_ip u_ic b_ah b_be b_me u_wd b_tr b_ld u_st b_wn u_id))], rfl, ⟨0, u_bk, h_u_bk, Or.inr ⟨fun q9 => by have q8 := q9.1; omega, by first | decide | omega, (bn_e0 (by omega) (by first | omega | (unfold gNe at *; omega))).symm⟩, rfl, rfl⟩, by rw [ht]; exact hP.sub [0] rfl, hD.sub [0] (by decide +kernel) rfl⟩, hS.F ht⟩) hS.2.2 dX12_reckon_125
    ·
      have i_12 : (lg_cmp p_2 p_4).toInt = 0 := g5_neN (a := (lg_cmp p_2 p_4).toInt) (b := 0) rfl (by decide +kernel) c_12
      refine lv_lconst (v := 1) hx hb dX12_reckon_120 (by decide +kernel) ?_
      refine lv_goto (tgt := 125) hx hb dX12_reckon_121 (by decide +kernel) ?_
      exact W.lret (v := 1) hx hb hr (fun t ht hW => ⟨⟨1, [(b_o, (oc12 u_th u_sa b_rf b_ro b_im b_ke u_fd b_tp u_td u_fr u_to u_so u_wo u_fa u_bd u_nc b_nl u_co b_op b_ar u_le b_pi b_pa u_pd u_od b_ws b_hw u_la b_se b_re u_bk u_va u_su u_ce u_ho u_wy u_bt u_ps b_pt u_tg u_sn b_ip u_ic b_ah b_be b_me u_wd b_tr b_ld u_st b_wn u_id))], rfl, ⟨1, u_bk, h_u_bk, Or.inr ⟨fun q9 => by have q8 := q9.1; omega, by first | decide | omega, (bn_e1 (by omega) (by first | omega | (unfold gNe at *; omega))).symm⟩, rfl, rfl⟩, by rw [ht]; exact hP.sub [0] rfl, hD.sub [0] (by decide +kernel) rfl⟩, hS.F ht⟩) hS.2.2 dX12_reckon_125
  ·
    have i_1 : p_1.toInt > 25 := by omega
    refine lv_tableOut (tgt := 113) hx hb dX12_reckon_1 (by omega) (by decide +kernel) ?_
    refine lv_lload_n hx hb dX12_reckon_113 rfl (lv_at hl 2 rfl) ?_
    refine lv_lload hx hb dX12_reckon_114 (lv_at hl 3 rfl) ?_
    have tc_13 := g5_cmpI p_2 p_4
    refine W.lcmp hx hb dX12_reckon_116 ?_
    refine lv_if_ne (tgt := 124) hx hb dX12_reckon_117 (by decide +kernel) (fun c_14 => ?_) (fun c_14 => ?_)
    ·
      have n_14 : gNe ((lg_cmp p_2 p_4).toInt) (0) := g5_ne (a := (lg_cmp p_2 p_4).toInt) (b := 0) rfl (by decide +kernel) c_14
      refine lv_lconst (v := 0) hx hb dX12_reckon_124 (by decide +kernel) ?_
      exact W.lret (v := 0) hx hb hr (fun t ht hW => ⟨⟨0, [(b_o, (oc12 u_th u_sa b_rf b_ro b_im b_ke u_fd b_tp u_td u_fr u_to u_so u_wo u_fa u_bd u_nc b_nl u_co b_op b_ar u_le b_pi b_pa u_pd u_od b_ws b_hw u_la b_se b_re u_bk u_va u_su u_ce u_ho u_wy u_bt u_ps b_pt u_tg u_sn b_ip u_ic b_ah b_be b_me u_wd b_tr b_ld u_st b_wn u_id))], rfl, ⟨0, u_bk, h_u_bk, Or.inr ⟨fun q9 => by have q8 := q9.1; omega, by first | decide | omega, (bn_e0 (by omega) (by first | omega | (unfold gNe at *; omega))).symm⟩, rfl, rfl⟩, by rw [ht]; exact hP.sub [0] rfl, hD.sub [0] (by decide +kernel) rfl⟩, hS.F ht⟩) hS.2.2 dX12_reckon_125
    ·
      have i_14 : (lg_cmp p_2 p_4).toInt = 0 := g5_neN (a := (lg_cmp p_2 p_4).toInt) (b := 0) rfl (by decide +kernel) c_14
      refine lv_lconst (v := 1) hx hb dX12_reckon_120 (by decide +kernel) ?_
      refine lv_goto (tgt := 125) hx hb dX12_reckon_121 (by decide +kernel) ?_
      exact W.lret (v := 1) hx hb hr (fun t ht hW => ⟨⟨1, [(b_o, (oc12 u_th u_sa b_rf b_ro b_im b_ke u_fd b_tp u_td u_fr u_to u_so u_wo u_fa u_bd u_nc b_nl u_co b_op b_ar u_le b_pi b_pa u_pd u_od b_ws b_hw u_la b_se b_re u_bk u_va u_su u_ce u_ho u_wy u_bt u_ps b_pt u_tg u_sn b_ip u_ic b_ah b_be b_me u_wd b_tr b_ld u_st b_wn u_id))], rfl, ⟨1, u_bk, h_u_bk, Or.inr ⟨fun q9 => by have q8 := q9.1; omega, by first | decide | omega, (bn_e1 (by omega) (by first | omega | (unfold gNe at *; omega))).symm⟩, rfl, rfl⟩, by rw [ht]; exact hP.sub [0] rfl, hD.sub [0] (by decide +kernel) rfl⟩, hS.F ht⟩) hS.2.2 dX12_reckon_125
set_option maxHeartbeats 4000000 in
set_option maxRecDepth 100000 in
theorem n_reckonAllX (l : Launch) (G : g5_G) (b_o b_ro b_se b_re b_rf b_im b_ke b_tp b_nl b_op b_ar b_pi b_pa b_ws b_hw b_pt b_ip b_ah b_be b_me b_tr b_ld b_wn : Nat) (sz : Nat) (u_th : Int32) (u_sa : Int32) (u_fd : Int32) (u_td : Int32) (u_fr : Int32) (u_to : Int32) (u_so : Int32) (u_fa : Int32) (u_bd : Int32) (u_nc : Int32) (u_co : Int32) (u_le : Int32) (u_pd : Int32) (u_od : Int32) (u_la : Int32) (u_bk : Int32) (u_ce : Int32) (u_ho : Int32) (u_wy : Int32) (u_bt : Int32) (u_ps : Int32) (u_tg : Int32) (u_sn : Int32) (u_ic : Int32) (u_wd : Int32) (u_id : Int32) (p_1 : Int32) (p_2 : Int32) (u_wo : Int64) (u_va : Int64) (u_su : Int64) (u_st : Int64) (v_ro : Nat → Int32) (v_se : Nat → Int64) (v_re : Nat → Int64) (g_q : Nat → Int64) (h_u_td : 0 ≤ u_td.toInt ∧ u_td.toInt ≤ 400) (h_u_fr : 0 ≤ u_fr.toInt ∧ u_fr.toInt ≤ 400) (h_u_to : 0 ≤ u_to.toInt ∧ u_to.toInt ≤ 400) (h_u_bd : 0 ≤ u_bd.toInt ∧ u_bd.toInt ≤ 1) (h_u_nc : 0 ≤ u_nc.toInt ∧ u_nc.toInt ≤ 12) (h_u_co : 0 ≤ u_co.toInt ∧ u_co.toInt ≤ 400) (h_u_pd : 0 ≤ u_pd.toInt ∧ u_pd.toInt ≤ 400) (h_u_la : 0 ≤ u_la.toInt ∧ u_la.toInt ≤ 4840) (h_u_bk : 0 ≤ u_bk.toInt ∧ u_bk.toInt ≤ 1) (h_u_ce : 0 ≤ u_ce.toInt ∧ u_ce.toInt ≤ 63) (h_u_ho : 0 ≤ u_ho.toInt ∧ u_ho.toInt ≤ 23) (h_u_wy : 0 ≤ u_wy.toInt ∧ u_wy.toInt ≤ 3) (h_u_bt : 0 ≤ u_bt.toInt ∧ u_bt.toInt ≤ 1000000) (h_u_ps : 0 ≤ u_ps.toInt ∧ u_ps.toInt ≤ 200) (h_u_ic : 0 ≤ u_ic.toInt ∧ u_ic.toInt ≤ 1) (h_u_id : 0 ≤ u_id.toInt ∧ u_id.toInt ≤ 1) (h_p_1 : 0 ≤ p_1.toInt ∧ p_1.toInt ≤ 400) (h_p_2 : 0 ≤ p_2.toInt ∧ p_2.toInt ≤ 400) (r_ro : MI v_ro) (e_cd : cdOK v_ro (u_la.toNatClampNeg + 98) p_1.toInt p_2.toInt) (e_gq : ∀ j : Nat, j < 8 → g_q j = v_se (j + 1)) : Met l yX12_reckonAll (wsG yX12_reckonAll cX12_reckonAll 7 none) ({ frames := 1, cells := 0, slots := 0, locals := 25 }) (va_Pc [.ref b_o, .int p_1, .int p_2] (g5_P G [(b_o, (oc12 u_th u_sa b_rf b_ro b_im b_ke u_fd b_tp u_td u_fr u_to u_so u_wo u_fa u_bd u_nc b_nl u_co b_op b_ar u_le b_pi b_pa u_pd u_od b_ws b_hw u_la b_se b_re u_bk u_va u_su u_ce u_ho u_wy u_bt u_ps b_pt u_tg u_sn b_ip u_ic b_ah b_be b_me u_wd b_tr b_ld u_st b_wn u_id)), (b_ro, (arI G 5740 v_ro)), (b_se, (arJ G 13 v_se)), (b_re, (arJ G 400 v_re))] sz)) (va_Qv (fun (u : va_W) => (∃ (o_bk : Int32) (o_va : Int64) (o_re : Nat → Int64), (0 ≤ o_bk.toInt ∧ o_bk.toInt ≤ 1) ∧ (RKM (fun j => v_ro (u_la.toNatClampNeg + 98 + 2 * j)) (fun j => v_ro (u_la.toNatClampNeg + 98 + 2 * j + 1)) g_q p_1.toInt.toNat p_2.toInt.toNat v_re o_bk o_va) ∧ (u = [(b_o, (oc12 u_th u_sa b_rf b_ro b_im b_ke u_fd b_tp u_td u_fr u_to u_so u_wo u_fa u_bd u_nc b_nl u_co b_op b_ar u_le b_pi b_pa u_pd u_od b_ws b_hw u_la b_se b_re o_bk o_va u_su u_ce u_ho u_wy u_bt u_ps b_pt u_tg u_sn b_ip u_ic b_ah b_be b_me u_wd b_tr b_ld u_st b_wn u_id)), (b_ro, (arI G 5740 v_ro)), (b_se, (arJ G 13 v_se)), (b_re, (arJ G 400 o_re))]))) (g5_B G (va_A [(b_o, (oc12 u_th u_sa b_rf b_ro b_im b_ke u_fd b_tp u_td u_fr u_to u_so u_wo u_fa u_bd u_nc b_nl u_co b_op b_ar u_le b_pi b_pa u_pd u_od b_ws b_hw u_la b_se b_re u_bk u_va u_su u_ce u_ho u_wy u_bt u_ps b_pt u_tg u_sn b_ip u_ic b_ah b_be b_me u_wd b_tr b_ld u_st b_wn u_id)), (b_ro, (arI G 5740 v_ro)), (b_se, (arJ G 13 v_se)), (b_re, (arJ G 400 v_re))] sz)) (va_A [(b_o, (oc12 u_th u_sa b_rf b_ro b_im b_ke u_fd b_tp u_td u_fr u_to u_so u_wo u_fa u_bd u_nc b_nl u_co b_op b_ar u_le b_pi b_pa u_pd u_od b_ws b_hw u_la b_se b_re u_bk u_va u_su u_ce u_ho u_wy u_bt u_ps b_pt u_tg u_sn b_ip u_ic b_ah b_be b_me u_wd b_tr b_ld u_st b_wn u_id)), (b_ro, (arI G 5740 v_ro)), (b_se, (arJ G 13 v_se)), (b_re, (arJ G 400 v_re))] sz)) 0 0 (va_A [(b_o, (oc12 u_th u_sa b_rf b_ro b_im b_ke u_fd b_tp u_td u_fr u_to u_so u_wo u_fa u_bd u_nc b_nl u_co b_op b_ar u_le b_pi b_pa u_pd u_od b_ws b_hw u_la b_se b_re u_bk u_va u_su u_ce u_ho u_wy u_bt u_ps b_pt u_tg u_sn b_ip u_ic b_ah b_be b_me u_wd b_tr b_ld u_st b_wn u_id)), (b_ro, (arI G 5740 v_ro)), (b_se, (arJ G 13 v_se)), (b_re, (arJ G 400 v_re))] sz) := by
  refine Met.ofW (cc := cX12_reckonAll) (maxL := 7) (ret := none) (by decide +kernel) rfl ?_
  intro p e s m args below meth c s₁ B hml hv
  obtain ⟨rfl, hsz, hP, hK, hD0, hN, hT⟩ := hv
  have hx := B.exec
  have hb := B.bytes
  have hr := B.returns
  have hts : ∀ w ∈ tblG, w.before _ s = true := fun w h => atoms_spec (ws := (wsG yX12_reckonAll cX12_reckonAll 7 none)) B.pre w (List.mem_cons_of_mem _ h)
  have hown : s.vm.findClass RX12 = some m.cls := findClass_of_methodNamed B.named
  have hlocks := B.notSynchronized
  subst hsz
  have hD := hD0.self (sz := s.heap.size)
  generalize hAe : va_A [(b_o, (oc12 u_th u_sa b_rf b_ro b_im b_ke u_fd b_tp u_td u_fr u_to u_so u_wo u_fa u_bd u_nc b_nl u_co b_op b_ar u_le b_pi b_pa u_pd u_od b_ws b_hw u_la b_se b_re u_bk u_va u_su u_ce u_ho u_wy u_bt u_ps b_pt u_tg u_sn b_ip u_ic b_ah b_be b_me u_wd b_tr b_ld u_st b_wn u_id)), (b_ro, (arI G 5740 v_ro)), (b_se, (arJ G 13 v_se)), (b_re, (arJ G 400 v_re))] s.heap.size = A at hD hT ⊢
  have hA : ∀ q : Nat, s.heap.size ≤ q → A q := fun q h => by rw [← hAe]; exact Or.inr h
  have hS : va_S A s.heap s.heap [] := va_S.rf
  replace hP : va_P G.1 vwCl [(b_o, (oc12 u_th u_sa b_rf b_ro b_im b_ke u_fd b_tp u_td u_fr u_to u_so u_wo u_fa u_bd u_nc b_nl u_co b_op b_ar u_le b_pi b_pa u_pd u_od b_ws b_hw u_la b_se b_re u_bk u_va u_su u_ce u_ho u_wy u_bt u_ps b_pt u_tg u_sn b_ip u_ic b_ah b_be b_me u_wd b_tr b_ld u_st b_wn u_id)), (b_ro, (arI G 5740 v_ro)), (b_se, (arJ G 13 v_se)), (b_re, (arJ G 400 v_re))] s.heap := hP
  have hl := lv_entry ([.ref b_o, .int p_1, .int p_2]) (n := 7) (Nat.le_of_ble_eq_true rfl)
  rw [lg_entry_eq]
  generalize (lg_sl ([.ref b_o, .int p_1, .int p_2]) ++ List.replicate (7 - (lg_sl ([.ref b_o, .int p_1, .int p_2])).length) Slot.unset).toArray = ls at hl ⊢
  replace hl : lv_has ls 7 [(0, .ref b_o), (1, .int p_1), (2, .int p_2)] := hl
  obtain ⟨hh, hh0, hh1⟩ := id e_cd
  refine lv_aload_n hx hb dX12_reckonAll_0 rfl (lv_at hl 0 rfl) ?_
  refine lv_iconst (v := 0) hx hb dX12_reckonAll_1 (by decide +kernel) ?_
  refine va_put (D := G.1) (ci := 12) (v := .int 0) (ty := .boolean) (C := RX12) (T := TX12) (N := 52) hx hb hts inG_X12 tyX12 tyX12_ok nmX12 hown hK hP hD hS 0 rfl rfl 30 (by decide +kernel) (hts _ fl_X12_326) (fun _ h9 => h9) rfl (by decide +kernel) rfl rfl (Nat.le_of_ble_eq_true rfl) dX12_reckonAll_2 ?_
  clear hP hD hS
  intro H locs hP hD hS
  refine g5_rs [(b_o, (oc12 u_th u_sa b_rf b_ro b_im b_ke u_fd b_tp u_td u_fr u_to u_so u_wo u_fa u_bd u_nc b_nl u_co b_op b_ar u_le b_pi b_pa u_pd u_od b_ws b_hw u_la b_se b_re 0 u_va u_su u_ce u_ho u_wy u_bt u_ps b_pt u_tg u_sn b_ip u_ic b_ah b_be b_me u_wd b_tr b_ld u_st b_wn u_id)), (b_ro, (arI G 5740 v_ro)), (b_se, (arJ G 13 v_se)), (b_re, (arJ G 400 v_re))] hP hD ?_
  clear hP hD
  intro hP hD
  refine lv_iconst (v := 0) hx hb dX12_reckonAll_5 (by decide +kernel) ?_
  refine W.eq (g2 := F0 m 6 ls [.int 0]) rfl ?_
  refine lv_istore_n (lv' := [(3, .int 0), (0, .ref b_o), (1, .int p_1), (2, .int p_2)]) hx hb dX12_reckonAll_6 rfl hl (by decide +kernel) rfl ?_
  clear hl
  intro ls hl
  refine lv_iload_n hx hb dX12_reckonAll_7 rfl (lv_at hl 2 rfl) ?_
  refine lv_istore (lv' := [(4, .int p_1), (3, .int 0), (0, .ref b_o), (1, .int p_1), (2, .int p_2)]) hx hb dX12_reckonAll_8 hl (by decide +kernel) rfl ?_
  clear hl
  intro ls hl
  refine g5_loop (α := (Int32) × (Int32) × (Int32) × (Nat → Int64)) (fun (q : (Int32) × (Int32) × (Int32) × (Nat → Int64)) (ls : Array Slot) (H : Heap) (locs : List Loc) => match q with | (k10_4, k10_3, k10_bk, k10_re) => lv_has ls 7 [(3, .int k10_3), (4, .int k10_4), (0, .ref b_o), (1, .int p_1), (2, .int p_2)] ∧ va_P G.1 vwCl [(b_o, (oc12 u_th u_sa b_rf b_ro b_im b_ke u_fd b_tp u_td u_fr u_to u_so u_wo u_fa u_bd u_nc b_nl u_co b_op b_ar u_le b_pi b_pa u_pd u_od b_ws b_hw u_la b_se b_re k10_bk u_va u_su u_ce u_ho u_wy u_bt u_ps b_pt u_tg u_sn b_ip u_ic b_ah b_be b_me u_wd b_tr b_ld u_st b_wn u_id)), (b_ro, (arI G 5740 v_ro)), (b_se, (arJ G 13 v_se)), (b_re, (arJ G 400 k10_re))] H ∧ va_D A [(b_o, (oc12 u_th u_sa b_rf b_ro b_im b_ke u_fd b_tp u_td u_fr u_to u_so u_wo u_fa u_bd u_nc b_nl u_co b_op b_ar u_le b_pi b_pa u_pd u_od b_ws b_hw u_la b_se b_re k10_bk u_va u_su u_ce u_ho u_wy u_bt u_ps b_pt u_tg u_sn b_ip u_ic b_ah b_be b_me u_wd b_tr b_ld u_st b_wn u_id)), (b_ro, (arI G 5740 v_ro)), (b_se, (arJ G 13 v_se)), (b_re, (arJ G 400 k10_re))] ∧ va_S A s.heap H locs ∧ (0 ≤ k10_4.toInt ∧ k10_4.toInt ≤ 400) ∧ (0 ≤ k10_3.toInt ∧ k10_3.toInt ≤ 400) ∧ (0 ≤ k10_bk.toInt ∧ k10_bk.toInt ≤ 1) ∧ (p_1.toInt ≤ k10_4.toInt) ∧ (k10_4.toInt < p_2.toInt → k10_bk.toInt = 0 → k10_3.toInt = ((hh k10_4.toInt.toNat : Nat) : Int)) ∧ (k10_bk.toInt = 0 → GN (fun j => v_ro (u_la.toNatClampNeg + 98 + 2 * j)) (fun j => v_ro (u_la.toNatClampNeg + 98 + 2 * j + 1)) g_q p_2 p_1 0 v_re = GN (fun j => v_ro (u_la.toNatClampNeg + 98 + 2 * j)) (fun j => v_ro (u_la.toNatClampNeg + 98 + 2 * j + 1)) g_q p_2 k10_4 k10_3 k10_re) ∧ (k10_bk.toInt = 1 → GN (fun j => v_ro (u_la.toNatClampNeg + 98 + 2 * j)) (fun j => v_ro (u_la.toNatClampNeg + 98 + 2 * j + 1)) g_q p_2 p_1 0 v_re = none)) (fun (q : (Int32) × (Int32) × (Int32) × (Nat → Int64)) => match q with | (k10_4, k10_3, k10_bk, k10_re) => Int.toNat (401 - k10_4.toInt)) (p_1, 0, 0, v_re) ⟨lv_sub hl [1, 0, 2, 3, 4] rfl, hP, hD, hS, h_p_1, ⟨by decide, by decide⟩, ⟨by decide, by decide⟩, Int.le_refl _, fun _ _ => by rw [hh0]; decide, fun _ => rfl, fun q9 => absurd q9 (by decide +kernel)⟩ ?_
  rintro ⟨k10_4, k10_3, k10_bk, k10_re⟩ ls H locs ⟨hl, hP, hD, hS, (i_1 : 0 ≤ k10_4.toInt ∧ k10_4.toInt ≤ 400), (i_2 : 0 ≤ k10_3.toInt ∧ k10_3.toInt ≤ 400), (i_3 : 0 ≤ k10_bk.toInt ∧ k10_bk.toInt ≤ 1), (i_4 : p_1.toInt ≤ k10_4.toInt), (i_5 : k10_4.toInt < p_2.toInt → k10_bk.toInt = 0 → k10_3.toInt = ((hh k10_4.toInt.toNat : Nat) : Int)), (i_6 : k10_bk.toInt = 0 → GN (fun j => v_ro (u_la.toNatClampNeg + 98 + 2 * j)) (fun j => v_ro (u_la.toNatClampNeg + 98 + 2 * j + 1)) g_q p_2 p_1 0 v_re = GN (fun j => v_ro (u_la.toNatClampNeg + 98 + 2 * j)) (fun j => v_ro (u_la.toNatClampNeg + 98 + 2 * j + 1)) g_q p_2 k10_4 k10_3 k10_re), (i_7 : k10_bk.toInt = 1 → GN (fun j => v_ro (u_la.toNatClampNeg + 98 + 2 * j)) (fun j => v_ro (u_la.toNatClampNeg + 98 + 2 * j + 1)) g_q p_2 p_1 0 v_re = none)⟩ ih_10_8
  replace hl : lv_has ls 7 [(3, .int k10_3), (4, .int k10_4), (0, .ref b_o), (1, .int p_1), (2, .int p_2)] := hl
  refine g5_rs [(b_o, (oc12 u_th u_sa b_rf b_ro b_im b_ke u_fd b_tp u_td u_fr u_to u_so u_wo u_fa u_bd u_nc b_nl u_co b_op b_ar u_le b_pi b_pa u_pd u_od b_ws b_hw u_la b_se b_re k10_bk u_va u_su u_ce u_ho u_wy u_bt u_ps b_pt u_tg u_sn b_ip u_ic b_ah b_be b_me u_wd b_tr b_ld u_st b_wn u_id)), (b_ro, (arI G 5740 v_ro)), (b_se, (arJ G 13 v_se)), (b_re, (arJ G 400 k10_re))] hP hD ?_
  clear hP hD
  intro hP hD
  refine lv_iload hx hb dX12_reckonAll_10 (lv_at hl 1 rfl) ?_
  refine lv_iload_n hx hb dX12_reckonAll_12 rfl (lv_at hl 4 rfl) ?_
  refine lv_icmp_ge (tgt := 245) hx hb dX12_reckonAll_13 (by decide +kernel) (fun c_9 => ?_) (fun c_9 => ?_)
  ·
    have i_9 : k10_4.toInt ≥ p_2.toInt := g5_ge (a := k10_4.toInt) (b := p_2.toInt) rfl rfl c_9
    refine lv_aload_n hx hb dX12_reckonAll_245 rfl (lv_at hl 2 rfl) ?_
    refine lv_iload_n hx hb dX12_reckonAll_246 rfl (lv_at hl 0 rfl) ?_
    refine lv_if_le (tgt := 259) hx hb dX12_reckonAll_247 (by decide +kernel) (fun c_10 => ?_) (fun c_10 => ?_)
    ·
      have i_10 : k10_3.toInt ≤ 0 := g5_le (a := k10_3.toInt) (b := 0) rfl (by decide +kernel) c_10
      refine lv_lconst (v := 0) hx hb dX12_reckonAll_259 (by decide +kernel) ?_
      refine va_put (D := G.1) (ci := 12) (v := .long 0) (ty := .long) (C := RX12) (T := TX12) (N := 52) hx hb hts inG_X12 tyX12 tyX12_ok nmX12 hown hK hP hD hS 0 rfl rfl 31 (by decide +kernel) (hts _ fl_X12_340) (fun _ h9 => h9) rfl (by decide +kernel) rfl rfl (Nat.le_of_ble_eq_true rfl) dX12_reckonAll_260 ?_
      clear hP hD hS
      intro H locs hP hD hS
      refine g5_rs [(b_o, (oc12 u_th u_sa b_rf b_ro b_im b_ke u_fd b_tp u_td u_fr u_to u_so u_wo u_fa u_bd u_nc b_nl u_co b_op b_ar u_le b_pi b_pa u_pd u_od b_ws b_hw u_la b_se b_re k10_bk 0 u_su u_ce u_ho u_wy u_bt u_ps b_pt u_tg u_sn b_ip u_ic b_ah b_be b_me u_wd b_tr b_ld u_st b_wn u_id)), (b_ro, (arI G 5740 v_ro)), (b_se, (arJ G 13 v_se)), (b_re, (arJ G 400 k10_re))] hP hD ?_
      clear hP hD
      intro hP hD
      exact W.vret hx hb hr (fun t ht hW => ⟨⟨[(b_o, (oc12 u_th u_sa b_rf b_ro b_im b_ke u_fd b_tp u_td u_fr u_to u_so u_wo u_fa u_bd u_nc b_nl u_co b_op b_ar u_le b_pi b_pa u_pd u_od b_ws b_hw u_la b_se b_re k10_bk 0 u_su u_ce u_ho u_wy u_bt u_ps b_pt u_tg u_sn b_ip u_ic b_ah b_be b_me u_wd b_tr b_ld u_st b_wn u_id)), (b_ro, (arI G 5740 v_ro)), (b_se, (arJ G 13 v_se)), (b_re, (arJ G 400 k10_re))], rfl, ⟨k10_bk, 0, k10_re, i_3, by rcases (show k10_bk.toInt = 0 ∨ k10_bk.toInt = 1 by omega) with q9 | q9; exact rk_1 (z := 0) (n := k10_3) (by decide +kernel) q9 ((i_6 q9).trans (gn_end (by omega))) (Or.inr ⟨by omega, rfl⟩); exact rk_0 (z := 0) (by decide +kernel) q9 (i_7 q9), rfl⟩, by rw [ht]; exact hP.sub [0, 1, 2, 3] rfl, hD.sub [0, 1, 2, 3] (by decide +kernel) rfl⟩, hS.F ht⟩) hS.2.2 dX12_reckonAll_263
    ·
      have i_10 : k10_3.toInt > 0 := g5_leN (a := k10_3.toInt) (b := 0) rfl (by decide +kernel) c_10
      refine lv_aload_n hx hb dX12_reckonAll_250 rfl (lv_at hl 2 rfl) ?_
      refine va_get (D := G.1) (ci := 12) (v := .ref b_re) (C := RX12) (T := TX12) (N := 52) hx hb hts inG_X12 hown hK hP 0 rfl rfl 29 (by decide +kernel) (hts _ fl_X12_79) (fun _ h9 => h9) rfl dX12_reckonAll_251 ?_
      refine lv_iconst (v := 0) hx hb dX12_reckonAll_254 (by decide +kernel) ?_
      refine va_lald hx hb hK hP 3 1 rfl rfl (i := 0) (by unfold vp_in; decide) dX12_reckonAll_255 ?_
      refine g5_tl (v := (k10_re 0)) rfl ?_
      refine W.eq (g2 := F0 m 256 ls [.long (k10_re 0), .ref b_o]) rfl ?_
      refine lv_goto (tgt := 260) hx hb dX12_reckonAll_256 (by decide +kernel) ?_
      refine va_put (D := G.1) (ci := 12) (v := .long (k10_re 0)) (ty := .long) (C := RX12) (T := TX12) (N := 52) hx hb hts inG_X12 tyX12 tyX12_ok nmX12 hown hK hP hD hS 0 rfl rfl 31 (by decide +kernel) (hts _ fl_X12_340) (fun _ h9 => h9) rfl (by decide +kernel) rfl rfl (Nat.le_of_ble_eq_true rfl) dX12_reckonAll_260 ?_
      clear hP hD hS
      intro H locs hP hD hS
      refine g5_rs [(b_o, (oc12 u_th u_sa b_rf b_ro b_im b_ke u_fd b_tp u_td u_fr u_to u_so u_wo u_fa u_bd u_nc b_nl u_co b_op b_ar u_le b_pi b_pa u_pd u_od b_ws b_hw u_la b_se b_re k10_bk (k10_re 0) u_su u_ce u_ho u_wy u_bt u_ps b_pt u_tg u_sn b_ip u_ic b_ah b_be b_me u_wd b_tr b_ld u_st b_wn u_id)), (b_ro, (arI G 5740 v_ro)), (b_se, (arJ G 13 v_se)), (b_re, (arJ G 400 k10_re))] hP hD ?_
      clear hP hD
      intro hP hD
      exact W.vret hx hb hr (fun t ht hW => ⟨⟨[(b_o, (oc12 u_th u_sa b_rf b_ro b_im b_ke u_fd b_tp u_td u_fr u_to u_so u_wo u_fa u_bd u_nc b_nl u_co b_op b_ar u_le b_pi b_pa u_pd u_od b_ws b_hw u_la b_se b_re k10_bk (k10_re 0) u_su u_ce u_ho u_wy u_bt u_ps b_pt u_tg u_sn b_ip u_ic b_ah b_be b_me u_wd b_tr b_ld u_st b_wn u_id)), (b_ro, (arI G 5740 v_ro)), (b_se, (arJ G 13 v_se)), (b_re, (arJ G 400 k10_re))], rfl, ⟨k10_bk, (k10_re 0), k10_re, i_3, by rcases (show k10_bk.toInt = 0 ∨ k10_bk.toInt = 1 by omega) with q9 | q9; exact rk_1 (z := 0) (n := k10_3) (by decide +kernel) q9 ((i_6 q9).trans (gn_end (by omega))) (Or.inl ⟨by omega, rfl⟩); exact rk_0 (z := 0) (by decide +kernel) q9 (i_7 q9), rfl⟩, by rw [ht]; exact hP.sub [0, 1, 2, 3] rfl, hD.sub [0, 1, 2, 3] (by decide +kernel) rfl⟩, hS.F ht⟩) hS.2.2 dX12_reckonAll_263
  ·
    have i_9 : k10_4.toInt < p_2.toInt := g5_geN (a := k10_4.toInt) (b := p_2.toInt) rfl rfl c_9
    refine lv_aload_n hx hb dX12_reckonAll_16 rfl (lv_at hl 2 rfl) ?_
    refine va_get (D := G.1) (ci := 12) (v := .int k10_bk) (C := RX12) (T := TX12) (N := 52) hx hb hts inG_X12 hown hK hP 0 rfl rfl 30 (by decide +kernel) (hts _ fl_X12_326) (fun _ h9 => h9) rfl dX12_reckonAll_17 ?_
    refine lv_if_ne (tgt := 245) hx hb dX12_reckonAll_20 (by decide +kernel) (fun c_11 => ?_) (fun c_11 => ?_)
    ·
      have n_11 : gNe (k10_bk.toInt) (0) := g5_ne (a := k10_bk.toInt) (b := 0) rfl (by decide +kernel) c_11
      have i_11 : k10_bk.toInt ≥ 1 := by have z := g5_ne (a := k10_bk.toInt) (b := 0) (by rfl) (by decide +kernel) c_11; omega
      refine lv_aload_n hx hb dX12_reckonAll_245 rfl (lv_at hl 2 rfl) ?_
      refine lv_iload_n hx hb dX12_reckonAll_246 rfl (lv_at hl 0 rfl) ?_
      refine lv_if_le (tgt := 259) hx hb dX12_reckonAll_247 (by decide +kernel) (fun c_12 => ?_) (fun c_12 => ?_)
      ·
        have i_12 : k10_3.toInt ≤ 0 := g5_le (a := k10_3.toInt) (b := 0) rfl (by decide +kernel) c_12
        refine lv_lconst (v := 0) hx hb dX12_reckonAll_259 (by decide +kernel) ?_
        refine va_put (D := G.1) (ci := 12) (v := .long 0) (ty := .long) (C := RX12) (T := TX12) (N := 52) hx hb hts inG_X12 tyX12 tyX12_ok nmX12 hown hK hP hD hS 0 rfl rfl 31 (by decide +kernel) (hts _ fl_X12_340) (fun _ h9 => h9) rfl (by decide +kernel) rfl rfl (Nat.le_of_ble_eq_true rfl) dX12_reckonAll_260 ?_
        clear hP hD hS
        intro H locs hP hD hS
        refine g5_rs [(b_o, (oc12 u_th u_sa b_rf b_ro b_im b_ke u_fd b_tp u_td u_fr u_to u_so u_wo u_fa u_bd u_nc b_nl u_co b_op b_ar u_le b_pi b_pa u_pd u_od b_ws b_hw u_la b_se b_re k10_bk 0 u_su u_ce u_ho u_wy u_bt u_ps b_pt u_tg u_sn b_ip u_ic b_ah b_be b_me u_wd b_tr b_ld u_st b_wn u_id)), (b_ro, (arI G 5740 v_ro)), (b_se, (arJ G 13 v_se)), (b_re, (arJ G 400 k10_re))] hP hD ?_
        clear hP hD
        intro hP hD
        exact W.vret hx hb hr (fun t ht hW => ⟨⟨[(b_o, (oc12 u_th u_sa b_rf b_ro b_im b_ke u_fd b_tp u_td u_fr u_to u_so u_wo u_fa u_bd u_nc b_nl u_co b_op b_ar u_le b_pi b_pa u_pd u_od b_ws b_hw u_la b_se b_re k10_bk 0 u_su u_ce u_ho u_wy u_bt u_ps b_pt u_tg u_sn b_ip u_ic b_ah b_be b_me u_wd b_tr b_ld u_st b_wn u_id)), (b_ro, (arI G 5740 v_ro)), (b_se, (arJ G 13 v_se)), (b_re, (arJ G 400 k10_re))], rfl, ⟨k10_bk, 0, k10_re, i_3, by rcases (show k10_bk.toInt = 0 ∨ k10_bk.toInt = 1 by omega) with q9 | q9; exact rk_1 (z := 0) (n := k10_3) (by decide +kernel) q9 ((i_6 q9).trans (gn_end (by omega))) (Or.inr ⟨by omega, rfl⟩); exact rk_0 (z := 0) (by decide +kernel) q9 (i_7 q9), rfl⟩, by rw [ht]; exact hP.sub [0, 1, 2, 3] rfl, hD.sub [0, 1, 2, 3] (by decide +kernel) rfl⟩, hS.F ht⟩) hS.2.2 dX12_reckonAll_263
      ·
        have i_12 : k10_3.toInt > 0 := g5_leN (a := k10_3.toInt) (b := 0) rfl (by decide +kernel) c_12
        refine lv_aload_n hx hb dX12_reckonAll_250 rfl (lv_at hl 2 rfl) ?_
        refine va_get (D := G.1) (ci := 12) (v := .ref b_re) (C := RX12) (T := TX12) (N := 52) hx hb hts inG_X12 hown hK hP 0 rfl rfl 29 (by decide +kernel) (hts _ fl_X12_79) (fun _ h9 => h9) rfl dX12_reckonAll_251 ?_
        refine lv_iconst (v := 0) hx hb dX12_reckonAll_254 (by decide +kernel) ?_
        refine va_lald hx hb hK hP 3 1 rfl rfl (i := 0) (by unfold vp_in; decide) dX12_reckonAll_255 ?_
        refine g5_tl (v := (k10_re 0)) rfl ?_
        refine W.eq (g2 := F0 m 256 ls [.long (k10_re 0), .ref b_o]) rfl ?_
        refine lv_goto (tgt := 260) hx hb dX12_reckonAll_256 (by decide +kernel) ?_
        refine va_put (D := G.1) (ci := 12) (v := .long (k10_re 0)) (ty := .long) (C := RX12) (T := TX12) (N := 52) hx hb hts inG_X12 tyX12 tyX12_ok nmX12 hown hK hP hD hS 0 rfl rfl 31 (by decide +kernel) (hts _ fl_X12_340) (fun _ h9 => h9) rfl (by decide +kernel) rfl rfl (Nat.le_of_ble_eq_true rfl) dX12_reckonAll_260 ?_
        clear hP hD hS
        intro H locs hP hD hS
        refine g5_rs [(b_o, (oc12 u_th u_sa b_rf b_ro b_im b_ke u_fd b_tp u_td u_fr u_to u_so u_wo u_fa u_bd u_nc b_nl u_co b_op b_ar u_le b_pi b_pa u_pd u_od b_ws b_hw u_la b_se b_re k10_bk (k10_re 0) u_su u_ce u_ho u_wy u_bt u_ps b_pt u_tg u_sn b_ip u_ic b_ah b_be b_me u_wd b_tr b_ld u_st b_wn u_id)), (b_ro, (arI G 5740 v_ro)), (b_se, (arJ G 13 v_se)), (b_re, (arJ G 400 k10_re))] hP hD ?_
        clear hP hD
        intro hP hD
        exact W.vret hx hb hr (fun t ht hW => ⟨⟨[(b_o, (oc12 u_th u_sa b_rf b_ro b_im b_ke u_fd b_tp u_td u_fr u_to u_so u_wo u_fa u_bd u_nc b_nl u_co b_op b_ar u_le b_pi b_pa u_pd u_od b_ws b_hw u_la b_se b_re k10_bk (k10_re 0) u_su u_ce u_ho u_wy u_bt u_ps b_pt u_tg u_sn b_ip u_ic b_ah b_be b_me u_wd b_tr b_ld u_st b_wn u_id)), (b_ro, (arI G 5740 v_ro)), (b_se, (arJ G 13 v_se)), (b_re, (arJ G 400 k10_re))], rfl, ⟨k10_bk, (k10_re 0), k10_re, i_3, by rcases (show k10_bk.toInt = 0 ∨ k10_bk.toInt = 1 by omega) with q9 | q9; exact rk_1 (z := 0) (n := k10_3) (by decide +kernel) q9 ((i_6 q9).trans (gn_end (by omega))) (Or.inl ⟨by omega, rfl⟩); exact rk_0 (z := 0) (by decide +kernel) q9 (i_7 q9), rfl⟩, by rw [ht]; exact hP.sub [0, 1, 2, 3] rfl, hD.sub [0, 1, 2, 3] (by decide +kernel) rfl⟩, hS.F ht⟩) hS.2.2 dX12_reckonAll_263
    ·
      have i_11 : k10_bk.toInt = 0 := g5_neN (a := k10_bk.toInt) (b := 0) rfl (by decide +kernel) c_11
      refine lv_aload_n hx hb dX12_reckonAll_23 rfl (lv_at hl 2 rfl) ?_
      refine va_get (D := G.1) (ci := 12) (v := .ref b_ro) (C := RX12) (T := TX12) (N := 52) hx hb hts inG_X12 hown hK hP 0 rfl rfl 3 (by decide +kernel) (hts _ fl_X12_13) (fun _ h9 => h9) rfl dX12_reckonAll_24 ?_
      refine lv_aload_n hx hb dX12_reckonAll_27 rfl (lv_at hl 2 rfl) ?_
      refine va_get (D := G.1) (ci := 12) (v := .int u_la) (C := RX12) (T := TX12) (N := 52) hx hb hts inG_X12 hown hK hP 0 rfl rfl 27 (by decide +kernel) (hts _ fl_X12_329) (fun _ h9 => h9) rfl dX12_reckonAll_28 ?_
      refine W.eq (g2 := F0 m 31 ls [.int u_la, .ref b_ro]) rfl ?_
      refine lv_bipush (v := 98) hx hb dX12_reckonAll_31 (by decide +kernel) ?_
      refine lv_iadd hx hb dX12_reckonAll_33 ?_
      have t_13 : (u_la + 98).toInt = u_la.toInt + 98 := g5_iadd (a := u_la.toInt) (b := 98) (by rfl) (by decide +kernel) (by omega) (by omega)
      refine lv_iconst (v := 2) hx hb dX12_reckonAll_34 (by decide +kernel) ?_
      refine lv_iload hx hb dX12_reckonAll_35 (lv_at hl 1 rfl) ?_
      refine lv_imul hx hb dX12_reckonAll_37 ?_
      have t_14 : (2 * k10_4).toInt = 2 * k10_4.toInt := g5_imul (a := 2) (b := k10_4.toInt) (by decide +kernel) (by rfl) (by omega) (by omega)
      refine W.eq (g2 := F0 m 38 ls [.int (2 * k10_4), .int (u_la + 98), .ref b_ro]) rfl ?_
      refine lv_iadd hx hb dX12_reckonAll_38 ?_
      have t_15 : ((u_la + 98) + (2 * k10_4)).toInt = (u_la + 98).toInt + (2 * k10_4).toInt := g5_iadd (a := (u_la + 98).toInt) (b := (2 * k10_4).toInt) (by rfl) (by rfl) (by omega) (by omega)
      refine va_iald hx hb hK hP 1 0 rfl rfl (i := ((u_la + 98) + (2 * k10_4))) (vp_in_iff.mpr ⟨by omega, by omega⟩) dX12_reckonAll_39 ?_
      have hB0 : k10_bk.toInt = 0 := by omega
      have hH := i_6 hB0
      have hst := hh1 k10_4.toInt.toNat (by omega) (by omega)
      have he1 : ((u_la + 98) + (2 * k10_4)).toNatClampNeg = u_la.toNatClampNeg + 98 + 2 * k10_4.toInt.toNat := by have z1 := g5_clamp ((u_la + 98) + (2 * k10_4)); have z2 := g5_clamp u_la; omega
      unfold stOK at hst
      rw [← he1] at hst
      have hE1 : (fun j => v_ro (u_la.toNatClampNeg + 98 + 2 * j)) k10_4.toInt.toNat = v_ro ((u_la + 98) + (2 * k10_4)).toNatClampNeg := by rw [he1]
      refine lv_istore (lv' := [(5, .int (v_ro ((u_la + 98) + (2 * k10_4)).toNatClampNeg)), (3, .int k10_3), (4, .int k10_4), (0, .ref b_o), (1, .int p_1), (2, .int p_2)]) hx hb dX12_reckonAll_40 hl (by decide +kernel) rfl ?_
      clear hl
      intro ls hl
      refine lv_aload_n hx hb dX12_reckonAll_42 rfl (lv_at hl 3 rfl) ?_
      refine va_get (D := G.1) (ci := 12) (v := .ref b_ro) (C := RX12) (T := TX12) (N := 52) hx hb hts inG_X12 hown hK hP 0 rfl rfl 3 (by decide +kernel) (hts _ fl_X12_13) (fun _ h9 => h9) rfl dX12_reckonAll_43 ?_
      refine W.eq (g2 := F0 m 46 ls [.ref b_ro]) rfl ?_
      refine lv_aload_n hx hb dX12_reckonAll_46 rfl (lv_at hl 3 rfl) ?_
      refine va_get (D := G.1) (ci := 12) (v := .int u_la) (C := RX12) (T := TX12) (N := 52) hx hb hts inG_X12 hown hK hP 0 rfl rfl 27 (by decide +kernel) (hts _ fl_X12_329) (fun _ h9 => h9) rfl dX12_reckonAll_47 ?_
      refine lv_bipush (v := 98) hx hb dX12_reckonAll_50 (by decide +kernel) ?_
      refine lv_iadd hx hb dX12_reckonAll_52 ?_
      have t_16 : (u_la + 98).toInt = u_la.toInt + 98 := g5_iadd (a := u_la.toInt) (b := 98) (by rfl) (by decide +kernel) (by omega) (by omega)
      refine lv_iconst (v := 2) hx hb dX12_reckonAll_53 (by decide +kernel) ?_
      refine W.eq (g2 := F0 m 54 ls [.int 2, .int (u_la + 98), .ref b_ro]) rfl ?_
      refine lv_iload hx hb dX12_reckonAll_54 (lv_at hl 2 rfl) ?_
      refine lv_imul hx hb dX12_reckonAll_56 ?_
      have t_17 : (2 * k10_4).toInt = 2 * k10_4.toInt := g5_imul (a := 2) (b := k10_4.toInt) (by decide +kernel) (by rfl) (by omega) (by omega)
      refine lv_iadd hx hb dX12_reckonAll_57 ?_
      have t_18 : ((u_la + 98) + (2 * k10_4)).toInt = (u_la + 98).toInt + (2 * k10_4).toInt := g5_iadd (a := (u_la + 98).toInt) (b := (2 * k10_4).toInt) (by rfl) (by rfl) (by omega) (by omega)
      refine lv_iconst (v := 1) hx hb dX12_reckonAll_58 (by decide +kernel) ?_
      refine lv_iadd hx hb dX12_reckonAll_59 ?_
      have t_19 : (((u_la + 98) + (2 * k10_4)) + 1).toInt = ((u_la + 98) + (2 * k10_4)).toInt + 1 := g5_iadd (a := ((u_la + 98) + (2 * k10_4)).toInt) (b := 1) (by rfl) (by decide +kernel) (by omega) (by omega)
      refine W.eq (g2 := F0 m 60 ls [.int (((u_la + 98) + (2 * k10_4)) + 1), .ref b_ro]) rfl ?_
      refine va_iald hx hb hK hP 1 0 rfl rfl (i := (((u_la + 98) + (2 * k10_4)) + 1)) (vp_in_iff.mpr ⟨by omega, by omega⟩) dX12_reckonAll_60 ?_
      have he2 : (((u_la + 98) + (2 * k10_4)) + 1).toNatClampNeg = ((u_la + 98) + (2 * k10_4)).toNatClampNeg + 1 := by have z1 := g5_clamp (((u_la + 98) + (2 * k10_4)) + 1); have z2 := g5_clamp ((u_la + 98) + (2 * k10_4)); omega
      rw [← he2] at hst
      have hE2 : (fun j => v_ro (u_la.toNatClampNeg + 98 + 2 * j + 1)) k10_4.toInt.toNat = v_ro (((u_la + 98) + (2 * k10_4)) + 1).toNatClampNeg := by rw [he2, he1]
      have hn9 : k10_3.toInt = ((hh k10_4.toInt.toNat : Nat) : Int) := i_5 (by omega) hB0
      have hop : 0 ≤ (v_ro ((u_la + 98) + (2 * k10_4)).toNatClampNeg).toInt ∧ (v_ro ((u_la + 98) + (2 * k10_4)).toNatClampNeg).toInt ≤ 29 := by omega
      refine lv_istore (lv' := [(6, .int (v_ro (((u_la + 98) + (2 * k10_4)) + 1).toNatClampNeg)), (5, .int (v_ro ((u_la + 98) + (2 * k10_4)).toNatClampNeg)), (3, .int k10_3), (4, .int k10_4), (0, .ref b_o), (1, .int p_1), (2, .int p_2)]) hx hb dX12_reckonAll_61 hl (by decide +kernel) rfl ?_
      clear hl
      intro ls hl
      refine lv_iinc (v := (k10_4 + 1)) (lv' := [(4, .int (k10_4 + 1)), (6, .int (v_ro (((u_la + 98) + (2 * k10_4)) + 1).toNatClampNeg)), (5, .int (v_ro ((u_la + 98) + (2 * k10_4)).toNatClampNeg)), (3, .int k10_3), (0, .ref b_o), (1, .int p_1), (2, .int p_2)]) hx hb dX12_reckonAll_63 hl (k := 3) rfl rfl (by decide +kernel) rfl ?_
      clear hl
      intro ls hl
      have t_20 : (k10_4 + 1).toInt = k10_4.toInt + 1 := g5_iadd (a := k10_4.toInt) (b := 1) rfl (by decide +kernel) (by omega) (by omega)
      refine lv_iload hx hb dX12_reckonAll_66 (lv_at hl 2 rfl) ?_
      refine lv_bipush (v := 20) hx hb dX12_reckonAll_68 (by decide +kernel) ?_
      refine W.eq (g2 := F0 m 70 ls [.int 20, .int (v_ro ((u_la + 98) + (2 * k10_4)).toNatClampNeg)]) rfl ?_
      refine lv_icmp_ge (tgt := 103) hx hb dX12_reckonAll_70 (by decide +kernel) (fun c_21 => ?_) (fun c_21 => ?_)
      ·
        have i_21 : (v_ro ((u_la + 98) + (2 * k10_4)).toNatClampNeg).toInt ≥ 20 := g5_ge (a := (v_ro ((u_la + 98) + (2 * k10_4)).toNatClampNeg).toInt) (b := 20) rfl (by decide +kernel) c_21
        refine lv_iload hx hb dX12_reckonAll_103 (lv_at hl 2 rfl) ?_
        refine lv_bipush (v := 27) hx hb dX12_reckonAll_105 (by decide +kernel) ?_
        refine lv_icmp_ge (tgt := 180) hx hb dX12_reckonAll_107 (by decide +kernel) (fun c_22 => ?_) (fun c_22 => ?_)
        ·
          have i_22 : (v_ro ((u_la + 98) + (2 * k10_4)).toNatClampNeg).toInt ≥ 27 := g5_ge (a := (v_ro ((u_la + 98) + (2 * k10_4)).toNatClampNeg).toInt) (b := 27) rfl (by decide +kernel) c_22
          refine lv_iload hx hb dX12_reckonAll_180 (lv_at hl 2 rfl) ?_
          refine lv_bipush (v := 27) hx hb dX12_reckonAll_182 (by decide +kernel) ?_
          refine lv_icmp_ne (tgt := 208) hx hb dX12_reckonAll_184 (by decide +kernel) (fun c_23 => ?_) (fun c_23 => ?_)
          ·
            have n_23 : gNe ((v_ro ((u_la + 98) + (2 * k10_4)).toNatClampNeg).toInt) (27) := g5_ne (a := (v_ro ((u_la + 98) + (2 * k10_4)).toNatClampNeg).toInt) (b := 27) rfl (by decide +kernel) c_23
            have i_23 : (v_ro ((u_la + 98) + (2 * k10_4)).toNatClampNeg).toInt ≥ 28 := by have z := g5_ne (a := (v_ro ((u_la + 98) + (2 * k10_4)).toNatClampNeg).toInt) (b := 27) (by rfl) (by decide +kernel) c_23; omega
            refine lv_aload_n hx hb dX12_reckonAll_208 rfl (lv_at hl 4 rfl) ?_
            refine va_get (D := G.1) (ci := 12) (v := .ref b_re) (C := RX12) (T := TX12) (N := 52) hx hb hts inG_X12 hown hK hP 0 rfl rfl 29 (by decide +kernel) (hts _ fl_X12_79) (fun _ h9 => h9) rfl dX12_reckonAll_209 ?_
            refine lv_iload_n hx hb dX12_reckonAll_212 rfl (lv_at hl 3 rfl) ?_
            refine lv_iconst (v := 1) hx hb dX12_reckonAll_213 (by decide +kernel) ?_
            refine W.eq (g2 := F0 m 214 ls [.int 1, .int k10_3, .ref b_re]) rfl ?_
            refine lv_isub hx hb dX12_reckonAll_214 ?_
            have t_24 : (k10_3 - 1).toInt = k10_3.toInt - 1 := g5_isub (a := k10_3.toInt) (b := 1) (by rfl) (by decide +kernel) (by omega) (by omega)
            refine va_lald hx hb hK hP 3 1 rfl rfl (i := (k10_3 - 1)) (vp_in_iff.mpr ⟨by omega, by omega⟩) dX12_reckonAll_215 ?_
            refine lv_iload hx hb dX12_reckonAll_216 (lv_at hl 2 rfl) ?_
            refine lv_bipush (v := 28) hx hb dX12_reckonAll_218 (by decide +kernel) ?_
            refine lv_icmp_ne (tgt := 227) hx hb dX12_reckonAll_220 (by decide +kernel) (fun c_25 => ?_) (fun c_25 => ?_)
            ·
              have n_25 : gNe ((v_ro ((u_la + 98) + (2 * k10_4)).toNatClampNeg).toInt) (28) := g5_ne (a := (v_ro ((u_la + 98) + (2 * k10_4)).toNatClampNeg).toInt) (b := 28) rfl (by decide +kernel) c_25
              have i_25 : (v_ro ((u_la + 98) + (2 * k10_4)).toNatClampNeg).toInt ≥ 29 := by have z := g5_ne (a := (v_ro ((u_la + 98) + (2 * k10_4)).toNatClampNeg).toInt) (b := 28) (by rfl) (by decide +kernel) c_25; omega
              refine lv_lconst (v := 1) hx hb dX12_reckonAll_227 (by decide +kernel) ?_
              have tl_26 : (1 : Int64).toInt = 1 := (by decide +kernel)
              have tc_27 := g5_cmpI (k10_re (k10_3 - 1).toNatClampNeg) (1 : Int64)
              refine W.lcmp hx hb dX12_reckonAll_228 ?_
              refine lv_if_ne (tgt := 239) hx hb dX12_reckonAll_229 (by decide +kernel) (fun c_28 => ?_) (fun c_28 => ?_)
              ·
                have n_28 : gNe ((lg_cmp (k10_re (k10_3 - 1).toNatClampNeg) 1).toInt) (0) := g5_ne (a := (lg_cmp (k10_re (k10_3 - 1).toNatClampNeg) 1).toInt) (b := 0) rfl (by decide +kernel) c_28
                obtain ⟨y29, hy_29, t_29⟩ := g_incN k10_3 (-1) (by decide +kernel) (by omega) (by omega)
                have t_29 : y29.toInt = k10_3.toInt + (-1) := t_29
                refine lv_iinc (v := y29) (lv' := [(3, .int y29), (4, .int (k10_4 + 1)), (6, .int (v_ro (((u_la + 98) + (2 * k10_4)) + 1).toNatClampNeg)), (5, .int (v_ro ((u_la + 98) + (2 * k10_4)).toNatClampNeg)), (0, .ref b_o), (1, .int p_1), (2, .int p_2)]) hx hb dX12_reckonAll_239 hl (k := 3) rfl hy_29 (by decide +kernel) rfl ?_
                clear hl
                intro ls hl
                refine lv_goto (tgt := 10) hx hb dX12_reckonAll_242 (by decide +kernel) ?_
                exact ih_10_8 ((k10_4 + 1), y29, k10_bk, k10_re) ls H locs (show Int.toNat (401 - (k10_4 + 1).toInt) < Int.toNat (401 - k10_4.toInt) from g_up (show k10_4.toInt < (k10_4 + 1).toInt by omega) (show k10_4.toInt < 401 by omega)) ⟨lv_sub hl [0, 1, 4, 5, 6] rfl, hP, hD, hS, ⟨by omega, by omega⟩, ⟨by omega, by omega⟩, i_3, by omega, fun _ _ => by have e9 : (k10_4 + 1).toInt.toNat = k10_4.toInt.toNat + 1 := (by omega); rw [e9]; omega, fun _ => hH.trans (gn_drop (p := (k10_3 - 1)) (by omega) (by omega) hE1 ⟨by first | omega | (unfold gNe at *; omega), by omega⟩ (by omega) (by omega) (Or.inr ⟨by unfold gNe at *; omega, rfl⟩) (by first | omega | (unfold gNe at *; omega)) (by omega) (by omega)), fun q9 => absurd q9 (by first | decide | omega)⟩
              ·
                have i_28 : (lg_cmp (k10_re (k10_3 - 1).toNatClampNeg) 1).toInt = 0 := g5_neN (a := (lg_cmp (k10_re (k10_3 - 1).toNatClampNeg) 1).toInt) (b := 0) rfl (by decide +kernel) c_28
                refine lv_iload hx hb dX12_reckonAll_232 (lv_at hl 1 rfl) ?_
                refine lv_istore (lv' := [(4, .int (v_ro (((u_la + 98) + (2 * k10_4)) + 1).toNatClampNeg)), (6, .int (v_ro (((u_la + 98) + (2 * k10_4)) + 1).toNatClampNeg)), (5, .int (v_ro ((u_la + 98) + (2 * k10_4)).toNatClampNeg)), (3, .int k10_3), (0, .ref b_o), (1, .int p_1), (2, .int p_2)]) hx hb dX12_reckonAll_234 hl (by decide +kernel) rfl ?_
                clear hl
                intro ls hl
                refine lv_goto (tgt := 242) hx hb dX12_reckonAll_236 (by decide +kernel) ?_
                refine lv_goto (tgt := 10) hx hb dX12_reckonAll_242 (by decide +kernel) ?_
                exact ih_10_8 ((v_ro (((u_la + 98) + (2 * k10_4)) + 1).toNatClampNeg), k10_3, k10_bk, k10_re) ls H locs (show Int.toNat (401 - (v_ro (((u_la + 98) + (2 * k10_4)) + 1).toNatClampNeg).toInt) < Int.toNat (401 - k10_4.toInt) from g_up (show k10_4.toInt < (v_ro (((u_la + 98) + (2 * k10_4)) + 1).toNatClampNeg).toInt by omega) (show k10_4.toInt < 401 by omega)) ⟨lv_sub hl [3, 0, 4, 5, 6] rfl, hP, hD, hS, ⟨by omega, by omega⟩, i_2, i_3, by omega, fun h9 _ => by omega, fun _ => hH.trans (gn_jmp (p := (k10_3 - 1)) (by omega) (by omega) hE1 hE2 ⟨by first | omega | (unfold gNe at *; omega), by omega⟩ (by omega) (by omega) (Or.inr ⟨by unfold gNe at *; omega, rfl⟩) (by omega) (by omega)), fun q9 => absurd q9 (by first | decide | omega)⟩
            ·
              have i_25 : (v_ro ((u_la + 98) + (2 * k10_4)).toNatClampNeg).toInt = 28 := g5_neN (a := (v_ro ((u_la + 98) + (2 * k10_4)).toNatClampNeg).toInt) (b := 28) rfl (by decide +kernel) c_25
              refine lv_lconst (v := 0) hx hb dX12_reckonAll_223 (by decide +kernel) ?_
              refine lv_goto (tgt := 228) hx hb dX12_reckonAll_224 (by decide +kernel) ?_
              have tl_30 : (0 : Int64).toInt = 0 := (by decide +kernel)
              have tc_31 := g5_cmpI (k10_re (k10_3 - 1).toNatClampNeg) (0 : Int64)
              refine W.lcmp hx hb dX12_reckonAll_228 ?_
              refine lv_if_ne (tgt := 239) hx hb dX12_reckonAll_229 (by decide +kernel) (fun c_32 => ?_) (fun c_32 => ?_)
              ·
                have n_32 : gNe ((lg_cmp (k10_re (k10_3 - 1).toNatClampNeg) 0).toInt) (0) := g5_ne (a := (lg_cmp (k10_re (k10_3 - 1).toNatClampNeg) 0).toInt) (b := 0) rfl (by decide +kernel) c_32
                obtain ⟨y33, hy_33, t_33⟩ := g_incN k10_3 (-1) (by decide +kernel) (by omega) (by omega)
                have t_33 : y33.toInt = k10_3.toInt + (-1) := t_33
                refine lv_iinc (v := y33) (lv' := [(3, .int y33), (4, .int (k10_4 + 1)), (6, .int (v_ro (((u_la + 98) + (2 * k10_4)) + 1).toNatClampNeg)), (5, .int (v_ro ((u_la + 98) + (2 * k10_4)).toNatClampNeg)), (0, .ref b_o), (1, .int p_1), (2, .int p_2)]) hx hb dX12_reckonAll_239 hl (k := 3) rfl hy_33 (by decide +kernel) rfl ?_
                clear hl
                intro ls hl
                refine lv_goto (tgt := 10) hx hb dX12_reckonAll_242 (by decide +kernel) ?_
                exact ih_10_8 ((k10_4 + 1), y33, k10_bk, k10_re) ls H locs (show Int.toNat (401 - (k10_4 + 1).toInt) < Int.toNat (401 - k10_4.toInt) from g_up (show k10_4.toInt < (k10_4 + 1).toInt by omega) (show k10_4.toInt < 401 by omega)) ⟨lv_sub hl [0, 1, 4, 5, 6] rfl, hP, hD, hS, ⟨by omega, by omega⟩, ⟨by omega, by omega⟩, i_3, by omega, fun _ _ => by have e9 : (k10_4 + 1).toInt.toNat = k10_4.toInt.toNat + 1 := (by omega); rw [e9]; omega, fun _ => hH.trans (gn_drop (p := (k10_3 - 1)) (by omega) (by omega) hE1 ⟨by first | omega | (unfold gNe at *; omega), by omega⟩ (by omega) (by omega) (Or.inl ⟨by omega, rfl⟩) (by first | omega | (unfold gNe at *; omega)) (by omega) (by omega)), fun q9 => absurd q9 (by first | decide | omega)⟩
              ·
                have i_32 : (lg_cmp (k10_re (k10_3 - 1).toNatClampNeg) 0).toInt = 0 := g5_neN (a := (lg_cmp (k10_re (k10_3 - 1).toNatClampNeg) 0).toInt) (b := 0) rfl (by decide +kernel) c_32
                refine lv_iload hx hb dX12_reckonAll_232 (lv_at hl 1 rfl) ?_
                refine lv_istore (lv' := [(4, .int (v_ro (((u_la + 98) + (2 * k10_4)) + 1).toNatClampNeg)), (6, .int (v_ro (((u_la + 98) + (2 * k10_4)) + 1).toNatClampNeg)), (5, .int (v_ro ((u_la + 98) + (2 * k10_4)).toNatClampNeg)), (3, .int k10_3), (0, .ref b_o), (1, .int p_1), (2, .int p_2)]) hx hb dX12_reckonAll_234 hl (by decide +kernel) rfl ?_
                clear hl
                intro ls hl
                refine lv_goto (tgt := 242) hx hb dX12_reckonAll_236 (by decide +kernel) ?_
                refine lv_goto (tgt := 10) hx hb dX12_reckonAll_242 (by decide +kernel) ?_
                exact ih_10_8 ((v_ro (((u_la + 98) + (2 * k10_4)) + 1).toNatClampNeg), k10_3, k10_bk, k10_re) ls H locs (show Int.toNat (401 - (v_ro (((u_la + 98) + (2 * k10_4)) + 1).toNatClampNeg).toInt) < Int.toNat (401 - k10_4.toInt) from g_up (show k10_4.toInt < (v_ro (((u_la + 98) + (2 * k10_4)) + 1).toNatClampNeg).toInt by omega) (show k10_4.toInt < 401 by omega)) ⟨lv_sub hl [3, 0, 4, 5, 6] rfl, hP, hD, hS, ⟨by omega, by omega⟩, i_2, i_3, by omega, fun h9 _ => by omega, fun _ => hH.trans (gn_jmp (p := (k10_3 - 1)) (by omega) (by omega) hE1 hE2 ⟨by first | omega | (unfold gNe at *; omega), by omega⟩ (by omega) (by omega) (Or.inl ⟨by omega, rfl⟩) (by omega) (by omega)), fun q9 => absurd q9 (by first | decide | omega)⟩
          ·
            have i_23 : (v_ro ((u_la + 98) + (2 * k10_4)).toNatClampNeg).toInt = 27 := g5_neN (a := (v_ro ((u_la + 98) + (2 * k10_4)).toNatClampNeg).toInt) (b := 27) rfl (by decide +kernel) c_23
            refine lv_aload_n hx hb dX12_reckonAll_187 rfl (lv_at hl 4 rfl) ?_
            refine va_get (D := G.1) (ci := 12) (v := .ref b_re) (C := RX12) (T := TX12) (N := 52) hx hb hts inG_X12 hown hK hP 0 rfl rfl 29 (by decide +kernel) (hts _ fl_X12_79) (fun _ h9 => h9) rfl dX12_reckonAll_188 ?_
            refine lv_iload_n hx hb dX12_reckonAll_191 rfl (lv_at hl 3 rfl) ?_
            refine lv_iconst (v := 1) hx hb dX12_reckonAll_192 (by decide +kernel) ?_
            refine W.eq (g2 := F0 m 193 ls [.int 1, .int k10_3, .ref b_re]) rfl ?_
            refine lv_isub hx hb dX12_reckonAll_193 ?_
            have t_34 : (k10_3 - 1).toInt = k10_3.toInt - 1 := g5_isub (a := k10_3.toInt) (b := 1) (by rfl) (by decide +kernel) (by omega) (by omega)
            refine lv_lconst (v := 1) hx hb dX12_reckonAll_194 (by decide +kernel) ?_
            refine lv_aload_n hx hb dX12_reckonAll_195 rfl (lv_at hl 4 rfl) ?_
            refine va_get (D := G.1) (ci := 12) (v := .ref b_re) (C := RX12) (T := TX12) (N := 52) hx hb hts inG_X12 hown hK hP 0 rfl rfl 29 (by decide +kernel) (hts _ fl_X12_79) (fun _ h9 => h9) rfl dX12_reckonAll_196 ?_
            refine lv_iload_n hx hb dX12_reckonAll_199 rfl (lv_at hl 3 rfl) ?_
            refine W.eq (g2 := F0 m 200 ls [.int k10_3, .ref b_re, .long 1, .int (k10_3 - 1), .ref b_re]) rfl ?_
            refine lv_iconst (v := 1) hx hb dX12_reckonAll_200 (by decide +kernel) ?_
            refine lv_isub hx hb dX12_reckonAll_201 ?_
            have t_35 : (k10_3 - 1).toInt = k10_3.toInt - 1 := g5_isub (a := k10_3.toInt) (b := 1) (by rfl) (by decide +kernel) (by omega) (by omega)
            refine va_lald hx hb hK hP 3 1 rfl rfl (i := (k10_3 - 1)) (vp_in_iff.mpr ⟨by omega, by omega⟩) dX12_reckonAll_202 ?_
            refine lv_lsub hx hb dX12_reckonAll_203 ?_
            refine va_last hx hb hK hP hD hS 3 1 rfl rfl (i := (k10_3 - 1)) (x := (1 - (k10_re (k10_3 - 1).toNatClampNeg))) (vp_in_iff.mpr ⟨by omega, by omega⟩) dX12_reckonAll_204 ?_
            clear hP hD hS
            intro H locs hP hD hS
            refine g5_rs [(b_o, (oc12 u_th u_sa b_rf b_ro b_im b_ke u_fd b_tp u_td u_fr u_to u_so u_wo u_fa u_bd u_nc b_nl u_co b_op b_ar u_le b_pi b_pa u_pd u_od b_ws b_hw u_la b_se b_re k10_bk u_va u_su u_ce u_ho u_wy u_bt u_ps b_pt u_tg u_sn b_ip u_ic b_ah b_be b_me u_wd b_tr b_ld u_st b_wn u_id)), (b_ro, (arI G 5740 v_ro)), (b_se, (arJ G 13 v_se)), (b_re, (arJ G 400 (vp_updL k10_re (k10_3 - 1).toNatClampNeg (1 - (k10_re (k10_3 - 1).toNatClampNeg)))))] hP hD ?_
            clear hP hD
            intro hP hD
            refine W.eq (g2 := F0 m 205 ls []) rfl ?_
            refine lv_goto (tgt := 242) hx hb dX12_reckonAll_205 (by decide +kernel) ?_
            refine lv_goto (tgt := 10) hx hb dX12_reckonAll_242 (by decide +kernel) ?_
            exact ih_10_8 ((k10_4 + 1), k10_3, k10_bk, (vp_updL k10_re (k10_3 - 1).toNatClampNeg (1 - (k10_re (k10_3 - 1).toNatClampNeg)))) ls H locs (show Int.toNat (401 - (k10_4 + 1).toInt) < Int.toNat (401 - k10_4.toInt) from g_up (show k10_4.toInt < (k10_4 + 1).toInt by omega) (show k10_4.toInt < 401 by omega)) ⟨lv_sub hl [3, 0, 4, 5, 6] rfl, hP, hD, hS, ⟨by omega, by omega⟩, i_2, i_3, by omega, fun _ _ => by have e9 : (k10_4 + 1).toInt.toNat = k10_4.toInt.toNat + 1 := (by omega); rw [e9]; omega, fun _ => hH.trans (gn_not (by omega) (by omega) hE1 (by omega) (by omega) (by omega) (by omega) rfl), fun q9 => absurd q9 (by first | decide | omega)⟩
        ·
          have i_22 : (v_ro ((u_la + 98) + (2 * k10_4)).toNatClampNeg).toInt < 27 := g5_geN (a := (v_ro ((u_la + 98) + (2 * k10_4)).toNatClampNeg).toInt) (b := 27) rfl (by decide +kernel) c_22
          obtain ⟨y36, hy_36, t_36⟩ := g_incN k10_3 (-1) (by decide +kernel) (by omega) (by omega)
          have t_36 : y36.toInt = k10_3.toInt + (-1) := t_36
          refine lv_iinc (v := y36) (lv' := [(3, .int y36), (4, .int (k10_4 + 1)), (6, .int (v_ro (((u_la + 98) + (2 * k10_4)) + 1).toNatClampNeg)), (5, .int (v_ro ((u_la + 98) + (2 * k10_4)).toNatClampNeg)), (0, .ref b_o), (1, .int p_1), (2, .int p_2)]) hx hb dX12_reckonAll_110 hl (k := 3) rfl hy_36 (by decide +kernel) rfl ?_
          clear hl
          intro ls hl
          refine lv_aload_n hx hb dX12_reckonAll_113 rfl (lv_at hl 4 rfl) ?_
          refine va_get (D := G.1) (ci := 12) (v := .ref b_re) (C := RX12) (T := TX12) (N := 52) hx hb hts inG_X12 hown hK hP 0 rfl rfl 29 (by decide +kernel) (hts _ fl_X12_79) (fun _ h9 => h9) rfl dX12_reckonAll_114 ?_
          refine lv_iload_n hx hb dX12_reckonAll_117 rfl (lv_at hl 0 rfl) ?_
          refine W.eq (g2 := F0 m 118 ls [.int y36, .ref b_re]) rfl ?_
          refine lv_iconst (v := 1) hx hb dX12_reckonAll_118 (by decide +kernel) ?_
          refine lv_isub hx hb dX12_reckonAll_119 ?_
          have t_37 : (y36 - 1).toInt = y36.toInt - 1 := g5_isub (a := y36.toInt) (b := 1) (by rfl) (by decide +kernel) (by omega) (by omega)
          refine lv_aload_n hx hb dX12_reckonAll_120 rfl (lv_at hl 4 rfl) ?_
          refine lv_iload hx hb dX12_reckonAll_121 (lv_at hl 3 rfl) ?_
          refine lv_aload_n hx hb dX12_reckonAll_123 rfl (lv_at hl 4 rfl) ?_
          refine W.eq (g2 := F0 m 124 ls [.ref b_o, .int (v_ro ((u_la + 98) + (2 * k10_4)).toNatClampNeg), .ref b_o, .int (y36 - 1), .ref b_re]) rfl ?_
          refine va_get (D := G.1) (ci := 12) (v := .ref b_re) (C := RX12) (T := TX12) (N := 52) hx hb hts inG_X12 hown hK hP 0 rfl rfl 29 (by decide +kernel) (hts _ fl_X12_79) (fun _ h9 => h9) rfl dX12_reckonAll_124 ?_
          refine lv_iload_n hx hb dX12_reckonAll_127 rfl (lv_at hl 0 rfl) ?_
          refine lv_iconst (v := 1) hx hb dX12_reckonAll_128 (by decide +kernel) ?_
          refine lv_isub hx hb dX12_reckonAll_129 ?_
          have t_38 : (y36 - 1).toInt = y36.toInt - 1 := g5_isub (a := y36.toInt) (b := 1) (by rfl) (by decide +kernel) (by omega) (by omega)
          refine va_lald hx hb hK hP 3 1 rfl rfl (i := (y36 - 1)) (vp_in_iff.mpr ⟨by omega, by omega⟩) dX12_reckonAll_130 ?_
          refine W.eq (g2 := F0 m 131 ls [.long (k10_re (y36 - 1).toNatClampNeg), .int (v_ro ((u_la + 98) + (2 * k10_4)).toNatClampNeg), .ref b_o, .int (y36 - 1), .ref b_re]) rfl ?_
          refine lv_aload_n hx hb dX12_reckonAll_131 rfl (lv_at hl 4 rfl) ?_
          refine va_get (D := G.1) (ci := 12) (v := .ref b_re) (C := RX12) (T := TX12) (N := 52) hx hb hts inG_X12 hown hK hP 0 rfl rfl 29 (by decide +kernel) (hts _ fl_X12_79) (fun _ h9 => h9) rfl dX12_reckonAll_132 ?_
          refine lv_iload_n hx hb dX12_reckonAll_135 rfl (lv_at hl 0 rfl) ?_
          refine va_lald hx hb hK hP 3 1 rfl rfl (i := y36) (vp_in_iff.mpr ⟨by omega, by omega⟩) dX12_reckonAll_136 ?_
          obtain ⟨hPc, hDc, hFc⟩ := g5_sub3 (wc := [(b_o, (oc12 u_th u_sa b_rf b_ro b_im b_ke u_fd b_tp u_td u_fr u_to u_so u_wo u_fa u_bd u_nc b_nl u_co b_op b_ar u_le b_pi b_pa u_pd u_od b_ws b_hw u_la b_se b_re k10_bk u_va u_su u_ce u_ho u_wy u_bt u_ps b_pt u_tg u_sn b_ip u_ic b_ah b_be b_me u_wd b_tr b_ld u_st b_wn u_id))]) hP hD hS hA [0] (by decide +kernel) rfl
          refine va_calll (va_runV (As := [.int (v_ro ((u_la + 98) + (2 * k10_4)).toNatClampNeg), .long (k10_re (y36 - 1).toNatClampNeg), .long (k10_re y36.toNatClampNeg)]) (rest := [.int (y36 - 1), .ref b_re]) ⟨hx, hb, hml, hown, hts⟩ (n_reckonX l G b_o b_rf b_ro b_im b_ke b_tp b_nl b_op b_ar b_pi b_pa b_ws b_hw b_se b_re b_pt b_ip b_ah b_be b_me b_tr b_ld b_wn H.size u_th u_sa u_fd u_td u_fr u_to u_so u_fa u_bd u_nc u_co u_le u_pd u_od u_la k10_bk u_ce u_ho u_wy u_bt u_ps u_tg u_sn u_ic u_wd u_id (v_ro ((u_la + 98) + (2 * k10_4)).toNatClampNeg) u_wo u_va u_su u_st (k10_re (y36 - 1).toNatClampNeg) (k10_re y36.toNatClampNeg) h_u_td h_u_fr h_u_to h_u_bd h_u_nc h_u_co h_u_pd h_u_la i_3 h_u_ce h_u_ho h_u_wy h_u_bt h_u_ps h_u_ic h_u_id ⟨by omega, by omega⟩ (hB0)) (cwV 3 hts gV_X12_332 rfl rfl rfl hv_X12_reckon ⟨Nat.le_of_ble_eq_true rfl, Nat.le_of_ble_eq_true rfl⟩) (g5_preV hPc hK hDc hN hT hS hFc (ci := 12) (q0 := 0) rfl rfl) rfl rfl hl.1 rfl (lv_room (Nat.le_of_ble_eq_true rfl)) dX12_reckonAll_137 ⟨Nat.le_of_ble_eq_true rfl, Nat.le_of_ble_eq_true rfl⟩) hS (fun q _ h => hFc q h) hFc (fun r u t H locs ht hvm hw hB hz1 hk1 hS => ?_)
          obtain ⟨hP1, hD1⟩ := hB
          have hP1 := g5_ht ht hP1
          obtain ⟨z41, z42, (i_39 : 0 ≤ z42.toInt ∧ z42.toInt ≤ 1), (i_40 : ((v_ro ((u_la + 98) + (2 * k10_4)).toNatClampNeg).toInt = 23 ∧ (k10_re y36.toNatClampNeg) = 0 ∧ z42.toInt = 1) ∨ (¬ ((v_ro ((u_la + 98) + (2 * k10_4)).toNatClampNeg).toInt = 23 ∧ (k10_re y36.toNatClampNeg) = 0) ∧ z42.toInt = 0 ∧ z41 = bv (v_ro ((u_la + 98) + (2 * k10_4)).toNatClampNeg).toInt (k10_re (y36 - 1).toNatClampNeg) (k10_re y36.toNatClampNeg))), y43, rfl⟩ := hw
          have hJ9 := va_join (wr := [(b_ro, (arI G 5740 v_ro)), (b_se, (arJ G 13 v_se)), (b_re, (arJ G 400 k10_re))]) hP hD [0] [1, 2, 3] rfl rfl (by decide +kernel) (by decide +kernel) hk1 hFc hP1 hD1
          clear hP hD hPc hDc hFc ht hvm hz1 hk1 hP1 hD1
          obtain ⟨hP, hD⟩ := hJ9
          refine g5_rs [(b_ro, (arI G 5740 v_ro)), (b_se, (arJ G 13 v_se)), (b_re, (arJ G 400 k10_re)), (b_o, (oc12 u_th u_sa b_rf b_ro b_im b_ke u_fd b_tp u_td u_fr u_to u_so u_wo u_fa u_bd u_nc b_nl u_co b_op b_ar u_le b_pi b_pa u_pd u_od b_ws b_hw u_la b_se b_re z42 u_va u_su u_ce u_ho u_wy u_bt u_ps b_pt u_tg u_sn b_ip u_ic b_ah b_be b_me u_wd b_tr b_ld u_st b_wn u_id))] hP hD ?_
          clear hP hD
          intro hP hD
          refine g5_tl (v := z41) y43 ?_
          refine W.eq (g2 := F0 m 140 ls [.long z41, .int (y36 - 1), .ref b_re]) rfl ?_
          refine va_last hx hb hK hP hD hS 2 1 rfl rfl (i := (y36 - 1)) (x := z41) (vp_in_iff.mpr ⟨by omega, by omega⟩) dX12_reckonAll_140 ?_
          clear hP hD hS
          intro H locs hP hD hS
          refine g5_rs [(b_ro, (arI G 5740 v_ro)), (b_se, (arJ G 13 v_se)), (b_re, (arJ G 400 (vp_updL k10_re (y36 - 1).toNatClampNeg z41))), (b_o, (oc12 u_th u_sa b_rf b_ro b_im b_ke u_fd b_tp u_td u_fr u_to u_so u_wo u_fa u_bd u_nc b_nl u_co b_op b_ar u_le b_pi b_pa u_pd u_od b_ws b_hw u_la b_se b_re z42 u_va u_su u_ce u_ho u_wy u_bt u_ps b_pt u_tg u_sn b_ip u_ic b_ah b_be b_me u_wd b_tr b_ld u_st b_wn u_id))] hP hD ?_
          clear hP hD
          intro hP hD
          refine lv_aload_n hx hb dX12_reckonAll_141 rfl (lv_at hl 4 rfl) ?_
          refine lv_aload_n hx hb dX12_reckonAll_142 rfl (lv_at hl 4 rfl) ?_
          refine va_get (D := G.1) (ci := 12) (v := .int z42) (C := RX12) (T := TX12) (N := 52) hx hb hts inG_X12 hown hK hP 3 rfl rfl 30 (by decide +kernel) (hts _ fl_X12_326) (fun _ h9 => h9) rfl dX12_reckonAll_143 ?_
          refine lv_if_ne (tgt := 169) hx hb dX12_reckonAll_146 (by decide +kernel) (fun c_44 => ?_) (fun c_44 => ?_)
          ·
            have n_44 : gNe (z42.toInt) (0) := g5_ne (a := z42.toInt) (b := 0) rfl (by decide +kernel) c_44
            have i_44 : z42.toInt ≥ 1 := by have z := g5_ne (a := z42.toInt) (b := 0) (by rfl) (by decide +kernel) c_44; omega
            refine lv_iconst (v := 1) hx hb dX12_reckonAll_169 (by decide +kernel) ?_
            refine lv_goto (tgt := 174) hx hb dX12_reckonAll_170 (by decide +kernel) ?_
            refine va_put (D := G.1) (ci := 12) (v := .int 1) (ty := .boolean) (C := RX12) (T := TX12) (N := 52) hx hb hts inG_X12 tyX12 tyX12_ok nmX12 hown hK hP hD hS 3 rfl rfl 30 (by decide +kernel) (hts _ fl_X12_326) (fun _ h9 => h9) rfl (by decide +kernel) rfl rfl (Nat.le_of_ble_eq_true rfl) dX12_reckonAll_174 ?_
            clear hP hD hS
            intro H locs hP hD hS
            refine g5_rs [(b_ro, (arI G 5740 v_ro)), (b_se, (arJ G 13 v_se)), (b_re, (arJ G 400 (vp_updL k10_re (y36 - 1).toNatClampNeg z41))), (b_o, (oc12 u_th u_sa b_rf b_ro b_im b_ke u_fd b_tp u_td u_fr u_to u_so u_wo u_fa u_bd u_nc b_nl u_co b_op b_ar u_le b_pi b_pa u_pd u_od b_ws b_hw u_la b_se b_re 1 u_va u_su u_ce u_ho u_wy u_bt u_ps b_pt u_tg u_sn b_ip u_ic b_ah b_be b_me u_wd b_tr b_ld u_st b_wn u_id))] hP hD ?_
            clear hP hD
            intro hP hD
            refine lv_goto (tgt := 242) hx hb dX12_reckonAll_177 (by decide +kernel) ?_
            refine W.eq (g2 := F0 m 242 ls []) rfl ?_
            refine lv_goto (tgt := 10) hx hb dX12_reckonAll_242 (by decide +kernel) ?_
            exact ih_10_8 ((k10_4 + 1), y36, 1, (vp_updL k10_re (y36 - 1).toNatClampNeg z41)) ls H locs (show Int.toNat (401 - (k10_4 + 1).toInt) < Int.toNat (401 - k10_4.toInt) from g_up (show k10_4.toInt < (k10_4 + 1).toInt by omega) (show k10_4.toInt < 401 by omega)) ⟨lv_sub hl [0, 1, 4, 5, 6] rfl, hP.sub [3, 0, 1, 2] rfl, hD.sub [3, 0, 1, 2] (by decide +kernel) rfl, hS, ⟨by omega, by omega⟩, ⟨by omega, by omega⟩, ⟨by decide, by decide⟩, by omega, fun _ q9 => absurd q9 (by decide +kernel), fun q9 => absurd q9 (by decide +kernel), fun _ => i_40.elim (fun q8 => hH.trans (gn_bin0 (p := (y36 - 1)) (p1 := y36) (by omega) (by omega) hE1 (by omega) (by omega) (by omega) (by omega) (bo_d ⟨q8.1, q8.2.1⟩))) (fun q8 => absurd q8.2.1 (by omega))⟩
          ·
            have i_44 : z42.toInt = 0 := g5_neN (a := z42.toInt) (b := 0) rfl (by decide +kernel) c_44
            refine lv_aload_n hx hb dX12_reckonAll_149 rfl (lv_at hl 4 rfl) ?_
            refine va_get (D := G.1) (ci := 12) (v := .ref b_re) (C := RX12) (T := TX12) (N := 52) hx hb hts inG_X12 hown hK hP 3 rfl rfl 29 (by decide +kernel) (hts _ fl_X12_79) (fun _ h9 => h9) rfl dX12_reckonAll_150 ?_
            refine lv_iload_n hx hb dX12_reckonAll_153 rfl (lv_at hl 0 rfl) ?_
            refine lv_iconst (v := 1) hx hb dX12_reckonAll_154 (by decide +kernel) ?_
            refine W.eq (g2 := F0 m 155 ls [.int 1, .int y36, .ref b_re, .ref b_o]) rfl ?_
            refine lv_isub hx hb dX12_reckonAll_155 ?_
            have t_45 : (y36 - 1).toInt = y36.toInt - 1 := g5_isub (a := y36.toInt) (b := 1) (by rfl) (by decide +kernel) (by omega) (by omega)
            refine va_lald hx hb hK hP 2 1 rfl rfl (i := (y36 - 1)) (vp_in_iff.mpr ⟨by omega, by omega⟩) dX12_reckonAll_156 ?_
            refine lv_ldc2 (v := (-1000000000)) hx hb hown (hts _ kl_X12_336) dX12_reckonAll_157 ?_
            refine lv_ldc2 (v := 1000000000) hx hb hown (hts _ kl_X12_338) dX12_reckonAll_160 ?_
            obtain ⟨hPc, hDc, hFc⟩ := g5_sub3 (wc := []) hP hD hS hA [] (by decide +kernel) rfl
            refine va_calli (va_runS (As := [.long ((vp_updL k10_re (y36 - 1).toNatClampNeg z41) (y36 - 1).toNatClampNeg), .long (-1000000000), .long 1000000000]) (rest := [.ref b_o]) ⟨hx, hb, hml, hown, hts⟩ (n_inB l G H.size ((vp_updL k10_re (y36 - 1).toNatClampNeg z41) (y36 - 1).toNatClampNeg)) (va_cwS 3 hts gS_X12_121 rfl rfl rfl hs_X12_in ⟨Nat.le_of_ble_eq_true rfl, Nat.le_of_ble_eq_true rfl⟩) (g5_preS hPc hK hDc hN hT hS hFc) rfl rfl hl.1 rfl (lv_room (Nat.le_of_ble_eq_true rfl)) dX12_reckonAll_163 ⟨Nat.le_of_ble_eq_true rfl, Nat.le_of_ble_eq_true rfl⟩) hS (fun q _ h => hFc q h) hFc (fun r u t H locs ht hvm hw hB hz1 hk1 hS => ?_)
            obtain ⟨hP1, hD1⟩ := hB
            have hP1 := g5_ht ht hP1
            rcases hw with ⟨(i_46 : -1000000000 ≤ ((vp_updL k10_re (y36 - 1).toNatClampNeg z41) (y36 - 1).toNatClampNeg).toInt ∧ ((vp_updL k10_re (y36 - 1).toNatClampNeg z41) (y36 - 1).toNatClampNeg).toInt ≤ 1000000000), rfl, rfl⟩ | ⟨(i_47 : ((vp_updL k10_re (y36 - 1).toNatClampNeg z41) (y36 - 1).toNatClampNeg).toInt < -1000000000 ∨ 1000000000 < ((vp_updL k10_re (y36 - 1).toNatClampNeg z41) (y36 - 1).toNatClampNeg).toInt), rfl, rfl⟩
            ·
              have hJ9 := g5_same hP hk1
              clear hP hPc hDc hFc ht hvm hz1 hk1 hP1 hD1
              have hP := hJ9
              clear hJ9
              refine lv_if_ne (tgt := 173) hx hb dX12_reckonAll_166 (by decide +kernel) (fun c_48 => ?_) (fun c_48 => ?_)
              ·
                refine lv_iconst (v := 0) hx hb dX12_reckonAll_173 (by decide +kernel) ?_
                refine va_put (D := G.1) (ci := 12) (v := .int 0) (ty := .boolean) (C := RX12) (T := TX12) (N := 52) hx hb hts inG_X12 tyX12 tyX12_ok nmX12 hown hK hP hD hS 3 rfl rfl 30 (by decide +kernel) (hts _ fl_X12_326) (fun _ h9 => h9) rfl (by decide +kernel) rfl rfl (Nat.le_of_ble_eq_true rfl) dX12_reckonAll_174 ?_
                clear hP hD hS
                intro H locs hP hD hS
                refine g5_rs [(b_ro, (arI G 5740 v_ro)), (b_se, (arJ G 13 v_se)), (b_re, (arJ G 400 (vp_updL k10_re (y36 - 1).toNatClampNeg z41))), (b_o, (oc12 u_th u_sa b_rf b_ro b_im b_ke u_fd b_tp u_td u_fr u_to u_so u_wo u_fa u_bd u_nc b_nl u_co b_op b_ar u_le b_pi b_pa u_pd u_od b_ws b_hw u_la b_se b_re 0 u_va u_su u_ce u_ho u_wy u_bt u_ps b_pt u_tg u_sn b_ip u_ic b_ah b_be b_me u_wd b_tr b_ld u_st b_wn u_id))] hP hD ?_
                clear hP hD
                intro hP hD
                refine lv_goto (tgt := 242) hx hb dX12_reckonAll_177 (by decide +kernel) ?_
                refine lv_goto (tgt := 10) hx hb dX12_reckonAll_242 (by decide +kernel) ?_
                exact ih_10_8 ((k10_4 + 1), y36, 0, (vp_updL k10_re (y36 - 1).toNatClampNeg z41)) ls H locs (show Int.toNat (401 - (k10_4 + 1).toInt) < Int.toNat (401 - k10_4.toInt) from g_up (show k10_4.toInt < (k10_4 + 1).toInt by omega) (show k10_4.toInt < 401 by omega)) ⟨lv_sub hl [0, 1, 4, 5, 6] rfl, hP.sub [3, 0, 1, 2] rfl, hD.sub [3, 0, 1, 2] (by decide +kernel) rfl, hS, ⟨by omega, by omega⟩, ⟨by omega, by omega⟩, ⟨by decide, by decide⟩, by omega, fun _ _ => by have e9 : (k10_4 + 1).toInt.toNat = k10_4.toInt.toNat + 1 := (by omega); rw [e9]; omega, fun _ => i_40.elim (fun q8 => absurd q8.2.2 (by omega)) (fun q8 => hH.trans (gn_bin1 (p := (y36 - 1)) (by omega) (by omega) hE1 (by omega) (by omega) (by omega) (by omega) (bo_1 q8.1 q8.2.2 (by first | exact i_46 | simpa only [vpu_eq] using i_46)) (by omega) rfl)), fun q9 => absurd q9 (by first | decide | omega)⟩
              ·
                exact absurd c_48 (by decide +kernel)
            ·
              have hJ9 := g5_same hP hk1
              clear hP hPc hDc hFc ht hvm hz1 hk1 hP1 hD1
              have hP := hJ9
              clear hJ9
              refine lv_if_ne (tgt := 173) hx hb dX12_reckonAll_166 (by decide +kernel) (fun c_49 => ?_) (fun c_49 => ?_)
              ·
                exact absurd c_49 (by decide +kernel)
              ·
                refine lv_iconst (v := 1) hx hb dX12_reckonAll_169 (by decide +kernel) ?_
                refine lv_goto (tgt := 174) hx hb dX12_reckonAll_170 (by decide +kernel) ?_
                refine va_put (D := G.1) (ci := 12) (v := .int 1) (ty := .boolean) (C := RX12) (T := TX12) (N := 52) hx hb hts inG_X12 tyX12 tyX12_ok nmX12 hown hK hP hD hS 3 rfl rfl 30 (by decide +kernel) (hts _ fl_X12_326) (fun _ h9 => h9) rfl (by decide +kernel) rfl rfl (Nat.le_of_ble_eq_true rfl) dX12_reckonAll_174 ?_
                clear hP hD hS
                intro H locs hP hD hS
                refine g5_rs [(b_ro, (arI G 5740 v_ro)), (b_se, (arJ G 13 v_se)), (b_re, (arJ G 400 (vp_updL k10_re (y36 - 1).toNatClampNeg z41))), (b_o, (oc12 u_th u_sa b_rf b_ro b_im b_ke u_fd b_tp u_td u_fr u_to u_so u_wo u_fa u_bd u_nc b_nl u_co b_op b_ar u_le b_pi b_pa u_pd u_od b_ws b_hw u_la b_se b_re 1 u_va u_su u_ce u_ho u_wy u_bt u_ps b_pt u_tg u_sn b_ip u_ic b_ah b_be b_me u_wd b_tr b_ld u_st b_wn u_id))] hP hD ?_
                clear hP hD
                intro hP hD
                refine lv_goto (tgt := 242) hx hb dX12_reckonAll_177 (by decide +kernel) ?_
                refine W.eq (g2 := F0 m 242 ls []) rfl ?_
                refine lv_goto (tgt := 10) hx hb dX12_reckonAll_242 (by decide +kernel) ?_
                exact ih_10_8 ((k10_4 + 1), y36, 1, (vp_updL k10_re (y36 - 1).toNatClampNeg z41)) ls H locs (show Int.toNat (401 - (k10_4 + 1).toInt) < Int.toNat (401 - k10_4.toInt) from g_up (show k10_4.toInt < (k10_4 + 1).toInt by omega) (show k10_4.toInt < 401 by omega)) ⟨lv_sub hl [0, 1, 4, 5, 6] rfl, hP.sub [3, 0, 1, 2] rfl, hD.sub [3, 0, 1, 2] (by decide +kernel) rfl, hS, ⟨by omega, by omega⟩, ⟨by omega, by omega⟩, ⟨by decide, by decide⟩, by omega, fun _ q9 => absurd q9 (by decide +kernel), fun q9 => absurd q9 (by decide +kernel), fun _ => i_40.elim (fun q8 => hH.trans (gn_bin0 (p := (y36 - 1)) (p1 := y36) (by omega) (by omega) hE1 (by omega) (by omega) (by omega) (by omega) (bo_d ⟨q8.1, q8.2.1⟩))) (fun q8 => hH.trans (gn_bin0 (p := (y36 - 1)) (p1 := y36) (by omega) (by omega) hE1 (by omega) (by omega) (by omega) (by omega) (bo_r q8.1 q8.2.2 (by first | exact i_47 | simpa only [vpu_eq] using i_47))))⟩
      ·
        have i_21 : (v_ro ((u_la + 98) + (2 * k10_4)).toNatClampNeg).toInt < 20 := g5_geN (a := (v_ro ((u_la + 98) + (2 * k10_4)).toNatClampNeg).toInt) (b := 20) rfl (by decide +kernel) c_21
        refine lv_aload_n hx hb dX12_reckonAll_73 rfl (lv_at hl 4 rfl) ?_
        refine va_get (D := G.1) (ci := 12) (v := .ref b_re) (C := RX12) (T := TX12) (N := 52) hx hb hts inG_X12 hown hK hP 0 rfl rfl 29 (by decide +kernel) (hts _ fl_X12_79) (fun _ h9 => h9) rfl dX12_reckonAll_74 ?_
        refine lv_iload_n hx hb dX12_reckonAll_77 rfl (lv_at hl 3 rfl) ?_
        refine lv_iload hx hb dX12_reckonAll_78 (lv_at hl 2 rfl) ?_
        refine W.eq (g2 := F0 m 80 ls [.int (v_ro ((u_la + 98) + (2 * k10_4)).toNatClampNeg), .int k10_3, .ref b_re]) rfl ?_
        refine lv_if_ne (tgt := 89) hx hb dX12_reckonAll_80 (by decide +kernel) (fun c_50 => ?_) (fun c_50 => ?_)
        ·
          have n_50 : gNe ((v_ro ((u_la + 98) + (2 * k10_4)).toNatClampNeg).toInt) (0) := g5_ne (a := (v_ro ((u_la + 98) + (2 * k10_4)).toNatClampNeg).toInt) (b := 0) rfl (by decide +kernel) c_50
          have i_50 : (v_ro ((u_la + 98) + (2 * k10_4)).toNatClampNeg).toInt ≥ 1 := by have z := g5_ne (a := (v_ro ((u_la + 98) + (2 * k10_4)).toNatClampNeg).toInt) (b := 0) (by rfl) (by decide +kernel) c_50; omega
          refine lv_aload_n hx hb dX12_reckonAll_89 rfl (lv_at hl 4 rfl) ?_
          refine va_get (D := G.1) (ci := 12) (v := .ref b_se) (C := RX12) (T := TX12) (N := 52) hx hb hts inG_X12 hown hK hP 0 rfl rfl 28 (by decide +kernel) (hts _ fl_X12_76) (fun _ h9 => h9) rfl dX12_reckonAll_90 ?_
          refine lv_iload hx hb dX12_reckonAll_93 (lv_at hl 2 rfl) ?_
          refine va_lald hx hb hK hP 2 1 rfl rfl (i := (v_ro ((u_la + 98) + (2 * k10_4)).toNatClampNeg)) (vp_in_iff.mpr ⟨by omega, by omega⟩) dX12_reckonAll_95 ?_
          refine W.eq (g2 := F0 m 96 ls [.long (v_se (v_ro ((u_la + 98) + (2 * k10_4)).toNatClampNeg).toNatClampNeg), .int k10_3, .ref b_re]) rfl ?_
          refine va_last hx hb hK hP hD hS 3 1 rfl rfl (i := k10_3) (x := (v_se (v_ro ((u_la + 98) + (2 * k10_4)).toNatClampNeg).toNatClampNeg)) (vp_in_iff.mpr ⟨by omega, by omega⟩) dX12_reckonAll_96 ?_
          clear hP hD hS
          intro H locs hP hD hS
          refine g5_rs [(b_o, (oc12 u_th u_sa b_rf b_ro b_im b_ke u_fd b_tp u_td u_fr u_to u_so u_wo u_fa u_bd u_nc b_nl u_co b_op b_ar u_le b_pi b_pa u_pd u_od b_ws b_hw u_la b_se b_re k10_bk u_va u_su u_ce u_ho u_wy u_bt u_ps b_pt u_tg u_sn b_ip u_ic b_ah b_be b_me u_wd b_tr b_ld u_st b_wn u_id)), (b_ro, (arI G 5740 v_ro)), (b_se, (arJ G 13 v_se)), (b_re, (arJ G 400 (vp_updL k10_re k10_3.toNatClampNeg (v_se (v_ro ((u_la + 98) + (2 * k10_4)).toNatClampNeg).toNatClampNeg))))] hP hD ?_
          clear hP hD
          intro hP hD
          refine lv_iinc (v := (k10_3 + 1)) (lv' := [(3, .int (k10_3 + 1)), (4, .int (k10_4 + 1)), (6, .int (v_ro (((u_la + 98) + (2 * k10_4)) + 1).toNatClampNeg)), (5, .int (v_ro ((u_la + 98) + (2 * k10_4)).toNatClampNeg)), (0, .ref b_o), (1, .int p_1), (2, .int p_2)]) hx hb dX12_reckonAll_97 hl (k := 3) rfl rfl (by decide +kernel) rfl ?_
          clear hl
          intro ls hl
          have t_51 : (k10_3 + 1).toInt = k10_3.toInt + 1 := g5_iadd (a := k10_3.toInt) (b := 1) rfl (by decide +kernel) (by omega) (by omega)
          refine lv_goto (tgt := 242) hx hb dX12_reckonAll_100 (by decide +kernel) ?_
          refine lv_goto (tgt := 10) hx hb dX12_reckonAll_242 (by decide +kernel) ?_
          exact ih_10_8 ((k10_4 + 1), (k10_3 + 1), k10_bk, (vp_updL k10_re k10_3.toNatClampNeg (v_se (v_ro ((u_la + 98) + (2 * k10_4)).toNatClampNeg).toNatClampNeg))) ls H locs (show Int.toNat (401 - (k10_4 + 1).toInt) < Int.toNat (401 - k10_4.toInt) from g_up (show k10_4.toInt < (k10_4 + 1).toInt by omega) (show k10_4.toInt < 401 by omega)) ⟨lv_sub hl [0, 1, 4, 5, 6] rfl, hP, hD, hS, ⟨by omega, by omega⟩, ⟨by omega, by omega⟩, i_3, by omega, fun _ _ => by have e9 : (k10_4 + 1).toInt.toNat = k10_4.toInt.toNat + 1 := (by omega); rw [e9]; omega, fun _ => hH.trans (gn_word e_gq (by omega) ⟨by omega, by omega⟩ hE1 ⟨by first | omega | (unfold gNe at *; omega), by omega⟩ (by omega) (by omega) rfl), fun q9 => absurd q9 (by first | decide | omega)⟩
        ·
          have i_50 : (v_ro ((u_la + 98) + (2 * k10_4)).toNatClampNeg).toInt = 0 := g5_neN (a := (v_ro ((u_la + 98) + (2 * k10_4)).toNatClampNeg).toInt) (b := 0) rfl (by decide +kernel) c_50
          refine lv_iload hx hb dX12_reckonAll_83 (lv_at hl 1 rfl) ?_
          refine lv_i2l (v := (v_ro (((u_la + 98) + (2 * k10_4)) + 1).toNatClampNeg).toInt64) hx hb dX12_reckonAll_85 rfl ?_
          refine lv_goto (tgt := 96) hx hb dX12_reckonAll_86 (by decide +kernel) ?_
          refine va_last hx hb hK hP hD hS 3 1 rfl rfl (i := k10_3) (x := (v_ro (((u_la + 98) + (2 * k10_4)) + 1).toNatClampNeg).toInt64) (vp_in_iff.mpr ⟨by omega, by omega⟩) dX12_reckonAll_96 ?_
          clear hP hD hS
          intro H locs hP hD hS
          refine g5_rs [(b_o, (oc12 u_th u_sa b_rf b_ro b_im b_ke u_fd b_tp u_td u_fr u_to u_so u_wo u_fa u_bd u_nc b_nl u_co b_op b_ar u_le b_pi b_pa u_pd u_od b_ws b_hw u_la b_se b_re k10_bk u_va u_su u_ce u_ho u_wy u_bt u_ps b_pt u_tg u_sn b_ip u_ic b_ah b_be b_me u_wd b_tr b_ld u_st b_wn u_id)), (b_ro, (arI G 5740 v_ro)), (b_se, (arJ G 13 v_se)), (b_re, (arJ G 400 (vp_updL k10_re k10_3.toNatClampNeg ((v_ro (((u_la + 98) + (2 * k10_4)) + 1).toNatClampNeg).toInt64))))] hP hD ?_
          clear hP hD
          intro hP hD
          refine W.eq (g2 := F0 m 97 ls []) rfl ?_
          refine lv_iinc (v := (k10_3 + 1)) (lv' := [(3, .int (k10_3 + 1)), (4, .int (k10_4 + 1)), (6, .int (v_ro (((u_la + 98) + (2 * k10_4)) + 1).toNatClampNeg)), (5, .int (v_ro ((u_la + 98) + (2 * k10_4)).toNatClampNeg)), (0, .ref b_o), (1, .int p_1), (2, .int p_2)]) hx hb dX12_reckonAll_97 hl (k := 3) rfl rfl (by decide +kernel) rfl ?_
          clear hl
          intro ls hl
          have t_52 : (k10_3 + 1).toInt = k10_3.toInt + 1 := g5_iadd (a := k10_3.toInt) (b := 1) rfl (by decide +kernel) (by omega) (by omega)
          refine lv_goto (tgt := 242) hx hb dX12_reckonAll_100 (by decide +kernel) ?_
          refine lv_goto (tgt := 10) hx hb dX12_reckonAll_242 (by decide +kernel) ?_
          exact ih_10_8 ((k10_4 + 1), (k10_3 + 1), k10_bk, (vp_updL k10_re k10_3.toNatClampNeg ((v_ro (((u_la + 98) + (2 * k10_4)) + 1).toNatClampNeg).toInt64))) ls H locs (show Int.toNat (401 - (k10_4 + 1).toInt) < Int.toNat (401 - k10_4.toInt) from g_up (show k10_4.toInt < (k10_4 + 1).toInt by omega) (show k10_4.toInt < 401 by omega)) ⟨lv_sub hl [0, 1, 4, 5, 6] rfl, hP, hD, hS, ⟨by omega, by omega⟩, ⟨by omega, by omega⟩, i_3, by omega, fun _ _ => by have e9 : (k10_4 + 1).toInt.toNat = k10_4.toInt.toNat + 1 := (by omega); rw [e9]; omega, fun _ => hH.trans (gn_num (by omega) ⟨by omega, by omega⟩ hE1 hE2 (by omega) (by omega) (by omega) rfl), fun q9 => absurd q9 (by first | decide | omega)⟩
set_option maxHeartbeats 4000000 in
set_option maxRecDepth 100000 in
theorem n_isSoX (l : Launch) (G : g5_G) (b_o b_ro b_se b_re b_rf b_im b_ke b_tp b_nl b_op b_ar b_pi b_pa b_ws b_hw b_pt b_ip b_ah b_be b_me b_tr b_ld b_wn : Nat) (sz : Nat) (u_th : Int32) (u_sa : Int32) (u_fd : Int32) (u_td : Int32) (u_fr : Int32) (u_to : Int32) (u_so : Int32) (u_fa : Int32) (u_bd : Int32) (u_nc : Int32) (u_co : Int32) (u_le : Int32) (u_pd : Int32) (u_od : Int32) (u_la : Int32) (u_bk : Int32) (u_ce : Int32) (u_ho : Int32) (u_wy : Int32) (u_bt : Int32) (u_ps : Int32) (u_tg : Int32) (u_sn : Int32) (u_ic : Int32) (u_wd : Int32) (u_id : Int32) (p_1 : Int32) (u_wo : Int64) (u_va : Int64) (u_su : Int64) (u_st : Int64) (v_ro : Nat → Int32) (v_se : Nat → Int64) (v_re : Nat → Int64) (g_q : Nat → Int64) (g_c : CLT) (h_u_td : 0 ≤ u_td.toInt ∧ u_td.toInt ≤ 400) (h_u_fr : 0 ≤ u_fr.toInt ∧ u_fr.toInt ≤ 400) (h_u_to : 0 ≤ u_to.toInt ∧ u_to.toInt ≤ 400) (h_u_bd : 0 ≤ u_bd.toInt ∧ u_bd.toInt ≤ 1) (h_u_nc : 0 ≤ u_nc.toInt ∧ u_nc.toInt ≤ 12) (h_u_co : 0 ≤ u_co.toInt ∧ u_co.toInt ≤ 400) (h_u_pd : 0 ≤ u_pd.toInt ∧ u_pd.toInt ≤ 400) (h_u_la : 0 ≤ u_la.toInt ∧ u_la.toInt ≤ 4840) (h_u_bk : 0 ≤ u_bk.toInt ∧ u_bk.toInt ≤ 1) (h_u_ce : 0 ≤ u_ce.toInt ∧ u_ce.toInt ≤ 63) (h_u_ho : 0 ≤ u_ho.toInt ∧ u_ho.toInt ≤ 23) (h_u_wy : 0 ≤ u_wy.toInt ∧ u_wy.toInt ≤ 3) (h_u_bt : 0 ≤ u_bt.toInt ∧ u_bt.toInt ≤ 1000000) (h_u_ps : 0 ≤ u_ps.toInt ∧ u_ps.toInt ≤ 200) (h_u_ic : 0 ≤ u_ic.toInt ∧ u_ic.toInt ≤ 1) (h_u_id : 0 ≤ u_id.toInt ∧ u_id.toInt ≤ 1) (h_p_1 : 0 ≤ p_1.toInt ∧ p_1.toInt ≤ 5730) (r_ro : MI v_ro) (e_cl : clOK v_ro u_la.toNatClampNeg p_1.toNatClampNeg) (e_gq : ∀ j : Nat, j < 8 → g_q j = v_se (j + 1)) (e_cm : CLM (fun j => v_ro (u_la.toNatClampNeg + 98 + 2 * j)) (fun j => v_ro (u_la.toNatClampNeg + 98 + 2 * j + 1)) (fun j => v_ro (p_1.toNatClampNeg + j)) 0 g_c) : Met l yX12_isSo (wsG yX12_isSo cX12_isSo 2 (some .boolean)) ({ frames := 2, cells := 0, slots := 0, locals := 51 }) (va_Pc [.ref b_o, .int p_1] (g5_P G [(b_o, (oc12 u_th u_sa b_rf b_ro b_im b_ke u_fd b_tp u_td u_fr u_to u_so u_wo u_fa u_bd u_nc b_nl u_co b_op b_ar u_le b_pi b_pa u_pd u_od b_ws b_hw u_la b_se b_re u_bk u_va u_su u_ce u_ho u_wy u_bt u_ps b_pt u_tg u_sn b_ip u_ic b_ah b_be b_me u_wd b_tr b_ld u_st b_wn u_id)), (b_ro, (arI G 5740 v_ro)), (b_se, (arJ G 13 v_se)), (b_re, (arJ G 400 v_re))] sz)) (va_Qi (fun (r : Int32) (u : va_W) => (∃ (o_r : Int32) (o_bk : Int32) (o_va : Int64) (o_su : Int64) (o_re : Nat → Int64), (0 ≤ o_r.toInt ∧ o_r.toInt ≤ 1) ∧ (0 ≤ o_bk.toInt ∧ o_bk.toInt ≤ 1) ∧ ((o_r.toInt = 1 ∧ ∃ v : Int64, clH g_c g_q = some v ∧ (g_c.1 < 2 → o_su = v)) ∨ (o_r.toInt = 0 ∧ clH g_c g_q = none)) ∧ (r = o_r) ∧ (u = [(b_o, (oc12 u_th u_sa b_rf b_ro b_im b_ke u_fd b_tp u_td u_fr u_to u_so u_wo u_fa u_bd u_nc b_nl u_co b_op b_ar u_le b_pi b_pa u_pd u_od b_ws b_hw u_la b_se b_re o_bk o_va o_su u_ce u_ho u_wy u_bt u_ps b_pt u_tg u_sn b_ip u_ic b_ah b_be b_me u_wd b_tr b_ld u_st b_wn u_id)), (b_ro, (arI G 5740 v_ro)), (b_se, (arJ G 13 v_se)), (b_re, (arJ G 400 o_re))]))) (g5_B G (va_A [(b_o, (oc12 u_th u_sa b_rf b_ro b_im b_ke u_fd b_tp u_td u_fr u_to u_so u_wo u_fa u_bd u_nc b_nl u_co b_op b_ar u_le b_pi b_pa u_pd u_od b_ws b_hw u_la b_se b_re u_bk u_va u_su u_ce u_ho u_wy u_bt u_ps b_pt u_tg u_sn b_ip u_ic b_ah b_be b_me u_wd b_tr b_ld u_st b_wn u_id)), (b_ro, (arI G 5740 v_ro)), (b_se, (arJ G 13 v_se)), (b_re, (arJ G 400 v_re))] sz)) (va_A [(b_o, (oc12 u_th u_sa b_rf b_ro b_im b_ke u_fd b_tp u_td u_fr u_to u_so u_wo u_fa u_bd u_nc b_nl u_co b_op b_ar u_le b_pi b_pa u_pd u_od b_ws b_hw u_la b_se b_re u_bk u_va u_su u_ce u_ho u_wy u_bt u_ps b_pt u_tg u_sn b_ip u_ic b_ah b_be b_me u_wd b_tr b_ld u_st b_wn u_id)), (b_ro, (arI G 5740 v_ro)), (b_se, (arJ G 13 v_se)), (b_re, (arJ G 400 v_re))] sz)) 0 0 (va_A [(b_o, (oc12 u_th u_sa b_rf b_ro b_im b_ke u_fd b_tp u_td u_fr u_to u_so u_wo u_fa u_bd u_nc b_nl u_co b_op b_ar u_le b_pi b_pa u_pd u_od b_ws b_hw u_la b_se b_re u_bk u_va u_su u_ce u_ho u_wy u_bt u_ps b_pt u_tg u_sn b_ip u_ic b_ah b_be b_me u_wd b_tr b_ld u_st b_wn u_id)), (b_ro, (arI G 5740 v_ro)), (b_se, (arJ G 13 v_se)), (b_re, (arJ G 400 v_re))] sz) := by
  refine Met.ofW (cc := cX12_isSo) (maxL := 2) (ret := (some .boolean)) (by decide +kernel) rfl ?_
  intro p e s m args below meth c s₁ B hml hv
  obtain ⟨rfl, hsz, hP, hK, hD0, hN, hT⟩ := hv
  have hx := B.exec
  have hb := B.bytes
  have hr := B.returns
  have hts : ∀ w ∈ tblG, w.before _ s = true := fun w h => atoms_spec (ws := (wsG yX12_isSo cX12_isSo 2 (some .boolean))) B.pre w (List.mem_cons_of_mem _ h)
  have hown : s.vm.findClass RX12 = some m.cls := findClass_of_methodNamed B.named
  have hlocks := B.notSynchronized
  subst hsz
  have hD := hD0.self (sz := s.heap.size)
  generalize hAe : va_A [(b_o, (oc12 u_th u_sa b_rf b_ro b_im b_ke u_fd b_tp u_td u_fr u_to u_so u_wo u_fa u_bd u_nc b_nl u_co b_op b_ar u_le b_pi b_pa u_pd u_od b_ws b_hw u_la b_se b_re u_bk u_va u_su u_ce u_ho u_wy u_bt u_ps b_pt u_tg u_sn b_ip u_ic b_ah b_be b_me u_wd b_tr b_ld u_st b_wn u_id)), (b_ro, (arI G 5740 v_ro)), (b_se, (arJ G 13 v_se)), (b_re, (arJ G 400 v_re))] s.heap.size = A at hD hT ⊢
  have hA : ∀ q : Nat, s.heap.size ≤ q → A q := fun q h => by rw [← hAe]; exact Or.inr h
  have hS : va_S A s.heap s.heap [] := va_S.rf
  replace hP : va_P G.1 vwCl [(b_o, (oc12 u_th u_sa b_rf b_ro b_im b_ke u_fd b_tp u_td u_fr u_to u_so u_wo u_fa u_bd u_nc b_nl u_co b_op b_ar u_le b_pi b_pa u_pd u_od b_ws b_hw u_la b_se b_re u_bk u_va u_su u_ce u_ho u_wy u_bt u_ps b_pt u_tg u_sn b_ip u_ic b_ah b_be b_me u_wd b_tr b_ld u_st b_wn u_id)), (b_ro, (arI G 5740 v_ro)), (b_se, (arJ G 13 v_se)), (b_re, (arJ G 400 v_re))] s.heap := hP
  have hl := lv_entry ([.ref b_o, .int p_1]) (n := 2) (Nat.le_of_ble_eq_true rfl)
  rw [lg_entry_eq]
  generalize (lg_sl ([.ref b_o, .int p_1]) ++ List.replicate (2 - (lg_sl ([.ref b_o, .int p_1])).length) Slot.unset).toArray = ls at hl ⊢
  replace hl : lv_has ls 2 [(0, .ref b_o), (1, .int p_1)] := hl
  have z3 : (p_1 + 3).toNatClampNeg = p_1.toNatClampNeg + 3 := g_clk (n := 3) (by decide +kernel) (by omega) (by omega) (by decide +kernel)
  have z4 : (p_1 + 4).toNatClampNeg = p_1.toNatClampNeg + 4 := g_clk (n := 4) (by decide +kernel) (by omega) (by omega) (by decide +kernel)
  have z5 : (p_1 + 5).toNatClampNeg = p_1.toNatClampNeg + 5 := g_clk (n := 5) (by decide +kernel) (by omega) (by omega) (by decide +kernel)
  have z6 : (p_1 + 6).toNatClampNeg = p_1.toNatClampNeg + 6 := g_clk (n := 6) (by decide +kernel) (by omega) (by omega) (by decide +kernel)
  obtain ⟨c0, c3, c4, c5, c6, d1, d2⟩ := id e_cl
  rw [← z3] at c3 d2
  rw [← z4] at c4 d2
  rw [← z5] at c5 d1
  rw [← z6] at c6 d1
  have hn3 : (fun j => v_ro (p_1.toNatClampNeg + j)) 3 = v_ro (p_1 + 3).toNatClampNeg := by rw [z3]
  have hn4 : (fun j => v_ro (p_1.toNatClampNeg + j)) 4 = v_ro (p_1 + 4).toNatClampNeg := by rw [z4]
  have hn5 : (fun j => v_ro (p_1.toNatClampNeg + j)) 5 = v_ro (p_1 + 5).toNatClampNeg := by rw [z5]
  have hn6 : (fun j => v_ro (p_1.toNatClampNeg + j)) 6 = v_ro (p_1 + 6).toNatClampNeg := by rw [z6]
  have hn0 : (fun j => v_ro (p_1.toNatClampNeg + j)) 0 = v_ro p_1.toNatClampNeg := rfl
  refine lv_aload_n hx hb dX12_isSo_0 rfl (lv_at hl 0 rfl) ?_
  refine va_get (D := G.1) (ci := 12) (v := .ref b_ro) (C := RX12) (T := TX12) (N := 52) hx hb hts inG_X12 hown hK hP 0 rfl rfl 3 (by decide +kernel) (hts _ fl_X12_13) (fun _ h9 => h9) rfl dX12_isSo_1 ?_
  refine lv_iload_n hx hb dX12_isSo_4 rfl (lv_at hl 1 rfl) ?_
  refine lv_iconst (v := 5) hx hb dX12_isSo_5 (by decide +kernel) ?_
  refine W.eq (g2 := F0 m 6 ls [.int 5, .int p_1, .ref b_ro]) rfl ?_
  refine lv_iadd hx hb dX12_isSo_6 ?_
  have t_1 : (p_1 + 5).toInt = p_1.toInt + 5 := g5_iadd (a := p_1.toInt) (b := 5) (by rfl) (by decide +kernel) (by omega) (by omega)
  refine va_iald hx hb hK hP 1 0 rfl rfl (i := (p_1 + 5)) (vp_in_iff.mpr ⟨by omega, by omega⟩) dX12_isSo_7 ?_
  refine lv_aload_n hx hb dX12_isSo_8 rfl (lv_at hl 0 rfl) ?_
  refine va_get (D := G.1) (ci := 12) (v := .ref b_ro) (C := RX12) (T := TX12) (N := 52) hx hb hts inG_X12 hown hK hP 0 rfl rfl 3 (by decide +kernel) (hts _ fl_X12_13) (fun _ h9 => h9) rfl dX12_isSo_9 ?_
  refine lv_iload_n hx hb dX12_isSo_12 rfl (lv_at hl 1 rfl) ?_
  refine W.eq (g2 := F0 m 13 ls [.int p_1, .ref b_ro, .int (v_ro (p_1 + 5).toNatClampNeg)]) rfl ?_
  refine lv_bipush (v := 6) hx hb dX12_isSo_13 (by decide +kernel) ?_
  refine lv_iadd hx hb dX12_isSo_15 ?_
  have t_2 : (p_1 + 6).toInt = p_1.toInt + 6 := g5_iadd (a := p_1.toInt) (b := 6) (by rfl) (by decide +kernel) (by omega) (by omega)
  refine va_iald hx hb hK hP 1 0 rfl rfl (i := (p_1 + 6)) (vp_in_iff.mpr ⟨by omega, by omega⟩) dX12_isSo_16 ?_
  refine lv_icmp_ge (tgt := 59) hx hb dX12_isSo_17 (by decide +kernel) (fun c_3 => ?_) (fun c_3 => ?_)
  ·
    have i_3 : (v_ro (p_1 + 5).toNatClampNeg).toInt ≥ (v_ro (p_1 + 6).toNatClampNeg).toInt := g5_ge (a := (v_ro (p_1 + 5).toNatClampNeg).toInt) (b := (v_ro (p_1 + 6).toNatClampNeg).toInt) rfl rfl c_3
    have hTOK : TSO g_c g_q := so_n e_cm hn5 hn6 (by omega)
    refine lv_aload_n hx hb dX12_isSo_59 rfl (lv_at hl 0 rfl) ?_
    refine va_get (D := G.1) (ci := 12) (v := .ref b_ro) (C := RX12) (T := TX12) (N := 52) hx hb hts inG_X12 hown hK hP 0 rfl rfl 3 (by decide +kernel) (hts _ fl_X12_13) (fun _ h9 => h9) rfl dX12_isSo_60 ?_
    refine lv_iload_n hx hb dX12_isSo_63 rfl (lv_at hl 1 rfl) ?_
    refine va_iald hx hb hK hP 1 0 rfl rfl (i := p_1) (vp_in_iff.mpr ⟨by omega, by omega⟩) dX12_isSo_64 ?_
    refine W.eq (g2 := F0 m 65 ls [.int (v_ro p_1.toNatClampNeg)]) rfl ?_
    refine lv_iconst (v := 2) hx hb dX12_isSo_65 (by decide +kernel) ?_
    refine lv_icmp_ge (tgt := 110) hx hb dX12_isSo_66 (by decide +kernel) (fun c_4 => ?_) (fun c_4 => ?_)
    ·
      have i_4 : (v_ro p_1.toNatClampNeg).toInt ≥ 2 := g5_ge (a := (v_ro p_1.toNatClampNeg).toInt) (b := 2) rfl (by decide +kernel) c_4
      refine lv_iconst (v := 1) hx hb dX12_isSo_110 (by decide +kernel) ?_
      exact W.zret (v := 1) hx hb hr rfl (fun t ht hW => ⟨⟨1, [(b_o, (oc12 u_th u_sa b_rf b_ro b_im b_ke u_fd b_tp u_td u_fr u_to u_so u_wo u_fa u_bd u_nc b_nl u_co b_op b_ar u_le b_pi b_pa u_pd u_od b_ws b_hw u_la b_se b_re u_bk u_va u_su u_ce u_ho u_wy u_bt u_ps b_pt u_tg u_sn b_ip u_ic b_ah b_be b_me u_wd b_tr b_ld u_st b_wn u_id)), (b_ro, (arI G 5740 v_ro)), (b_se, (arJ G 13 v_se)), (b_re, (arJ G 400 v_re))], rfl, ⟨1, u_bk, u_va, u_su, v_re, ⟨by have zc_o_r : (1 : Int32).toInt = 1 := (by decide +kernel); omega, by have zc_o_r : (1 : Int32).toInt = 1 := (by decide +kernel); omega⟩, h_u_bk, Or.inl ⟨by decide, 0, (so_00 e_cm hTOK hn0 (by omega)).1, fun q8 => absurd q8 (by have q7 := (so_00 e_cm hTOK hn0 (by omega)).2; omega)⟩, rfl, rfl⟩, by rw [ht]; exact hP.sub [0, 1, 2, 3] rfl, hD.sub [0, 1, 2, 3] (by decide +kernel) rfl⟩, hS.F ht⟩) hS.2.2 dX12_isSo_111
    ·
      have i_4 : (v_ro p_1.toNatClampNeg).toInt < 2 := g5_geN (a := (v_ro p_1.toNatClampNeg).toInt) (b := 2) rfl (by decide +kernel) c_4
      refine lv_aload_n hx hb dX12_isSo_69 rfl (lv_at hl 0 rfl) ?_
      refine lv_aload_n hx hb dX12_isSo_70 rfl (lv_at hl 0 rfl) ?_
      refine va_get (D := G.1) (ci := 12) (v := .ref b_ro) (C := RX12) (T := TX12) (N := 52) hx hb hts inG_X12 hown hK hP 0 rfl rfl 3 (by decide +kernel) (hts _ fl_X12_13) (fun _ h9 => h9) rfl dX12_isSo_71 ?_
      refine lv_iload_n hx hb dX12_isSo_74 rfl (lv_at hl 1 rfl) ?_
      refine W.eq (g2 := F0 m 75 ls [.int p_1, .ref b_ro, .ref b_o]) rfl ?_
      refine lv_iconst (v := 3) hx hb dX12_isSo_75 (by decide +kernel) ?_
      refine lv_iadd hx hb dX12_isSo_76 ?_
      have t_5 : (p_1 + 3).toInt = p_1.toInt + 3 := g5_iadd (a := p_1.toInt) (b := 3) (by rfl) (by decide +kernel) (by omega) (by omega)
      refine va_iald hx hb hK hP 1 0 rfl rfl (i := (p_1 + 3)) (vp_in_iff.mpr ⟨by omega, by omega⟩) dX12_isSo_77 ?_
      refine lv_aload_n hx hb dX12_isSo_78 rfl (lv_at hl 0 rfl) ?_
      refine va_get (D := G.1) (ci := 12) (v := .ref b_ro) (C := RX12) (T := TX12) (N := 52) hx hb hts inG_X12 hown hK hP 0 rfl rfl 3 (by decide +kernel) (hts _ fl_X12_13) (fun _ h9 => h9) rfl dX12_isSo_79 ?_
      refine W.eq (g2 := F0 m 82 ls [.ref b_ro, .int (v_ro (p_1 + 3).toNatClampNeg), .ref b_o]) rfl ?_
      refine lv_iload_n hx hb dX12_isSo_82 rfl (lv_at hl 1 rfl) ?_
      refine lv_iconst (v := 4) hx hb dX12_isSo_83 (by decide +kernel) ?_
      refine lv_iadd hx hb dX12_isSo_84 ?_
      have t_6 : (p_1 + 4).toInt = p_1.toInt + 4 := g5_iadd (a := p_1.toInt) (b := 4) (by rfl) (by decide +kernel) (by omega) (by omega)
      refine va_iald hx hb hK hP 1 0 rfl rfl (i := (p_1 + 4)) (vp_in_iff.mpr ⟨by omega, by omega⟩) dX12_isSo_85 ?_
      obtain ⟨hPc, hDc, hFc⟩ := g5_sub3 (wc := [(b_o, (oc12 u_th u_sa b_rf b_ro b_im b_ke u_fd b_tp u_td u_fr u_to u_so u_wo u_fa u_bd u_nc b_nl u_co b_op b_ar u_le b_pi b_pa u_pd u_od b_ws b_hw u_la b_se b_re u_bk u_va u_su u_ce u_ho u_wy u_bt u_ps b_pt u_tg u_sn b_ip u_ic b_ah b_be b_me u_wd b_tr b_ld u_st b_wn u_id)), (b_ro, (arI G 5740 v_ro)), (b_se, (arJ G 13 v_se)), (b_re, (arJ G 400 v_re))]) hP hD hS hA [0, 1, 2, 3] (by decide +kernel) rfl
      refine va_callv (va_runV (As := [.int (v_ro (p_1 + 3).toNatClampNeg), .int (v_ro (p_1 + 4).toNatClampNeg)]) (rest := []) ⟨hx, hb, hml, hown, hts⟩ (n_reckonAllX l G b_o b_ro b_se b_re b_rf b_im b_ke b_tp b_nl b_op b_ar b_pi b_pa b_ws b_hw b_pt b_ip b_ah b_be b_me b_tr b_ld b_wn s.heap.size u_th u_sa u_fd u_td u_fr u_to u_so u_fa u_bd u_nc u_co u_le u_pd u_od u_la u_bk u_ce u_ho u_wy u_bt u_ps u_tg u_sn u_ic u_wd u_id (v_ro (p_1 + 3).toNatClampNeg) (v_ro (p_1 + 4).toNatClampNeg) u_wo u_va u_su u_st v_ro v_se v_re g_q h_u_td h_u_fr h_u_to h_u_bd h_u_nc h_u_co h_u_pd h_u_la h_u_bk h_u_ce h_u_ho h_u_wy h_u_bt h_u_ps h_u_ic h_u_id ⟨by omega, by omega⟩ ⟨by omega, by omega⟩ (r_ro) (d2 (by omega)) (e_gq)) (cwV 2 hts gV_X12_343 rfl rfl rfl hv_X12_reckonAll ⟨Nat.le_of_ble_eq_true rfl, Nat.le_of_ble_eq_true rfl⟩) (g5_preV hPc hK hDc hN hT hS hFc (ci := 12) (q0 := 0) rfl rfl) rfl rfl hl.1 rfl (lv_room (Nat.le_of_ble_eq_true rfl)) dX12_isSo_86 ⟨Nat.le_of_ble_eq_true rfl, Nat.le_of_ble_eq_true rfl⟩) hS (fun q _ h => hFc q h) hFc (fun u t H locs ht hvm hw hB hz1 hk1 hS => ?_)
      obtain ⟨hP1, hD1⟩ := hB
      have hP1 := g5_ht ht hP1
      obtain ⟨z9, z10, z11, (i_7 : 0 ≤ z9.toInt ∧ z9.toInt ≤ 1), (i_8 : RKM (fun j => v_ro (u_la.toNatClampNeg + 98 + 2 * j)) (fun j => v_ro (u_la.toNatClampNeg + 98 + 2 * j + 1)) g_q (v_ro (p_1 + 3).toNatClampNeg).toInt.toNat (v_ro (p_1 + 4).toNatClampNeg).toInt.toNat v_re z9 z10), rfl⟩ := hw
      have hJ9 := va_join (wr := []) hP hD [0, 1, 2, 3] [] rfl rfl (by decide +kernel) (by decide +kernel) hk1 hFc hP1 hD1
      clear hP hD hPc hDc hFc ht hvm hz1 hk1 hP1 hD1
      obtain ⟨hP, hD⟩ := hJ9
      refine g5_rs [(b_o, (oc12 u_th u_sa b_rf b_ro b_im b_ke u_fd b_tp u_td u_fr u_to u_so u_wo u_fa u_bd u_nc b_nl u_co b_op b_ar u_le b_pi b_pa u_pd u_od b_ws b_hw u_la b_se b_re z9 z10 u_su u_ce u_ho u_wy u_bt u_ps b_pt u_tg u_sn b_ip u_ic b_ah b_be b_me u_wd b_tr b_ld u_st b_wn u_id)), (b_ro, (arI G 5740 v_ro)), (b_se, (arJ G 13 v_se)), (b_re, (arJ G 400 z11))] hP hD ?_
      clear hP hD
      intro hP hD
      refine W.eq (g2 := F0 m 89 ls []) rfl ?_
      refine lv_aload_n hx hb dX12_isSo_89 rfl (lv_at hl 0 rfl) ?_
      refine lv_aload_n hx hb dX12_isSo_90 rfl (lv_at hl 0 rfl) ?_
      refine va_get (D := G.1) (ci := 12) (v := .long z10) (C := RX12) (T := TX12) (N := 52) hx hb hts inG_X12 hown hK hP 0 rfl rfl 31 (by decide +kernel) (hts _ fl_X12_340) (fun _ h9 => h9) rfl dX12_isSo_91 ?_
      refine va_put (D := G.1) (ci := 12) (v := .long z10) (ty := .long) (C := RX12) (T := TX12) (N := 52) hx hb hts inG_X12 tyX12 tyX12_ok nmX12 hown hK hP hD hS 0 rfl rfl 32 (by decide +kernel) (hts _ fl_X12_346) (fun _ h9 => h9) rfl (by decide +kernel) rfl rfl (Nat.le_of_ble_eq_true rfl) dX12_isSo_94 ?_
      clear hP hD hS
      intro H locs hP hD hS
      refine g5_rs [(b_o, (oc12 u_th u_sa b_rf b_ro b_im b_ke u_fd b_tp u_td u_fr u_to u_so u_wo u_fa u_bd u_nc b_nl u_co b_op b_ar u_le b_pi b_pa u_pd u_od b_ws b_hw u_la b_se b_re z9 z10 z10 u_ce u_ho u_wy u_bt u_ps b_pt u_tg u_sn b_ip u_ic b_ah b_be b_me u_wd b_tr b_ld u_st b_wn u_id)), (b_ro, (arI G 5740 v_ro)), (b_se, (arJ G 13 v_se)), (b_re, (arJ G 400 z11))] hP hD ?_
      clear hP hD
      intro hP hD
      refine lv_aload_n hx hb dX12_isSo_97 rfl (lv_at hl 0 rfl) ?_
      refine W.eq (g2 := F0 m 98 ls [.ref b_o]) rfl ?_
      refine va_get (D := G.1) (ci := 12) (v := .int z9) (C := RX12) (T := TX12) (N := 52) hx hb hts inG_X12 hown hK hP 0 rfl rfl 30 (by decide +kernel) (hts _ fl_X12_326) (fun _ h9 => h9) rfl dX12_isSo_98 ?_
      refine lv_if_ne (tgt := 108) hx hb dX12_isSo_101 (by decide +kernel) (fun c_12 => ?_) (fun c_12 => ?_)
      ·
        have n_12 : gNe (z9.toInt) (0) := g5_ne (a := z9.toInt) (b := 0) rfl (by decide +kernel) c_12
        have i_12 : z9.toInt ≥ 1 := by have z := g5_ne (a := z9.toInt) (b := 0) (by rfl) (by decide +kernel) c_12; omega
        refine lv_iconst (v := 0) hx hb dX12_isSo_108 (by decide +kernel) ?_
        exact W.zret (v := 0) hx hb hr rfl (fun t ht hW => ⟨⟨0, [(b_o, (oc12 u_th u_sa b_rf b_ro b_im b_ke u_fd b_tp u_td u_fr u_to u_so u_wo u_fa u_bd u_nc b_nl u_co b_op b_ar u_le b_pi b_pa u_pd u_od b_ws b_hw u_la b_se b_re z9 z10 z10 u_ce u_ho u_wy u_bt u_ps b_pt u_tg u_sn b_ip u_ic b_ah b_be b_me u_wd b_tr b_ld u_st b_wn u_id)), (b_ro, (arI G 5740 v_ro)), (b_se, (arJ G 13 v_se)), (b_re, (arJ G 400 z11))], rfl, ⟨0, z9, z10, z10, z11, ⟨by have zc_o_r : (0 : Int32).toInt = 0 := (by decide +kernel); omega, by have zc_o_r : (0 : Int32).toInt = 0 := (by decide +kernel); omega⟩, i_7, Or.inr ⟨by decide, (so_s e_cm hTOK hn0 hn3 hn4 (by omega) i_8).elim (fun q8 => q8.1) (fun q8 => absurd q8.2 (by unfold gNe at *; omega))⟩, rfl, rfl⟩, by rw [ht]; exact hP.sub [0, 1, 2, 3] rfl, hD.sub [0, 1, 2, 3] (by decide +kernel) rfl⟩, hS.F ht⟩) hS.2.2 dX12_isSo_109
      ·
        have i_12 : z9.toInt = 0 := g5_neN (a := z9.toInt) (b := 0) rfl (by decide +kernel) c_12
        refine lv_iconst (v := 1) hx hb dX12_isSo_104 (by decide +kernel) ?_
        refine lv_goto (tgt := 109) hx hb dX12_isSo_105 (by decide +kernel) ?_
        exact W.zret (v := 1) hx hb hr rfl (fun t ht hW => ⟨⟨1, [(b_o, (oc12 u_th u_sa b_rf b_ro b_im b_ke u_fd b_tp u_td u_fr u_to u_so u_wo u_fa u_bd u_nc b_nl u_co b_op b_ar u_le b_pi b_pa u_pd u_od b_ws b_hw u_la b_se b_re z9 z10 z10 u_ce u_ho u_wy u_bt u_ps b_pt u_tg u_sn b_ip u_ic b_ah b_be b_me u_wd b_tr b_ld u_st b_wn u_id)), (b_ro, (arI G 5740 v_ro)), (b_se, (arJ G 13 v_se)), (b_re, (arJ G 400 z11))], rfl, ⟨1, z9, z10, z10, z11, ⟨by have zc_o_r : (1 : Int32).toInt = 1 := (by decide +kernel); omega, by have zc_o_r : (1 : Int32).toInt = 1 := (by decide +kernel); omega⟩, i_7, Or.inl ⟨by decide, (so_s e_cm hTOK hn0 hn3 hn4 (by omega) i_8).elim (fun q8 => absurd q8.2 (by omega)) (fun q8 => ⟨_, q8.1, fun _ => rfl⟩)⟩, rfl, rfl⟩, by rw [ht]; exact hP.sub [0, 1, 2, 3] rfl, hD.sub [0, 1, 2, 3] (by decide +kernel) rfl⟩, hS.F ht⟩) hS.2.2 dX12_isSo_109
  ·
    have i_3 : (v_ro (p_1 + 5).toNatClampNeg).toInt < (v_ro (p_1 + 6).toNatClampNeg).toInt := g5_geN (a := (v_ro (p_1 + 5).toNatClampNeg).toInt) (b := (v_ro (p_1 + 6).toNatClampNeg).toInt) rfl rfl c_3
    refine lv_aload_n hx hb dX12_isSo_20 rfl (lv_at hl 0 rfl) ?_
    refine lv_aload_n hx hb dX12_isSo_21 rfl (lv_at hl 0 rfl) ?_
    refine va_get (D := G.1) (ci := 12) (v := .ref b_ro) (C := RX12) (T := TX12) (N := 52) hx hb hts inG_X12 hown hK hP 0 rfl rfl 3 (by decide +kernel) (hts _ fl_X12_13) (fun _ h9 => h9) rfl dX12_isSo_22 ?_
    refine lv_iload_n hx hb dX12_isSo_25 rfl (lv_at hl 1 rfl) ?_
    refine W.eq (g2 := F0 m 26 ls [.int p_1, .ref b_ro, .ref b_o]) rfl ?_
    refine lv_iconst (v := 5) hx hb dX12_isSo_26 (by decide +kernel) ?_
    refine lv_iadd hx hb dX12_isSo_27 ?_
    have t_13 : (p_1 + 5).toInt = p_1.toInt + 5 := g5_iadd (a := p_1.toInt) (b := 5) (by rfl) (by decide +kernel) (by omega) (by omega)
    refine va_iald hx hb hK hP 1 0 rfl rfl (i := (p_1 + 5)) (vp_in_iff.mpr ⟨by omega, by omega⟩) dX12_isSo_28 ?_
    refine lv_aload_n hx hb dX12_isSo_29 rfl (lv_at hl 0 rfl) ?_
    refine va_get (D := G.1) (ci := 12) (v := .ref b_ro) (C := RX12) (T := TX12) (N := 52) hx hb hts inG_X12 hown hK hP 0 rfl rfl 3 (by decide +kernel) (hts _ fl_X12_13) (fun _ h9 => h9) rfl dX12_isSo_30 ?_
    refine W.eq (g2 := F0 m 33 ls [.ref b_ro, .int (v_ro (p_1 + 5).toNatClampNeg), .ref b_o]) rfl ?_
    refine lv_iload_n hx hb dX12_isSo_33 rfl (lv_at hl 1 rfl) ?_
    refine lv_bipush (v := 6) hx hb dX12_isSo_34 (by decide +kernel) ?_
    refine lv_iadd hx hb dX12_isSo_36 ?_
    have t_14 : (p_1 + 6).toInt = p_1.toInt + 6 := g5_iadd (a := p_1.toInt) (b := 6) (by rfl) (by decide +kernel) (by omega) (by omega)
    refine va_iald hx hb hK hP 1 0 rfl rfl (i := (p_1 + 6)) (vp_in_iff.mpr ⟨by omega, by omega⟩) dX12_isSo_37 ?_
    obtain ⟨hPc, hDc, hFc⟩ := g5_sub3 (wc := [(b_o, (oc12 u_th u_sa b_rf b_ro b_im b_ke u_fd b_tp u_td u_fr u_to u_so u_wo u_fa u_bd u_nc b_nl u_co b_op b_ar u_le b_pi b_pa u_pd u_od b_ws b_hw u_la b_se b_re u_bk u_va u_su u_ce u_ho u_wy u_bt u_ps b_pt u_tg u_sn b_ip u_ic b_ah b_be b_me u_wd b_tr b_ld u_st b_wn u_id)), (b_ro, (arI G 5740 v_ro)), (b_se, (arJ G 13 v_se)), (b_re, (arJ G 400 v_re))]) hP hD hS hA [0, 1, 2, 3] (by decide +kernel) rfl
    refine va_callv (va_runV (As := [.int (v_ro (p_1 + 5).toNatClampNeg), .int (v_ro (p_1 + 6).toNatClampNeg)]) (rest := []) ⟨hx, hb, hml, hown, hts⟩ (n_reckonAllX l G b_o b_ro b_se b_re b_rf b_im b_ke b_tp b_nl b_op b_ar b_pi b_pa b_ws b_hw b_pt b_ip b_ah b_be b_me b_tr b_ld b_wn s.heap.size u_th u_sa u_fd u_td u_fr u_to u_so u_fa u_bd u_nc u_co u_le u_pd u_od u_la u_bk u_ce u_ho u_wy u_bt u_ps u_tg u_sn u_ic u_wd u_id (v_ro (p_1 + 5).toNatClampNeg) (v_ro (p_1 + 6).toNatClampNeg) u_wo u_va u_su u_st v_ro v_se v_re g_q h_u_td h_u_fr h_u_to h_u_bd h_u_nc h_u_co h_u_pd h_u_la h_u_bk h_u_ce h_u_ho h_u_wy h_u_bt h_u_ps h_u_ic h_u_id ⟨by omega, by omega⟩ ⟨by omega, by omega⟩ (r_ro) (d1) (e_gq)) (cwV 2 hts gV_X12_343 rfl rfl rfl hv_X12_reckonAll ⟨Nat.le_of_ble_eq_true rfl, Nat.le_of_ble_eq_true rfl⟩) (g5_preV hPc hK hDc hN hT hS hFc (ci := 12) (q0 := 0) rfl rfl) rfl rfl hl.1 rfl (lv_room (Nat.le_of_ble_eq_true rfl)) dX12_isSo_38 ⟨Nat.le_of_ble_eq_true rfl, Nat.le_of_ble_eq_true rfl⟩) hS (fun q _ h => hFc q h) hFc (fun u t H locs ht hvm hw hB hz1 hk1 hS => ?_)
    obtain ⟨hP1, hD1⟩ := hB
    have hP1 := g5_ht ht hP1
    obtain ⟨z17, z18, z19, (i_15 : 0 ≤ z17.toInt ∧ z17.toInt ≤ 1), (i_16 : RKM (fun j => v_ro (u_la.toNatClampNeg + 98 + 2 * j)) (fun j => v_ro (u_la.toNatClampNeg + 98 + 2 * j + 1)) g_q (v_ro (p_1 + 5).toNatClampNeg).toInt.toNat (v_ro (p_1 + 6).toNatClampNeg).toInt.toNat v_re z17 z18), rfl⟩ := hw
    have hJ9 := va_join (wr := []) hP hD [0, 1, 2, 3] [] rfl rfl (by decide +kernel) (by decide +kernel) hk1 hFc hP1 hD1
    clear hP hD hPc hDc hFc ht hvm hz1 hk1 hP1 hD1
    obtain ⟨hP, hD⟩ := hJ9
    refine g5_rs [(b_o, (oc12 u_th u_sa b_rf b_ro b_im b_ke u_fd b_tp u_td u_fr u_to u_so u_wo u_fa u_bd u_nc b_nl u_co b_op b_ar u_le b_pi b_pa u_pd u_od b_ws b_hw u_la b_se b_re z17 z18 u_su u_ce u_ho u_wy u_bt u_ps b_pt u_tg u_sn b_ip u_ic b_ah b_be b_me u_wd b_tr b_ld u_st b_wn u_id)), (b_ro, (arI G 5740 v_ro)), (b_se, (arJ G 13 v_se)), (b_re, (arJ G 400 z19))] hP hD ?_
    clear hP hD
    intro hP hD
    refine W.eq (g2 := F0 m 41 ls []) rfl ?_
    refine lv_aload_n hx hb dX12_isSo_41 rfl (lv_at hl 0 rfl) ?_
    refine va_get (D := G.1) (ci := 12) (v := .int z17) (C := RX12) (T := TX12) (N := 52) hx hb hts inG_X12 hown hK hP 0 rfl rfl 30 (by decide +kernel) (hts _ fl_X12_326) (fun _ h9 => h9) rfl dX12_isSo_42 ?_
    refine lv_if_ne (tgt := 57) hx hb dX12_isSo_45 (by decide +kernel) (fun c_20 => ?_) (fun c_20 => ?_)
    ·
      have n_20 : gNe (z17.toInt) (0) := g5_ne (a := z17.toInt) (b := 0) rfl (by decide +kernel) c_20
      have i_20 : z17.toInt ≥ 1 := by have z := g5_ne (a := z17.toInt) (b := 0) (by rfl) (by decide +kernel) c_20; omega
      refine lv_iconst (v := 0) hx hb dX12_isSo_57 (by decide +kernel) ?_
      exact W.zret (v := 0) hx hb hr rfl (fun t ht hW => ⟨⟨0, [(b_o, (oc12 u_th u_sa b_rf b_ro b_im b_ke u_fd b_tp u_td u_fr u_to u_so u_wo u_fa u_bd u_nc b_nl u_co b_op b_ar u_le b_pi b_pa u_pd u_od b_ws b_hw u_la b_se b_re z17 z18 u_su u_ce u_ho u_wy u_bt u_ps b_pt u_tg u_sn b_ip u_ic b_ah b_be b_me u_wd b_tr b_ld u_st b_wn u_id)), (b_ro, (arI G 5740 v_ro)), (b_se, (arJ G 13 v_se)), (b_re, (arJ G 400 z19))], rfl, ⟨0, z17, z18, u_su, z19, ⟨by have zc_o_r : (0 : Int32).toInt = 0 := (by decide +kernel); omega, by have zc_o_r : (0 : Int32).toInt = 0 := (by decide +kernel); omega⟩, i_15, Or.inr ⟨by decide, (so_t e_cm hn5 hn6 (by omega) i_16).elim (fun q8 => q8.1) (fun q8 => by first | exact absurd q8.2.1 (by unfold gNe at *; omega) | exact absurd (eq_z (by omega)) q8.2.2)⟩, rfl, rfl⟩, by rw [ht]; exact hP.sub [0, 1, 2, 3] rfl, hD.sub [0, 1, 2, 3] (by decide +kernel) rfl⟩, hS.F ht⟩) hS.2.2 dX12_isSo_58
    ·
      have i_20 : z17.toInt = 0 := g5_neN (a := z17.toInt) (b := 0) rfl (by decide +kernel) c_20
      refine lv_aload_n hx hb dX12_isSo_48 rfl (lv_at hl 0 rfl) ?_
      refine va_get (D := G.1) (ci := 12) (v := .long z18) (C := RX12) (T := TX12) (N := 52) hx hb hts inG_X12 hown hK hP 0 rfl rfl 31 (by decide +kernel) (hts _ fl_X12_340) (fun _ h9 => h9) rfl dX12_isSo_49 ?_
      refine lv_lconst (v := 0) hx hb dX12_isSo_52 (by decide +kernel) ?_
      have tl_21 : (0 : Int64).toInt = 0 := (by decide +kernel)
      have tc_22 := g5_cmpI z18 (0 : Int64)
      refine W.lcmp hx hb dX12_isSo_53 ?_
      refine W.eq (g2 := F0 m 54 ls [.int (lg_cmp z18 0)]) rfl ?_
      refine lv_if_ne (tgt := 59) hx hb dX12_isSo_54 (by decide +kernel) (fun c_23 => ?_) (fun c_23 => ?_)
      ·
        have n_23 : gNe ((lg_cmp z18 0).toInt) (0) := g5_ne (a := (lg_cmp z18 0).toInt) (b := 0) rfl (by decide +kernel) c_23
        have hTOK : TSO g_c g_q := (so_t e_cm hn5 hn6 (by omega) i_16).elim (fun q8 => q8.2.elim (fun q7 => absurd q7 (by omega)) (fun q7 => absurd q7 (ne_z (by first | omega | (unfold gNe at *; omega))))) (fun q8 => q8.1)
        refine lv_aload_n hx hb dX12_isSo_59 rfl (lv_at hl 0 rfl) ?_
        refine va_get (D := G.1) (ci := 12) (v := .ref b_ro) (C := RX12) (T := TX12) (N := 52) hx hb hts inG_X12 hown hK hP 0 rfl rfl 3 (by decide +kernel) (hts _ fl_X12_13) (fun _ h9 => h9) rfl dX12_isSo_60 ?_
        refine lv_iload_n hx hb dX12_isSo_63 rfl (lv_at hl 1 rfl) ?_
        refine va_iald hx hb hK hP 1 0 rfl rfl (i := p_1) (vp_in_iff.mpr ⟨by omega, by omega⟩) dX12_isSo_64 ?_
        refine W.eq (g2 := F0 m 65 ls [.int (v_ro p_1.toNatClampNeg)]) rfl ?_
        refine lv_iconst (v := 2) hx hb dX12_isSo_65 (by decide +kernel) ?_
        refine lv_icmp_ge (tgt := 110) hx hb dX12_isSo_66 (by decide +kernel) (fun c_24 => ?_) (fun c_24 => ?_)
        ·
          have i_24 : (v_ro p_1.toNatClampNeg).toInt ≥ 2 := g5_ge (a := (v_ro p_1.toNatClampNeg).toInt) (b := 2) rfl (by decide +kernel) c_24
          refine lv_iconst (v := 1) hx hb dX12_isSo_110 (by decide +kernel) ?_
          exact W.zret (v := 1) hx hb hr rfl (fun t ht hW => ⟨⟨1, [(b_o, (oc12 u_th u_sa b_rf b_ro b_im b_ke u_fd b_tp u_td u_fr u_to u_so u_wo u_fa u_bd u_nc b_nl u_co b_op b_ar u_le b_pi b_pa u_pd u_od b_ws b_hw u_la b_se b_re z17 z18 u_su u_ce u_ho u_wy u_bt u_ps b_pt u_tg u_sn b_ip u_ic b_ah b_be b_me u_wd b_tr b_ld u_st b_wn u_id)), (b_ro, (arI G 5740 v_ro)), (b_se, (arJ G 13 v_se)), (b_re, (arJ G 400 z19))], rfl, ⟨1, z17, z18, u_su, z19, ⟨by have zc_o_r : (1 : Int32).toInt = 1 := (by decide +kernel); omega, by have zc_o_r : (1 : Int32).toInt = 1 := (by decide +kernel); omega⟩, i_15, Or.inl ⟨by decide, 0, (so_00 e_cm hTOK hn0 (by omega)).1, fun q8 => absurd q8 (by have q7 := (so_00 e_cm hTOK hn0 (by omega)).2; omega)⟩, rfl, rfl⟩, by rw [ht]; exact hP.sub [0, 1, 2, 3] rfl, hD.sub [0, 1, 2, 3] (by decide +kernel) rfl⟩, hS.F ht⟩) hS.2.2 dX12_isSo_111
        ·
          have i_24 : (v_ro p_1.toNatClampNeg).toInt < 2 := g5_geN (a := (v_ro p_1.toNatClampNeg).toInt) (b := 2) rfl (by decide +kernel) c_24
          refine lv_aload_n hx hb dX12_isSo_69 rfl (lv_at hl 0 rfl) ?_
          refine lv_aload_n hx hb dX12_isSo_70 rfl (lv_at hl 0 rfl) ?_
          refine va_get (D := G.1) (ci := 12) (v := .ref b_ro) (C := RX12) (T := TX12) (N := 52) hx hb hts inG_X12 hown hK hP 0 rfl rfl 3 (by decide +kernel) (hts _ fl_X12_13) (fun _ h9 => h9) rfl dX12_isSo_71 ?_
          refine lv_iload_n hx hb dX12_isSo_74 rfl (lv_at hl 1 rfl) ?_
          refine W.eq (g2 := F0 m 75 ls [.int p_1, .ref b_ro, .ref b_o]) rfl ?_
          refine lv_iconst (v := 3) hx hb dX12_isSo_75 (by decide +kernel) ?_
          refine lv_iadd hx hb dX12_isSo_76 ?_
          have t_25 : (p_1 + 3).toInt = p_1.toInt + 3 := g5_iadd (a := p_1.toInt) (b := 3) (by rfl) (by decide +kernel) (by omega) (by omega)
          refine va_iald hx hb hK hP 1 0 rfl rfl (i := (p_1 + 3)) (vp_in_iff.mpr ⟨by omega, by omega⟩) dX12_isSo_77 ?_
          refine lv_aload_n hx hb dX12_isSo_78 rfl (lv_at hl 0 rfl) ?_
          refine va_get (D := G.1) (ci := 12) (v := .ref b_ro) (C := RX12) (T := TX12) (N := 52) hx hb hts inG_X12 hown hK hP 0 rfl rfl 3 (by decide +kernel) (hts _ fl_X12_13) (fun _ h9 => h9) rfl dX12_isSo_79 ?_
          refine W.eq (g2 := F0 m 82 ls [.ref b_ro, .int (v_ro (p_1 + 3).toNatClampNeg), .ref b_o]) rfl ?_
          refine lv_iload_n hx hb dX12_isSo_82 rfl (lv_at hl 1 rfl) ?_
          refine lv_iconst (v := 4) hx hb dX12_isSo_83 (by decide +kernel) ?_
          refine lv_iadd hx hb dX12_isSo_84 ?_
          have t_26 : (p_1 + 4).toInt = p_1.toInt + 4 := g5_iadd (a := p_1.toInt) (b := 4) (by rfl) (by decide +kernel) (by omega) (by omega)
          refine va_iald hx hb hK hP 1 0 rfl rfl (i := (p_1 + 4)) (vp_in_iff.mpr ⟨by omega, by omega⟩) dX12_isSo_85 ?_
          obtain ⟨hPc, hDc, hFc⟩ := g5_sub3 (wc := [(b_o, (oc12 u_th u_sa b_rf b_ro b_im b_ke u_fd b_tp u_td u_fr u_to u_so u_wo u_fa u_bd u_nc b_nl u_co b_op b_ar u_le b_pi b_pa u_pd u_od b_ws b_hw u_la b_se b_re z17 z18 u_su u_ce u_ho u_wy u_bt u_ps b_pt u_tg u_sn b_ip u_ic b_ah b_be b_me u_wd b_tr b_ld u_st b_wn u_id)), (b_ro, (arI G 5740 v_ro)), (b_se, (arJ G 13 v_se)), (b_re, (arJ G 400 z19))]) hP hD hS hA [0, 1, 2, 3] (by decide +kernel) rfl
          refine va_callv (va_runV (As := [.int (v_ro (p_1 + 3).toNatClampNeg), .int (v_ro (p_1 + 4).toNatClampNeg)]) (rest := []) ⟨hx, hb, hml, hown, hts⟩ (n_reckonAllX l G b_o b_ro b_se b_re b_rf b_im b_ke b_tp b_nl b_op b_ar b_pi b_pa b_ws b_hw b_pt b_ip b_ah b_be b_me b_tr b_ld b_wn H.size u_th u_sa u_fd u_td u_fr u_to u_so u_fa u_bd u_nc u_co u_le u_pd u_od u_la z17 u_ce u_ho u_wy u_bt u_ps u_tg u_sn u_ic u_wd u_id (v_ro (p_1 + 3).toNatClampNeg) (v_ro (p_1 + 4).toNatClampNeg) u_wo z18 u_su u_st v_ro v_se z19 g_q h_u_td h_u_fr h_u_to h_u_bd h_u_nc h_u_co h_u_pd h_u_la i_15 h_u_ce h_u_ho h_u_wy h_u_bt h_u_ps h_u_ic h_u_id ⟨by omega, by omega⟩ ⟨by omega, by omega⟩ (r_ro) (d2 (by omega)) (e_gq)) (cwV 2 hts gV_X12_343 rfl rfl rfl hv_X12_reckonAll ⟨Nat.le_of_ble_eq_true rfl, Nat.le_of_ble_eq_true rfl⟩) (g5_preV hPc hK hDc hN hT hS hFc (ci := 12) (q0 := 0) rfl rfl) rfl rfl hl.1 rfl (lv_room (Nat.le_of_ble_eq_true rfl)) dX12_isSo_86 ⟨Nat.le_of_ble_eq_true rfl, Nat.le_of_ble_eq_true rfl⟩) hS (fun q _ h => hFc q h) hFc (fun u t H locs ht hvm hw hB hz1 hk1 hS => ?_)
          obtain ⟨hP1, hD1⟩ := hB
          have hP1 := g5_ht ht hP1
          obtain ⟨z29, z30, z31, (i_27 : 0 ≤ z29.toInt ∧ z29.toInt ≤ 1), (i_28 : RKM (fun j => v_ro (u_la.toNatClampNeg + 98 + 2 * j)) (fun j => v_ro (u_la.toNatClampNeg + 98 + 2 * j + 1)) g_q (v_ro (p_1 + 3).toNatClampNeg).toInt.toNat (v_ro (p_1 + 4).toNatClampNeg).toInt.toNat z19 z29 z30), rfl⟩ := hw
          have hJ9 := va_join (wr := []) hP hD [0, 1, 2, 3] [] rfl rfl (by decide +kernel) (by decide +kernel) hk1 hFc hP1 hD1
          clear hP hD hPc hDc hFc ht hvm hz1 hk1 hP1 hD1
          obtain ⟨hP, hD⟩ := hJ9
          refine g5_rs [(b_o, (oc12 u_th u_sa b_rf b_ro b_im b_ke u_fd b_tp u_td u_fr u_to u_so u_wo u_fa u_bd u_nc b_nl u_co b_op b_ar u_le b_pi b_pa u_pd u_od b_ws b_hw u_la b_se b_re z29 z30 u_su u_ce u_ho u_wy u_bt u_ps b_pt u_tg u_sn b_ip u_ic b_ah b_be b_me u_wd b_tr b_ld u_st b_wn u_id)), (b_ro, (arI G 5740 v_ro)), (b_se, (arJ G 13 v_se)), (b_re, (arJ G 400 z31))] hP hD ?_
          clear hP hD
          intro hP hD
          refine W.eq (g2 := F0 m 89 ls []) rfl ?_
          refine lv_aload_n hx hb dX12_isSo_89 rfl (lv_at hl 0 rfl) ?_
          refine lv_aload_n hx hb dX12_isSo_90 rfl (lv_at hl 0 rfl) ?_
          refine va_get (D := G.1) (ci := 12) (v := .long z30) (C := RX12) (T := TX12) (N := 52) hx hb hts inG_X12 hown hK hP 0 rfl rfl 31 (by decide +kernel) (hts _ fl_X12_340) (fun _ h9 => h9) rfl dX12_isSo_91 ?_
          refine va_put (D := G.1) (ci := 12) (v := .long z30) (ty := .long) (C := RX12) (T := TX12) (N := 52) hx hb hts inG_X12 tyX12 tyX12_ok nmX12 hown hK hP hD hS 0 rfl rfl 32 (by decide +kernel) (hts _ fl_X12_346) (fun _ h9 => h9) rfl (by decide +kernel) rfl rfl (Nat.le_of_ble_eq_true rfl) dX12_isSo_94 ?_
          clear hP hD hS
          intro H locs hP hD hS
          refine g5_rs [(b_o, (oc12 u_th u_sa b_rf b_ro b_im b_ke u_fd b_tp u_td u_fr u_to u_so u_wo u_fa u_bd u_nc b_nl u_co b_op b_ar u_le b_pi b_pa u_pd u_od b_ws b_hw u_la b_se b_re z29 z30 z30 u_ce u_ho u_wy u_bt u_ps b_pt u_tg u_sn b_ip u_ic b_ah b_be b_me u_wd b_tr b_ld u_st b_wn u_id)), (b_ro, (arI G 5740 v_ro)), (b_se, (arJ G 13 v_se)), (b_re, (arJ G 400 z31))] hP hD ?_
          clear hP hD
          intro hP hD
          refine lv_aload_n hx hb dX12_isSo_97 rfl (lv_at hl 0 rfl) ?_
          refine W.eq (g2 := F0 m 98 ls [.ref b_o]) rfl ?_
          refine va_get (D := G.1) (ci := 12) (v := .int z29) (C := RX12) (T := TX12) (N := 52) hx hb hts inG_X12 hown hK hP 0 rfl rfl 30 (by decide +kernel) (hts _ fl_X12_326) (fun _ h9 => h9) rfl dX12_isSo_98 ?_
          refine lv_if_ne (tgt := 108) hx hb dX12_isSo_101 (by decide +kernel) (fun c_32 => ?_) (fun c_32 => ?_)
          ·
            have n_32 : gNe (z29.toInt) (0) := g5_ne (a := z29.toInt) (b := 0) rfl (by decide +kernel) c_32
            have i_32 : z29.toInt ≥ 1 := by have z := g5_ne (a := z29.toInt) (b := 0) (by rfl) (by decide +kernel) c_32; omega
            refine lv_iconst (v := 0) hx hb dX12_isSo_108 (by decide +kernel) ?_
            exact W.zret (v := 0) hx hb hr rfl (fun t ht hW => ⟨⟨0, [(b_o, (oc12 u_th u_sa b_rf b_ro b_im b_ke u_fd b_tp u_td u_fr u_to u_so u_wo u_fa u_bd u_nc b_nl u_co b_op b_ar u_le b_pi b_pa u_pd u_od b_ws b_hw u_la b_se b_re z29 z30 z30 u_ce u_ho u_wy u_bt u_ps b_pt u_tg u_sn b_ip u_ic b_ah b_be b_me u_wd b_tr b_ld u_st b_wn u_id)), (b_ro, (arI G 5740 v_ro)), (b_se, (arJ G 13 v_se)), (b_re, (arJ G 400 z31))], rfl, ⟨0, z29, z30, z30, z31, ⟨by have zc_o_r : (0 : Int32).toInt = 0 := (by decide +kernel); omega, by have zc_o_r : (0 : Int32).toInt = 0 := (by decide +kernel); omega⟩, i_27, Or.inr ⟨by decide, (so_s e_cm hTOK hn0 hn3 hn4 (by omega) i_28).elim (fun q8 => q8.1) (fun q8 => absurd q8.2 (by unfold gNe at *; omega))⟩, rfl, rfl⟩, by rw [ht]; exact hP.sub [0, 1, 2, 3] rfl, hD.sub [0, 1, 2, 3] (by decide +kernel) rfl⟩, hS.F ht⟩) hS.2.2 dX12_isSo_109
          ·
            have i_32 : z29.toInt = 0 := g5_neN (a := z29.toInt) (b := 0) rfl (by decide +kernel) c_32
            refine lv_iconst (v := 1) hx hb dX12_isSo_104 (by decide +kernel) ?_
            refine lv_goto (tgt := 109) hx hb dX12_isSo_105 (by decide +kernel) ?_
            exact W.zret (v := 1) hx hb hr rfl (fun t ht hW => ⟨⟨1, [(b_o, (oc12 u_th u_sa b_rf b_ro b_im b_ke u_fd b_tp u_td u_fr u_to u_so u_wo u_fa u_bd u_nc b_nl u_co b_op b_ar u_le b_pi b_pa u_pd u_od b_ws b_hw u_la b_se b_re z29 z30 z30 u_ce u_ho u_wy u_bt u_ps b_pt u_tg u_sn b_ip u_ic b_ah b_be b_me u_wd b_tr b_ld u_st b_wn u_id)), (b_ro, (arI G 5740 v_ro)), (b_se, (arJ G 13 v_se)), (b_re, (arJ G 400 z31))], rfl, ⟨1, z29, z30, z30, z31, ⟨by have zc_o_r : (1 : Int32).toInt = 1 := (by decide +kernel); omega, by have zc_o_r : (1 : Int32).toInt = 1 := (by decide +kernel); omega⟩, i_27, Or.inl ⟨by decide, (so_s e_cm hTOK hn0 hn3 hn4 (by omega) i_28).elim (fun q8 => absurd q8.2 (by omega)) (fun q8 => ⟨_, q8.1, fun _ => rfl⟩)⟩, rfl, rfl⟩, by rw [ht]; exact hP.sub [0, 1, 2, 3] rfl, hD.sub [0, 1, 2, 3] (by decide +kernel) rfl⟩, hS.F ht⟩) hS.2.2 dX12_isSo_109
      ·
        have i_23 : (lg_cmp z18 0).toInt = 0 := g5_neN (a := (lg_cmp z18 0).toInt) (b := 0) rfl (by decide +kernel) c_23
        refine lv_iconst (v := 0) hx hb dX12_isSo_57 (by decide +kernel) ?_
        exact W.zret (v := 0) hx hb hr rfl (fun t ht hW => ⟨⟨0, [(b_o, (oc12 u_th u_sa b_rf b_ro b_im b_ke u_fd b_tp u_td u_fr u_to u_so u_wo u_fa u_bd u_nc b_nl u_co b_op b_ar u_le b_pi b_pa u_pd u_od b_ws b_hw u_la b_se b_re z17 z18 u_su u_ce u_ho u_wy u_bt u_ps b_pt u_tg u_sn b_ip u_ic b_ah b_be b_me u_wd b_tr b_ld u_st b_wn u_id)), (b_ro, (arI G 5740 v_ro)), (b_se, (arJ G 13 v_se)), (b_re, (arJ G 400 z19))], rfl, ⟨0, z17, z18, u_su, z19, ⟨by have zc_o_r : (0 : Int32).toInt = 0 := (by decide +kernel); omega, by have zc_o_r : (0 : Int32).toInt = 0 := (by decide +kernel); omega⟩, i_15, Or.inr ⟨by decide, (so_t e_cm hn5 hn6 (by omega) i_16).elim (fun q8 => q8.1) (fun q8 => by first | exact absurd q8.2.1 (by unfold gNe at *; omega) | exact absurd (eq_z (by omega)) q8.2.2)⟩, rfl, rfl⟩, by rw [ht]; exact hP.sub [0, 1, 2, 3] rfl, hD.sub [0, 1, 2, 3] (by decide +kernel) rfl⟩, hS.F ht⟩) hS.2.2 dX12_isSo_58
theorem ak_al2 : ∀ n : Nat, n < 64 → (nI n - nI n / 8 * 8) = Int32.ofInt ((nI n).toInt % 8) := by decide +kernel
theorem ak_ce2 {ce : Int32} (h : 0 ≤ ce.toInt ∧ ce.toInt ≤ 63) : (ce - ce / 8 * 8) = Int32.ofInt (ce.toInt % 8) := by
  have z := ak_al2 ce.toInt.toNat (by omega)
  rw [← g5_nI h.1] at z; exact z
theorem ask_m2 {f : Nat → Int64} {g ce ho wy bo n br b7 : Int32} (hc : 0 ≤ ce.toInt ∧ ce.toInt ≤ 63) (hb : b7.toInt = br.toInt / 1000) : ∀ j : Nat, j < 8 → askQ g ce ho wy bo n br j = (vp_updL (vp_updL (vp_updL (vp_updL (vp_updL (vp_updL (vp_updL (vp_updL f 1 g.toInt64) 2 (ce - ce / 8 * 8).toInt64) 3 (ce / 8).toInt64) 4 ho.toInt64) 5 wy.toInt64) 6 bo.toInt64) 7 n.toInt64) 8 b7.toInt64) (j + 1) := by
  have e := (ak_ce hc).2.2.1
  rw [ak_ce2 hc, ← e]
  exact ask_m hc hb
set_option maxHeartbeats 4000000 in
set_option maxRecDepth 100000 in
theorem n_asksX (l : Launch) (G : g5_G) (b_o b_ro b_se b_re b_rf b_im b_ke b_tp b_nl b_op b_ar b_pi b_pa b_ws b_hw b_pt b_ip b_ah b_be b_me b_tr b_ld b_wn : Nat) (sz : Nat) (u_th : Int32) (u_sa : Int32) (u_fd : Int32) (u_td : Int32) (u_fr : Int32) (u_to : Int32) (u_so : Int32) (u_fa : Int32) (u_bd : Int32) (u_nc : Int32) (u_co : Int32) (u_le : Int32) (u_pd : Int32) (u_od : Int32) (u_la : Int32) (u_bk : Int32) (u_ce : Int32) (u_ho : Int32) (u_wy : Int32) (u_bt : Int32) (u_ps : Int32) (u_tg : Int32) (u_sn : Int32) (u_ic : Int32) (u_wd : Int32) (u_id : Int32) (p_1 : Int32) (p_2 : Int32) (p_3 : Int32) (p_4 : Int32) (p_5 : Int32) (u_wo : Int64) (u_va : Int64) (u_su : Int64) (u_st : Int64) (v_ro : Nat → Int32) (v_se : Nat → Int64) (v_re : Nat → Int64) (g_w : Option (List CLT)) (h_u_td : 0 ≤ u_td.toInt ∧ u_td.toInt ≤ 400) (h_u_fr : 0 ≤ u_fr.toInt ∧ u_fr.toInt ≤ 400) (h_u_to : 0 ≤ u_to.toInt ∧ u_to.toInt ≤ 400) (h_u_bd : 0 ≤ u_bd.toInt ∧ u_bd.toInt ≤ 1) (h_u_nc : 0 ≤ u_nc.toInt ∧ u_nc.toInt ≤ 12) (h_u_co : 0 ≤ u_co.toInt ∧ u_co.toInt ≤ 400) (h_u_pd : 0 ≤ u_pd.toInt ∧ u_pd.toInt ≤ 400) (h_u_la : 0 ≤ u_la.toInt ∧ u_la.toInt ≤ 4840) (h_u_bk : 0 ≤ u_bk.toInt ∧ u_bk.toInt ≤ 1) (h_u_ce : 0 ≤ u_ce.toInt ∧ u_ce.toInt ≤ 63) (h_u_ho : 0 ≤ u_ho.toInt ∧ u_ho.toInt ≤ 23) (h_u_wy : 0 ≤ u_wy.toInt ∧ u_wy.toInt ≤ 3) (h_u_bt : 0 ≤ u_bt.toInt ∧ u_bt.toInt ≤ 1000000) (h_u_ps : 0 ≤ u_ps.toInt ∧ u_ps.toInt ≤ 200) (h_u_ic : 0 ≤ u_ic.toInt ∧ u_ic.toInt ≤ 1) (h_u_id : 0 ≤ u_id.toInt ∧ u_id.toInt ≤ 1) (h_p_4 : 0 ≤ p_4.toInt ∧ p_4.toInt ≤ 23) (h_p_5 : 0 ≤ p_5.toInt ∧ p_5.toInt ≤ 23) (r_ro : MI v_ro) (e_wm : p_4.toInt ≤ p_5.toInt) (e_mf : MLF v_ro g_w) (e_h1 : p_1.toInt < 2 ∨ p_5.toInt = 1) : Met l yX12_asks (wsG yX12_asks cX12_asks 10 (some .int)) ({ frames := 3, cells := 0, slots := 0, locals := 72 }) (va_Pc [.ref b_o, .int p_1, .int p_2, .int p_3, .int p_4, .int p_5] (g5_P G [(b_o, (oc12 u_th u_sa b_rf b_ro b_im b_ke u_fd b_tp u_td u_fr u_to u_so u_wo u_fa u_bd u_nc b_nl u_co b_op b_ar u_le b_pi b_pa u_pd u_od b_ws b_hw u_la b_se b_re u_bk u_va u_su u_ce u_ho u_wy u_bt u_ps b_pt u_tg u_sn b_ip u_ic b_ah b_be b_me u_wd b_tr b_ld u_st b_wn u_id)), (b_ro, (arI G 5740 v_ro)), (b_se, (arJ G 13 v_se)), (b_re, (arJ G 400 v_re))] sz)) (va_Qi (fun (r : Int32) (u : va_W) => (∃ (o_r : Int32) (o_la : Int32) (o_bk : Int32) (o_va : Int64) (o_su : Int64) (o_se : Nat → Int64) (o_re : Nat → Int64), (0 ≤ o_r.toInt ∧ o_r.toInt ≤ 23) ∧ (0 ≤ o_r.toInt ∧ o_r.toInt ≤ p_5.toInt) ∧ (0 ≤ o_la.toInt ∧ o_la.toInt ≤ 4840) ∧ (0 ≤ o_bk.toInt ∧ o_bk.toInt ≤ 1) ∧ (o_r = askA (toldW g_w p_1.toInt (askQ p_2 u_ce u_ho u_wy p_3 u_ps u_bt)) p_1.toInt p_4 p_5) ∧ (r = o_r) ∧ (u = [(b_o, (oc12 u_th u_sa b_rf b_ro b_im b_ke u_fd b_tp u_td u_fr u_to u_so u_wo u_fa u_bd u_nc b_nl u_co b_op b_ar u_le b_pi b_pa u_pd u_od b_ws b_hw o_la b_se b_re o_bk o_va o_su u_ce u_ho u_wy u_bt u_ps b_pt u_tg u_sn b_ip u_ic b_ah b_be b_me u_wd b_tr b_ld u_st b_wn u_id)), (b_ro, (arI G 5740 v_ro)), (b_se, (arJ G 13 o_se)), (b_re, (arJ G 400 o_re))]))) (g5_B G (va_A [(b_o, (oc12 u_th u_sa b_rf b_ro b_im b_ke u_fd b_tp u_td u_fr u_to u_so u_wo u_fa u_bd u_nc b_nl u_co b_op b_ar u_le b_pi b_pa u_pd u_od b_ws b_hw u_la b_se b_re u_bk u_va u_su u_ce u_ho u_wy u_bt u_ps b_pt u_tg u_sn b_ip u_ic b_ah b_be b_me u_wd b_tr b_ld u_st b_wn u_id)), (b_ro, (arI G 5740 v_ro)), (b_se, (arJ G 13 v_se)), (b_re, (arJ G 400 v_re))] sz)) (va_A [(b_o, (oc12 u_th u_sa b_rf b_ro b_im b_ke u_fd b_tp u_td u_fr u_to u_so u_wo u_fa u_bd u_nc b_nl u_co b_op b_ar u_le b_pi b_pa u_pd u_od b_ws b_hw u_la b_se b_re u_bk u_va u_su u_ce u_ho u_wy u_bt u_ps b_pt u_tg u_sn b_ip u_ic b_ah b_be b_me u_wd b_tr b_ld u_st b_wn u_id)), (b_ro, (arI G 5740 v_ro)), (b_se, (arJ G 13 v_se)), (b_re, (arJ G 400 v_re))] sz)) 0 0 (va_A [(b_o, (oc12 u_th u_sa b_rf b_ro b_im b_ke u_fd b_tp u_td u_fr u_to u_so u_wo u_fa u_bd u_nc b_nl u_co b_op b_ar u_le b_pi b_pa u_pd u_od b_ws b_hw u_la b_se b_re u_bk u_va u_su u_ce u_ho u_wy u_bt u_ps b_pt u_tg u_sn b_ip u_ic b_ah b_be b_me u_wd b_tr b_ld u_st b_wn u_id)), (b_ro, (arI G 5740 v_ro)), (b_se, (arJ G 13 v_se)), (b_re, (arJ G 400 v_re))] sz) := by
  refine Met.ofW (cc := cX12_asks) (maxL := 10) (ret := (some .int)) (by decide +kernel) rfl ?_
  intro p e s m args below meth c s₁ B hml hv
  obtain ⟨rfl, hsz, hP, hK, hD0, hN, hT⟩ := hv
  have hx := B.exec
  have hb := B.bytes
  have hr := B.returns
  have hts : ∀ w ∈ tblG, w.before _ s = true := fun w h => atoms_spec (ws := (wsG yX12_asks cX12_asks 10 (some .int))) B.pre w (List.mem_cons_of_mem _ h)
  have hown : s.vm.findClass RX12 = some m.cls := findClass_of_methodNamed B.named
  have hlocks := B.notSynchronized
  subst hsz
  have hD := hD0.self (sz := s.heap.size)
  generalize hAe : va_A [(b_o, (oc12 u_th u_sa b_rf b_ro b_im b_ke u_fd b_tp u_td u_fr u_to u_so u_wo u_fa u_bd u_nc b_nl u_co b_op b_ar u_le b_pi b_pa u_pd u_od b_ws b_hw u_la b_se b_re u_bk u_va u_su u_ce u_ho u_wy u_bt u_ps b_pt u_tg u_sn b_ip u_ic b_ah b_be b_me u_wd b_tr b_ld u_st b_wn u_id)), (b_ro, (arI G 5740 v_ro)), (b_se, (arJ G 13 v_se)), (b_re, (arJ G 400 v_re))] s.heap.size = A at hD hT ⊢
  have hA : ∀ q : Nat, s.heap.size ≤ q → A q := fun q h => by rw [← hAe]; exact Or.inr h
  have hS : va_S A s.heap s.heap [] := va_S.rf
  replace hP : va_P G.1 vwCl [(b_o, (oc12 u_th u_sa b_rf b_ro b_im b_ke u_fd b_tp u_td u_fr u_to u_so u_wo u_fa u_bd u_nc b_nl u_co b_op b_ar u_le b_pi b_pa u_pd u_od b_ws b_hw u_la b_se b_re u_bk u_va u_su u_ce u_ho u_wy u_bt u_ps b_pt u_tg u_sn b_ip u_ic b_ah b_be b_me u_wd b_tr b_ld u_st b_wn u_id)), (b_ro, (arI G 5740 v_ro)), (b_se, (arJ G 13 v_se)), (b_re, (arJ G 400 v_re))] s.heap := hP
  have hl := lv_entry ([.ref b_o, .int p_1, .int p_2, .int p_3, .int p_4, .int p_5]) (n := 10) (Nat.le_of_ble_eq_true rfl)
  rw [lg_entry_eq]
  generalize (lg_sl ([.ref b_o, .int p_1, .int p_2, .int p_3, .int p_4, .int p_5]) ++ List.replicate (10 - (lg_sl ([.ref b_o, .int p_1, .int p_2, .int p_3, .int p_4, .int p_5])).length) Slot.unset).toArray = ls at hl ⊢
  replace hl : lv_has ls 10 [(0, .ref b_o), (1, .int p_1), (2, .int p_2), (3, .int p_3), (4, .int p_4), (5, .int p_5)] := hl
  refine lv_aload_n hx hb dX12_asks_0 rfl (lv_at hl 0 rfl) ?_
  refine va_get (D := G.1) (ci := 12) (v := .ref b_ro) (C := RX12) (T := TX12) (N := 52) hx hb hts inG_X12 hown hK hP 0 rfl rfl 3 (by decide +kernel) (hts _ fl_X12_13) (fun _ h9 => h9) rfl dX12_asks_1 ?_
  refine lv_iconst (v := 3) hx hb dX12_asks_4 (by decide +kernel) ?_
  refine va_iald hx hb hK hP 1 0 rfl rfl (i := 3) (by unfold vp_in; decide) dX12_asks_5 ?_
  refine g5_ti (v := (v_ro 3)) rfl ?_
  have hr_1 : (-1) ≤ (v_ro 3).toInt ∧ (v_ro 3).toInt ≤ 5 := mi_3 r_ro
  refine W.eq (g2 := F0 m 6 ls [.int (v_ro 3)]) rfl ?_
  refine lv_iconst (v := (-1)) hx hb dX12_asks_6 (by decide +kernel) ?_
  refine lv_icmp_ne (tgt := 13) hx hb dX12_asks_7 (by decide +kernel) (fun c_2 => ?_) (fun c_2 => ?_)
  ·
    have n_2 : gNe ((v_ro 3).toInt) ((-1)) := g5_ne (a := (v_ro 3).toInt) (b := (-1)) rfl (by decide +kernel) c_2
    have i_2 : (v_ro 3).toInt ≥ 0 := by have z := g5_ne (a := (v_ro 3).toInt) (b := (-1)) (by rfl) (by decide +kernel) c_2; omega
    have hF1 : 0 ≤ (v_ro 3).toInt ∧ ∃ L : List CLT, g_w = some L ∧ MLAW v_ro (v_ro 3).toInt.toNat L := e_mf.resolve_left (fun q9 => by have q8 := q9.1; unfold gNe at *; omega)
    obtain ⟨hF0, LL, hLw, hLM⟩ := hF1
    refine lv_aload_n hx hb dX12_asks_13 rfl (lv_at hl 0 rfl) ?_
    refine lv_sipush (v := 340) hx hb dX12_asks_14 (by decide +kernel) ?_
    refine lv_sipush (v := 900) hx hb dX12_asks_17 (by decide +kernel) ?_
    refine lv_aload_n hx hb dX12_asks_20 rfl (lv_at hl 0 rfl) ?_
    refine W.eq (g2 := F0 m 21 ls [.ref b_o, .int 900, .int 340, .ref b_o]) rfl ?_
    refine va_get (D := G.1) (ci := 12) (v := .ref b_ro) (C := RX12) (T := TX12) (N := 52) hx hb hts inG_X12 hown hK hP 0 rfl rfl 3 (by decide +kernel) (hts _ fl_X12_13) (fun _ h9 => h9) rfl dX12_asks_21 ?_
    refine lv_iconst (v := 3) hx hb dX12_asks_24 (by decide +kernel) ?_
    refine va_iald hx hb hK hP 1 0 rfl rfl (i := 3) (by unfold vp_in; decide) dX12_asks_25 ?_
    refine g5_ti (v := (v_ro 3)) rfl ?_
    have hr_3 : (-1) ≤ (v_ro 3).toInt ∧ (v_ro 3).toInt ≤ 5 := mi_3 r_ro
    refine lv_imul hx hb dX12_asks_26 ?_
    have t_4 : (900 * (v_ro 3)).toInt = 900 * (v_ro 3).toInt := g5_imul (a := 900) (b := (v_ro 3).toInt) (by decide +kernel) (by rfl) (by omega) (by omega)
    refine lv_iadd hx hb dX12_asks_27 ?_
    have t_5 : (340 + (900 * (v_ro 3))).toInt = 340 + (900 * (v_ro 3)).toInt := g5_iadd (a := 340) (b := (900 * (v_ro 3)).toInt) (by decide +kernel) (by rfl) (by omega) (by omega)
    refine W.eq (g2 := F0 m 28 ls [.int (340 + (900 * (v_ro 3))), .ref b_o]) rfl ?_
    refine va_put (D := G.1) (ci := 12) (v := .int (340 + (900 * (v_ro 3)))) (ty := .int) (C := RX12) (T := TX12) (N := 52) hx hb hts inG_X12 tyX12 tyX12_ok nmX12 hown hK hP hD hS 0 rfl rfl 27 (by decide +kernel) (hts _ fl_X12_329) (fun _ h9 => h9) rfl (by decide +kernel) rfl rfl (Nat.le_of_ble_eq_true rfl) dX12_asks_28 ?_
    clear hP hD hS
    intro H locs hP hD hS
    refine g5_rs [(b_o, (oc12 u_th u_sa b_rf b_ro b_im b_ke u_fd b_tp u_td u_fr u_to u_so u_wo u_fa u_bd u_nc b_nl u_co b_op b_ar u_le b_pi b_pa u_pd u_od b_ws b_hw (340 + (900 * (v_ro 3))) b_se b_re u_bk u_va u_su u_ce u_ho u_wy u_bt u_ps b_pt u_tg u_sn b_ip u_ic b_ah b_be b_me u_wd b_tr b_ld u_st b_wn u_id)), (b_ro, (arI G 5740 v_ro)), (b_se, (arJ G 13 v_se)), (b_re, (arJ G 400 v_re))] hP hD ?_
    clear hP hD
    intro hP hD
    refine lv_aload_n hx hb dX12_asks_31 rfl (lv_at hl 0 rfl) ?_
    refine va_get (D := G.1) (ci := 12) (v := .ref b_se) (C := RX12) (T := TX12) (N := 52) hx hb hts inG_X12 hown hK hP 0 rfl rfl 28 (by decide +kernel) (hts _ fl_X12_76) (fun _ h9 => h9) rfl dX12_asks_32 ?_
    refine lv_iconst (v := 1) hx hb dX12_asks_35 (by decide +kernel) ?_
    refine lv_iload_n hx hb dX12_asks_36 rfl (lv_at hl 2 rfl) ?_
    refine W.eq (g2 := F0 m 37 ls [.int p_2, .int 1, .ref b_se]) rfl ?_
    refine lv_i2l (v := p_2.toInt64) hx hb dX12_asks_37 rfl ?_
    refine va_last hx hb hK hP hD hS 2 1 rfl rfl (i := 1) (x := p_2.toInt64) (by unfold vp_in; decide) dX12_asks_38 ?_
    clear hP hD hS
    intro H locs hP hD hS
    refine g5_rs [(b_o, (oc12 u_th u_sa b_rf b_ro b_im b_ke u_fd b_tp u_td u_fr u_to u_so u_wo u_fa u_bd u_nc b_nl u_co b_op b_ar u_le b_pi b_pa u_pd u_od b_ws b_hw (340 + (900 * (v_ro 3))) b_se b_re u_bk u_va u_su u_ce u_ho u_wy u_bt u_ps b_pt u_tg u_sn b_ip u_ic b_ah b_be b_me u_wd b_tr b_ld u_st b_wn u_id)), (b_ro, (arI G 5740 v_ro)), (b_se, (arJ G 13 (vp_updL v_se 1 p_2.toInt64))), (b_re, (arJ G 400 v_re))] hP hD ?_
    clear hP hD
    intro hP hD
    refine lv_aload_n hx hb dX12_asks_39 rfl (lv_at hl 0 rfl) ?_
    refine va_get (D := G.1) (ci := 12) (v := .ref b_se) (C := RX12) (T := TX12) (N := 52) hx hb hts inG_X12 hown hK hP 0 rfl rfl 28 (by decide +kernel) (hts _ fl_X12_76) (fun _ h9 => h9) rfl dX12_asks_40 ?_
    refine lv_iconst (v := 2) hx hb dX12_asks_43 (by decide +kernel) ?_
    refine W.eq (g2 := F0 m 44 ls [.int 2, .ref b_se]) rfl ?_
    refine lv_aload_n hx hb dX12_asks_44 rfl (lv_at hl 0 rfl) ?_
    refine va_get (D := G.1) (ci := 12) (v := .int u_ce) (C := RX12) (T := TX12) (N := 52) hx hb hts inG_X12 hown hK hP 0 rfl rfl 33 (by decide +kernel) (hts _ fl_X12_349) (fun _ h9 => h9) rfl dX12_asks_45 ?_
    refine lv_bipush (v := 8) hx hb dX12_asks_48 (by decide +kernel) ?_
    refine lv_irem hx hb dX12_asks_50 (by decide +kernel) ?_
    have t_6 : (u_ce - u_ce / 8 * 8).toInt = u_ce.toInt % 8 := g5_irem (a := u_ce.toInt) (b := 8) rfl (by decide +kernel) (by omega) (by decide +kernel)
    refine lv_i2l (v := (u_ce - u_ce / 8 * 8).toInt64) hx hb dX12_asks_51 rfl ?_
    refine W.eq (g2 := F0 m 52 ls [.long (u_ce - u_ce / 8 * 8).toInt64, .int 2, .ref b_se]) rfl ?_
    refine va_last hx hb hK hP hD hS 2 1 rfl rfl (i := 2) (x := (u_ce - u_ce / 8 * 8).toInt64) (by unfold vp_in; decide) dX12_asks_52 ?_
    clear hP hD hS
    intro H locs hP hD hS
    refine g5_rs [(b_o, (oc12 u_th u_sa b_rf b_ro b_im b_ke u_fd b_tp u_td u_fr u_to u_so u_wo u_fa u_bd u_nc b_nl u_co b_op b_ar u_le b_pi b_pa u_pd u_od b_ws b_hw (340 + (900 * (v_ro 3))) b_se b_re u_bk u_va u_su u_ce u_ho u_wy u_bt u_ps b_pt u_tg u_sn b_ip u_ic b_ah b_be b_me u_wd b_tr b_ld u_st b_wn u_id)), (b_ro, (arI G 5740 v_ro)), (b_se, (arJ G 13 (vp_updL (vp_updL v_se 1 p_2.toInt64) 2 ((u_ce - u_ce / 8 * 8).toInt64)))), (b_re, (arJ G 400 v_re))] hP hD ?_
    clear hP hD
    intro hP hD
    refine lv_aload_n hx hb dX12_asks_53 rfl (lv_at hl 0 rfl) ?_
    refine va_get (D := G.1) (ci := 12) (v := .ref b_se) (C := RX12) (T := TX12) (N := 52) hx hb hts inG_X12 hown hK hP 0 rfl rfl 28 (by decide +kernel) (hts _ fl_X12_76) (fun _ h9 => h9) rfl dX12_asks_54 ?_
    refine lv_iconst (v := 3) hx hb dX12_asks_57 (by decide +kernel) ?_
    refine lv_aload_n hx hb dX12_asks_58 rfl (lv_at hl 0 rfl) ?_
    refine W.eq (g2 := F0 m 59 ls [.ref b_o, .int 3, .ref b_se]) rfl ?_
    refine va_get (D := G.1) (ci := 12) (v := .int u_ce) (C := RX12) (T := TX12) (N := 52) hx hb hts inG_X12 hown hK hP 0 rfl rfl 33 (by decide +kernel) (hts _ fl_X12_349) (fun _ h9 => h9) rfl dX12_asks_59 ?_
    refine lv_bipush (v := 8) hx hb dX12_asks_62 (by decide +kernel) ?_
    refine lv_idiv hx hb dX12_asks_64 (by decide +kernel) ?_
    have t_7 : (u_ce / 8).toInt = u_ce.toInt / 8 := g5_idiv (a := u_ce.toInt) (b := 8) rfl (by decide +kernel) (by omega) (by decide +kernel)
    refine lv_i2l (v := (u_ce / 8).toInt64) hx hb dX12_asks_65 rfl ?_
    refine va_last hx hb hK hP hD hS 2 1 rfl rfl (i := 3) (x := (u_ce / 8).toInt64) (by unfold vp_in; decide) dX12_asks_66 ?_
    clear hP hD hS
    intro H locs hP hD hS
    refine g5_rs [(b_o, (oc12 u_th u_sa b_rf b_ro b_im b_ke u_fd b_tp u_td u_fr u_to u_so u_wo u_fa u_bd u_nc b_nl u_co b_op b_ar u_le b_pi b_pa u_pd u_od b_ws b_hw (340 + (900 * (v_ro 3))) b_se b_re u_bk u_va u_su u_ce u_ho u_wy u_bt u_ps b_pt u_tg u_sn b_ip u_ic b_ah b_be b_me u_wd b_tr b_ld u_st b_wn u_id)), (b_ro, (arI G 5740 v_ro)), (b_se, (arJ G 13 (vp_updL (vp_updL (vp_updL v_se 1 p_2.toInt64) 2 ((u_ce - u_ce / 8 * 8).toInt64)) 3 ((u_ce / 8).toInt64)))), (b_re, (arJ G 400 v_re))] hP hD ?_
    clear hP hD
    intro hP hD
    refine W.eq (g2 := F0 m 67 ls []) rfl ?_
    refine lv_aload_n hx hb dX12_asks_67 rfl (lv_at hl 0 rfl) ?_
    refine va_get (D := G.1) (ci := 12) (v := .ref b_se) (C := RX12) (T := TX12) (N := 52) hx hb hts inG_X12 hown hK hP 0 rfl rfl 28 (by decide +kernel) (hts _ fl_X12_76) (fun _ h9 => h9) rfl dX12_asks_68 ?_
    refine lv_iconst (v := 4) hx hb dX12_asks_71 (by decide +kernel) ?_
    refine lv_aload_n hx hb dX12_asks_72 rfl (lv_at hl 0 rfl) ?_
    refine va_get (D := G.1) (ci := 12) (v := .int u_ho) (C := RX12) (T := TX12) (N := 52) hx hb hts inG_X12 hown hK hP 0 rfl rfl 34 (by decide +kernel) (hts _ fl_X12_352) (fun _ h9 => h9) rfl dX12_asks_73 ?_
    refine W.eq (g2 := F0 m 76 ls [.int u_ho, .int 4, .ref b_se]) rfl ?_
    refine lv_i2l (v := u_ho.toInt64) hx hb dX12_asks_76 rfl ?_
    refine va_last hx hb hK hP hD hS 2 1 rfl rfl (i := 4) (x := u_ho.toInt64) (by unfold vp_in; decide) dX12_asks_77 ?_
    clear hP hD hS
    intro H locs hP hD hS
    refine g5_rs [(b_o, (oc12 u_th u_sa b_rf b_ro b_im b_ke u_fd b_tp u_td u_fr u_to u_so u_wo u_fa u_bd u_nc b_nl u_co b_op b_ar u_le b_pi b_pa u_pd u_od b_ws b_hw (340 + (900 * (v_ro 3))) b_se b_re u_bk u_va u_su u_ce u_ho u_wy u_bt u_ps b_pt u_tg u_sn b_ip u_ic b_ah b_be b_me u_wd b_tr b_ld u_st b_wn u_id)), (b_ro, (arI G 5740 v_ro)), (b_se, (arJ G 13 (vp_updL (vp_updL (vp_updL (vp_updL v_se 1 p_2.toInt64) 2 ((u_ce - u_ce / 8 * 8).toInt64)) 3 ((u_ce / 8).toInt64)) 4 u_ho.toInt64))), (b_re, (arJ G 400 v_re))] hP hD ?_
    clear hP hD
    intro hP hD
    refine lv_aload_n hx hb dX12_asks_78 rfl (lv_at hl 0 rfl) ?_
    refine va_get (D := G.1) (ci := 12) (v := .ref b_se) (C := RX12) (T := TX12) (N := 52) hx hb hts inG_X12 hown hK hP 0 rfl rfl 28 (by decide +kernel) (hts _ fl_X12_76) (fun _ h9 => h9) rfl dX12_asks_79 ?_
    refine lv_iconst (v := 5) hx hb dX12_asks_82 (by decide +kernel) ?_
    refine W.eq (g2 := F0 m 83 ls [.int 5, .ref b_se]) rfl ?_
    refine lv_aload_n hx hb dX12_asks_83 rfl (lv_at hl 0 rfl) ?_
    refine va_get (D := G.1) (ci := 12) (v := .int u_wy) (C := RX12) (T := TX12) (N := 52) hx hb hts inG_X12 hown hK hP 0 rfl rfl 35 (by decide +kernel) (hts _ fl_X12_355) (fun _ h9 => h9) rfl dX12_asks_84 ?_
    refine lv_i2l (v := u_wy.toInt64) hx hb dX12_asks_87 rfl ?_
    refine va_last hx hb hK hP hD hS 2 1 rfl rfl (i := 5) (x := u_wy.toInt64) (by unfold vp_in; decide) dX12_asks_88 ?_
    clear hP hD hS
    intro H locs hP hD hS
    refine g5_rs [(b_o, (oc12 u_th u_sa b_rf b_ro b_im b_ke u_fd b_tp u_td u_fr u_to u_so u_wo u_fa u_bd u_nc b_nl u_co b_op b_ar u_le b_pi b_pa u_pd u_od b_ws b_hw (340 + (900 * (v_ro 3))) b_se b_re u_bk u_va u_su u_ce u_ho u_wy u_bt u_ps b_pt u_tg u_sn b_ip u_ic b_ah b_be b_me u_wd b_tr b_ld u_st b_wn u_id)), (b_ro, (arI G 5740 v_ro)), (b_se, (arJ G 13 (vp_updL (vp_updL (vp_updL (vp_updL (vp_updL v_se 1 p_2.toInt64) 2 ((u_ce - u_ce / 8 * 8).toInt64)) 3 ((u_ce / 8).toInt64)) 4 u_ho.toInt64) 5 u_wy.toInt64))), (b_re, (arJ G 400 v_re))] hP hD ?_
    clear hP hD
    intro hP hD
    refine lv_aload_n hx hb dX12_asks_89 rfl (lv_at hl 0 rfl) ?_
    refine W.eq (g2 := F0 m 90 ls [.ref b_o]) rfl ?_
    refine va_get (D := G.1) (ci := 12) (v := .ref b_se) (C := RX12) (T := TX12) (N := 52) hx hb hts inG_X12 hown hK hP 0 rfl rfl 28 (by decide +kernel) (hts _ fl_X12_76) (fun _ h9 => h9) rfl dX12_asks_90 ?_
    refine lv_bipush (v := 6) hx hb dX12_asks_93 (by decide +kernel) ?_
    refine lv_iload_n hx hb dX12_asks_95 rfl (lv_at hl 3 rfl) ?_
    refine lv_i2l (v := p_3.toInt64) hx hb dX12_asks_96 rfl ?_
    refine va_last hx hb hK hP hD hS 2 1 rfl rfl (i := 6) (x := p_3.toInt64) (by unfold vp_in; decide) dX12_asks_97 ?_
    clear hP hD hS
    intro H locs hP hD hS
    refine g5_rs [(b_o, (oc12 u_th u_sa b_rf b_ro b_im b_ke u_fd b_tp u_td u_fr u_to u_so u_wo u_fa u_bd u_nc b_nl u_co b_op b_ar u_le b_pi b_pa u_pd u_od b_ws b_hw (340 + (900 * (v_ro 3))) b_se b_re u_bk u_va u_su u_ce u_ho u_wy u_bt u_ps b_pt u_tg u_sn b_ip u_ic b_ah b_be b_me u_wd b_tr b_ld u_st b_wn u_id)), (b_ro, (arI G 5740 v_ro)), (b_se, (arJ G 13 (vp_updL (vp_updL (vp_updL (vp_updL (vp_updL (vp_updL v_se 1 p_2.toInt64) 2 ((u_ce - u_ce / 8 * 8).toInt64)) 3 ((u_ce / 8).toInt64)) 4 u_ho.toInt64) 5 u_wy.toInt64) 6 p_3.toInt64))), (b_re, (arJ G 400 v_re))] hP hD ?_
    clear hP hD
    intro hP hD
    refine W.eq (g2 := F0 m 98 ls []) rfl ?_
    refine lv_aload_n hx hb dX12_asks_98 rfl (lv_at hl 0 rfl) ?_
    refine va_get (D := G.1) (ci := 12) (v := .ref b_se) (C := RX12) (T := TX12) (N := 52) hx hb hts inG_X12 hown hK hP 0 rfl rfl 28 (by decide +kernel) (hts _ fl_X12_76) (fun _ h9 => h9) rfl dX12_asks_99 ?_
    refine lv_bipush (v := 7) hx hb dX12_asks_102 (by decide +kernel) ?_
    refine lv_aload_n hx hb dX12_asks_104 rfl (lv_at hl 0 rfl) ?_
    refine va_get (D := G.1) (ci := 12) (v := .int u_ps) (C := RX12) (T := TX12) (N := 52) hx hb hts inG_X12 hown hK hP 0 rfl rfl 37 (by decide +kernel) (hts _ fl_X12_358) (fun _ h9 => h9) rfl dX12_asks_105 ?_
    refine W.eq (g2 := F0 m 108 ls [.int u_ps, .int 7, .ref b_se]) rfl ?_
    refine lv_i2l (v := u_ps.toInt64) hx hb dX12_asks_108 rfl ?_
    refine va_last hx hb hK hP hD hS 2 1 rfl rfl (i := 7) (x := u_ps.toInt64) (by unfold vp_in; decide) dX12_asks_109 ?_
    clear hP hD hS
    intro H locs hP hD hS
    refine g5_rs [(b_o, (oc12 u_th u_sa b_rf b_ro b_im b_ke u_fd b_tp u_td u_fr u_to u_so u_wo u_fa u_bd u_nc b_nl u_co b_op b_ar u_le b_pi b_pa u_pd u_od b_ws b_hw (340 + (900 * (v_ro 3))) b_se b_re u_bk u_va u_su u_ce u_ho u_wy u_bt u_ps b_pt u_tg u_sn b_ip u_ic b_ah b_be b_me u_wd b_tr b_ld u_st b_wn u_id)), (b_ro, (arI G 5740 v_ro)), (b_se, (arJ G 13 (vp_updL (vp_updL (vp_updL (vp_updL (vp_updL (vp_updL (vp_updL v_se 1 p_2.toInt64) 2 ((u_ce - u_ce / 8 * 8).toInt64)) 3 ((u_ce / 8).toInt64)) 4 u_ho.toInt64) 5 u_wy.toInt64) 6 p_3.toInt64) 7 u_ps.toInt64))), (b_re, (arJ G 400 v_re))] hP hD ?_
    clear hP hD
    intro hP hD
    refine lv_aload_n hx hb dX12_asks_110 rfl (lv_at hl 0 rfl) ?_
    refine va_get (D := G.1) (ci := 12) (v := .ref b_se) (C := RX12) (T := TX12) (N := 52) hx hb hts inG_X12 hown hK hP 0 rfl rfl 28 (by decide +kernel) (hts _ fl_X12_76) (fun _ h9 => h9) rfl dX12_asks_111 ?_
    refine lv_bipush (v := 8) hx hb dX12_asks_114 (by decide +kernel) ?_
    refine W.eq (g2 := F0 m 116 ls [.int 8, .ref b_se]) rfl ?_
    refine lv_aload_n hx hb dX12_asks_116 rfl (lv_at hl 0 rfl) ?_
    refine va_get (D := G.1) (ci := 12) (v := .int u_bt) (C := RX12) (T := TX12) (N := 52) hx hb hts inG_X12 hown hK hP 0 rfl rfl 36 (by decide +kernel) (hts _ fl_X12_361) (fun _ h9 => h9) rfl dX12_asks_117 ?_
    refine lv_sipush (v := 1000) hx hb dX12_asks_120 (by decide +kernel) ?_
    refine lv_idiv hx hb dX12_asks_123 (by decide +kernel) ?_
    have t_8 : (u_bt / 1000).toInt = u_bt.toInt / 1000 := g5_idiv (a := u_bt.toInt) (b := 1000) rfl (by decide +kernel) (by omega) (by decide +kernel)
    refine lv_i2l (v := (u_bt / 1000).toInt64) hx hb dX12_asks_124 rfl ?_
    refine W.eq (g2 := F0 m 125 ls [.long (u_bt / 1000).toInt64, .int 8, .ref b_se]) rfl ?_
    refine va_last hx hb hK hP hD hS 2 1 rfl rfl (i := 8) (x := (u_bt / 1000).toInt64) (by unfold vp_in; decide) dX12_asks_125 ?_
    clear hP hD hS
    intro H locs hP hD hS
    refine g5_rs [(b_o, (oc12 u_th u_sa b_rf b_ro b_im b_ke u_fd b_tp u_td u_fr u_to u_so u_wo u_fa u_bd u_nc b_nl u_co b_op b_ar u_le b_pi b_pa u_pd u_od b_ws b_hw (340 + (900 * (v_ro 3))) b_se b_re u_bk u_va u_su u_ce u_ho u_wy u_bt u_ps b_pt u_tg u_sn b_ip u_ic b_ah b_be b_me u_wd b_tr b_ld u_st b_wn u_id)), (b_ro, (arI G 5740 v_ro)), (b_se, (arJ G 13 (vp_updL (vp_updL (vp_updL (vp_updL (vp_updL (vp_updL (vp_updL (vp_updL v_se 1 p_2.toInt64) 2 ((u_ce - u_ce / 8 * 8).toInt64)) 3 ((u_ce / 8).toInt64)) 4 u_ho.toInt64) 5 u_wy.toInt64) 6 p_3.toInt64) 7 u_ps.toInt64) 8 ((u_bt / 1000).toInt64)))), (b_re, (arJ G 400 v_re))] hP hD ?_
    clear hP hD
    intro hP hD
    refine lv_iload hx hb dX12_asks_126 (lv_at hl 4 rfl) ?_
    refine lv_i2l (v := p_4.toInt64) hx hb dX12_asks_128 rfl ?_
    refine lv_lstore (lv' := [(6, .long p_4.toInt64), (0, .ref b_o), (1, .int p_1), (2, .int p_2), (3, .int p_3), (4, .int p_4), (5, .int p_5)]) hx hb dX12_asks_129 hl (by decide +kernel) rfl ?_
    clear hl
    intro ls hl
    have hLW := r_ro.2.2.2 (v_ro 3).toInt.toNat (by have zq := r_ro.2.2.1; omega)
    have hT9 : (340 + (900 * (v_ro 3))).toNatClampNeg = 340 + 900 * (v_ro 3).toInt.toNat := by have zz := g5_clamp (340 + (900 * (v_ro 3))); omega
    rw [← hT9] at hLW
    have hz9 : ((340 + (900 * (v_ro 3))) + 1).toNatClampNeg = (340 + (900 * (v_ro 3))).toNatClampNeg + 1 := g_clk (n := 1) (by decide +kernel) (by omega) (by omega) (by decide +kernel)
    have hlen : (v_ro ((340 + (900 * (v_ro 3))) + 1).toNatClampNeg).toInt = (LL.length : Int) := by rw [hz9, hT9]; exact hLM.1
    have hasq : ∀ j : Nat, j < 8 → (askQ p_2 u_ce u_ho u_wy p_3 u_ps u_bt) j = (vp_updL (vp_updL (vp_updL (vp_updL (vp_updL (vp_updL (vp_updL (vp_updL v_se 1 p_2.toInt64) 2 ((u_ce - u_ce / 8 * 8).toInt64)) 3 ((u_ce / 8).toInt64)) 4 u_ho.toInt64) 5 u_wy.toInt64) 6 p_3.toInt64) 7 u_ps.toInt64) 8 ((u_bt / 1000).toInt64)) (j + 1) := ask_m2 (by omega) (by omega)
    refine lv_iconst (v := 0) hx hb dX12_asks_131 (by decide +kernel) ?_
    refine W.eq (g2 := F0 m 132 ls [.int 0]) rfl ?_
    refine lv_istore (lv' := [(8, .int 0), (6, .long p_4.toInt64), (0, .ref b_o), (1, .int p_1), (2, .int p_2), (3, .int p_3), (4, .int p_4), (5, .int p_5)]) hx hb dX12_asks_132 hl (by decide +kernel) rfl ?_
    clear hl
    intro ls hl
    refine g5_loop (α := (Int32) × (Int64) × (Int32) × (Int64) × (Int64) × (Nat → Int64)) (fun (q : (Int32) × (Int64) × (Int32) × (Int64) × (Int64) × (Nat → Int64)) (ls : Array Slot) (H : Heap) (locs : List Loc) => match q with | (k134_8, k134_6, k134_bk, k134_va, k134_su, k134_re) => lv_has ls 10 [(6, .long k134_6), (8, .int k134_8), (0, .ref b_o), (1, .int p_1), (2, .int p_2), (3, .int p_3), (4, .int p_4), (5, .int p_5)] ∧ va_P G.1 vwCl [(b_o, (oc12 u_th u_sa b_rf b_ro b_im b_ke u_fd b_tp u_td u_fr u_to u_so u_wo u_fa u_bd u_nc b_nl u_co b_op b_ar u_le b_pi b_pa u_pd u_od b_ws b_hw (340 + (900 * (v_ro 3))) b_se b_re k134_bk k134_va k134_su u_ce u_ho u_wy u_bt u_ps b_pt u_tg u_sn b_ip u_ic b_ah b_be b_me u_wd b_tr b_ld u_st b_wn u_id)), (b_ro, (arI G 5740 v_ro)), (b_se, (arJ G 13 (vp_updL (vp_updL (vp_updL (vp_updL (vp_updL (vp_updL (vp_updL (vp_updL v_se 1 p_2.toInt64) 2 ((u_ce - u_ce / 8 * 8).toInt64)) 3 ((u_ce / 8).toInt64)) 4 u_ho.toInt64) 5 u_wy.toInt64) 6 p_3.toInt64) 7 u_ps.toInt64) 8 ((u_bt / 1000).toInt64)))), (b_re, (arJ G 400 k134_re))] H ∧ va_D A [(b_o, (oc12 u_th u_sa b_rf b_ro b_im b_ke u_fd b_tp u_td u_fr u_to u_so u_wo u_fa u_bd u_nc b_nl u_co b_op b_ar u_le b_pi b_pa u_pd u_od b_ws b_hw (340 + (900 * (v_ro 3))) b_se b_re k134_bk k134_va k134_su u_ce u_ho u_wy u_bt u_ps b_pt u_tg u_sn b_ip u_ic b_ah b_be b_me u_wd b_tr b_ld u_st b_wn u_id)), (b_ro, (arI G 5740 v_ro)), (b_se, (arJ G 13 (vp_updL (vp_updL (vp_updL (vp_updL (vp_updL (vp_updL (vp_updL (vp_updL v_se 1 p_2.toInt64) 2 ((u_ce - u_ce / 8 * 8).toInt64)) 3 ((u_ce / 8).toInt64)) 4 u_ho.toInt64) 5 u_wy.toInt64) 6 p_3.toInt64) 7 u_ps.toInt64) 8 ((u_bt / 1000).toInt64)))), (b_re, (arJ G 400 k134_re))] ∧ va_S A s.heap H locs ∧ (0 ≤ k134_8.toInt ∧ k134_8.toInt ≤ 12) ∧ (0 ≤ k134_bk.toInt ∧ k134_bk.toInt ≤ 1) ∧ (k134_8.toInt ≤ (LL.length : Int)) ∧ (k134_6 = tlQ (toldX (LL.take k134_8.toInt.toNat) p_1.toInt (askQ p_2 u_ce u_ho u_wy p_3 u_ps u_bt)) p_1.toInt p_4)) (fun (q : (Int32) × (Int64) × (Int32) × (Int64) × (Int64) × (Nat → Int64)) => match q with | (k134_8, k134_6, k134_bk, k134_va, k134_su, k134_re) => Int.toNat (12 - k134_8.toInt)) (0, p_4.toInt64, u_bk, u_va, u_su, v_re) ⟨lv_sub hl [1, 0, 2, 3, 4, 5, 6, 7] rfl, hP, hD, hS, ⟨by decide, by decide⟩, h_u_bk, by have z9 : (0 : Int32).toInt = 0 := (by decide +kernel); omega, by show _ = tlQ (toldX (LL.take 0) p_1.toInt _) p_1.toInt p_4; exact tl_0⟩ ?_
    rintro ⟨k134_8, k134_6, k134_bk, k134_va, k134_su, k134_re⟩ ls H locs ⟨hl, hP, hD, hS, (i_9 : 0 ≤ k134_8.toInt ∧ k134_8.toInt ≤ 12), (i_10 : 0 ≤ k134_bk.toInt ∧ k134_bk.toInt ≤ 1), (i_11 : k134_8.toInt ≤ (LL.length : Int)), (i_12 : k134_6 = tlQ (toldX (LL.take k134_8.toInt.toNat) p_1.toInt (askQ p_2 u_ce u_ho u_wy p_3 u_ps u_bt)) p_1.toInt p_4)⟩ ih_134_13
    replace hl : lv_has ls 10 [(6, .long k134_6), (8, .int k134_8), (0, .ref b_o), (1, .int p_1), (2, .int p_2), (3, .int p_3), (4, .int p_4), (5, .int p_5)] := hl
    refine g5_rs [(b_o, (oc12 u_th u_sa b_rf b_ro b_im b_ke u_fd b_tp u_td u_fr u_to u_so u_wo u_fa u_bd u_nc b_nl u_co b_op b_ar u_le b_pi b_pa u_pd u_od b_ws b_hw (340 + (900 * (v_ro 3))) b_se b_re k134_bk k134_va k134_su u_ce u_ho u_wy u_bt u_ps b_pt u_tg u_sn b_ip u_ic b_ah b_be b_me u_wd b_tr b_ld u_st b_wn u_id)), (b_ro, (arI G 5740 v_ro)), (b_se, (arJ G 13 (vp_updL (vp_updL (vp_updL (vp_updL (vp_updL (vp_updL (vp_updL (vp_updL v_se 1 p_2.toInt64) 2 ((u_ce - u_ce / 8 * 8).toInt64)) 3 ((u_ce / 8).toInt64)) 4 u_ho.toInt64) 5 u_wy.toInt64) 6 p_3.toInt64) 7 u_ps.toInt64) 8 ((u_bt / 1000).toInt64)))), (b_re, (arJ G 400 k134_re))] hP hD ?_
    clear hP hD
    intro hP hD
    refine lv_iload hx hb dX12_asks_134 (lv_at hl 1 rfl) ?_
    refine lv_aload_n hx hb dX12_asks_136 rfl (lv_at hl 2 rfl) ?_
    refine va_get (D := G.1) (ci := 12) (v := .ref b_ro) (C := RX12) (T := TX12) (N := 52) hx hb hts inG_X12 hown hK hP 0 rfl rfl 3 (by decide +kernel) (hts _ fl_X12_13) (fun _ h9 => h9) rfl dX12_asks_137 ?_
    refine lv_aload_n hx hb dX12_asks_140 rfl (lv_at hl 2 rfl) ?_
    refine W.eq (g2 := F0 m 141 ls [.ref b_o, .ref b_ro, .int k134_8]) rfl ?_
    refine va_get (D := G.1) (ci := 12) (v := .int (340 + (900 * (v_ro 3)))) (C := RX12) (T := TX12) (N := 52) hx hb hts inG_X12 hown hK hP 0 rfl rfl 27 (by decide +kernel) (hts _ fl_X12_329) (fun _ h9 => h9) rfl dX12_asks_141 ?_
    refine lv_iconst (v := 1) hx hb dX12_asks_144 (by decide +kernel) ?_
    refine lv_iadd hx hb dX12_asks_145 ?_
    have t_14 : ((340 + (900 * (v_ro 3))) + 1).toInt = (340 + (900 * (v_ro 3))).toInt + 1 := g5_iadd (a := (340 + (900 * (v_ro 3))).toInt) (b := 1) (by rfl) (by decide +kernel) (by omega) (by omega)
    refine va_iald hx hb hK hP 1 0 rfl rfl (i := ((340 + (900 * (v_ro 3))) + 1)) (vp_in_iff.mpr ⟨by omega, by omega⟩) dX12_asks_146 ?_
    have hc9 : 0 ≤ (v_ro ((340 + (900 * (v_ro 3))) + 1).toNatClampNeg).toInt ∧ (v_ro ((340 + (900 * (v_ro 3))) + 1).toNatClampNeg).toInt ≤ 12 := by rw [hz9]; exact hLW.1
    refine lv_icmp_ge (tgt := 205) hx hb dX12_asks_147 (by decide +kernel) (fun c_15 => ?_) (fun c_15 => ?_)
    ·
      have i_15 : k134_8.toInt ≥ (v_ro ((340 + (900 * (v_ro 3))) + 1).toNatClampNeg).toInt := g5_ge (a := k134_8.toInt) (b := (v_ro ((340 + (900 * (v_ro 3))) + 1).toNatClampNeg).toInt) rfl rfl c_15
      refine lv_lload hx hb dX12_asks_205 (lv_at hl 0 rfl) ?_
      refine lv_lconst (v := 0) hx hb dX12_asks_207 (by decide +kernel) ?_
      have tl_16 : (0 : Int64).toInt = 0 := (by decide +kernel)
      have tc_17 := g5_cmpI k134_6 (0 : Int64)
      refine W.lcmp hx hb dX12_asks_208 ?_
      refine lv_if_ge (tgt := 216) hx hb dX12_asks_209 (by decide +kernel) (fun c_18 => ?_) (fun c_18 => ?_)
      ·
        have i_18 : (lg_cmp k134_6 0).toInt ≥ 0 := g5_ge (a := (lg_cmp k134_6 0).toInt) (b := 0) rfl (by decide +kernel) c_18
        refine lv_lload hx hb dX12_asks_216 (lv_at hl 0 rfl) ?_
        refine lv_iload hx hb dX12_asks_218 (lv_at hl 7 rfl) ?_
        refine lv_i2l (v := p_5.toInt64) hx hb dX12_asks_220 rfl ?_
        have tl_19 : p_5.toInt64.toInt = p_5.toInt := Int32.toInt_toInt64 _
        have tc_20 := g5_cmpI k134_6 p_5.toInt64
        refine W.lcmp hx hb dX12_asks_221 ?_
        refine W.eq (g2 := F0 m 222 ls [.int (lg_cmp k134_6 p_5.toInt64)]) rfl ?_
        refine lv_if_le (tgt := 230) hx hb dX12_asks_222 (by decide +kernel) (fun c_21 => ?_) (fun c_21 => ?_)
        ·
          have i_21 : (lg_cmp k134_6 p_5.toInt64).toInt ≤ 0 := g5_le (a := (lg_cmp k134_6 p_5.toInt64).toInt) (b := 0) rfl (by decide +kernel) c_21
          refine lv_lload hx hb dX12_asks_230 (lv_at hl 0 rfl) ?_
          refine lv_l2i (v := k134_6.toInt32) hx hb dX12_asks_232 rfl ?_
          exact W.iret (v := k134_6.toInt32) hx hb hr (fun t ht hW => ⟨⟨k134_6.toInt32, [(b_o, (oc12 u_th u_sa b_rf b_ro b_im b_ke u_fd b_tp u_td u_fr u_to u_so u_wo u_fa u_bd u_nc b_nl u_co b_op b_ar u_le b_pi b_pa u_pd u_od b_ws b_hw (340 + (900 * (v_ro 3))) b_se b_re k134_bk k134_va k134_su u_ce u_ho u_wy u_bt u_ps b_pt u_tg u_sn b_ip u_ic b_ah b_be b_me u_wd b_tr b_ld u_st b_wn u_id)), (b_ro, (arI G 5740 v_ro)), (b_se, (arJ G 13 (vp_updL (vp_updL (vp_updL (vp_updL (vp_updL (vp_updL (vp_updL (vp_updL v_se 1 p_2.toInt64) 2 ((u_ce - u_ce / 8 * 8).toInt64)) 3 ((u_ce / 8).toInt64)) 4 u_ho.toInt64) 5 u_wy.toInt64) 6 p_3.toInt64) 7 u_ps.toInt64) 8 ((u_bt / 1000).toInt64)))), (b_re, (arJ G 400 k134_re))], rfl, ⟨k134_6.toInt32, (340 + (900 * (v_ro 3))), k134_bk, k134_va, k134_su, (vp_updL (vp_updL (vp_updL (vp_updL (vp_updL (vp_updL (vp_updL (vp_updL v_se 1 p_2.toInt64) 2 ((u_ce - u_ce / 8 * 8).toInt64)) 3 ((u_ce / 8).toInt64)) 4 u_ho.toInt64) 5 u_wy.toInt64) 6 p_3.toInt64) 7 u_ps.toInt64) 8 ((u_bt / 1000).toInt64)), k134_re, by have z9 : 0 ≤ k134_6.toInt32.toInt ∧ k134_6.toInt32.toInt ≤ p_5.toInt := g_l2i (by omega) (by omega); omega, (g_l2i (m := p_5) (by omega) (by omega)), ⟨by omega, by omega⟩, i_10, by rw [hLw]; exact (clq_mid (by omega) (by omega) (by omega)).symm.trans (ans_of (by show k134_6 = tlQ (toldX LL p_1.toInt (askQ p_2 u_ce u_ho u_wy p_3 u_ps u_bt)) p_1.toInt p_4; rw [← tX_all (k := k134_8.toInt.toNat) (by omega)]; exact i_12) ⟨by omega, by omega⟩ e_h1), rfl, rfl⟩, by rw [ht]; exact hP.sub [0, 1, 2, 3] rfl, hD.sub [0, 1, 2, 3] (by decide +kernel) rfl⟩, hS.F ht⟩) hS.2.2 dX12_asks_233
        ·
          have i_21 : (lg_cmp k134_6 p_5.toInt64).toInt > 0 := g5_leN (a := (lg_cmp k134_6 p_5.toInt64).toInt) (b := 0) rfl (by decide +kernel) c_21
          refine lv_iload hx hb dX12_asks_225 (lv_at hl 7 rfl) ?_
          refine lv_goto (tgt := 233) hx hb dX12_asks_227 (by decide +kernel) ?_
          exact W.iret (v := p_5) hx hb hr (fun t ht hW => ⟨⟨p_5, [(b_o, (oc12 u_th u_sa b_rf b_ro b_im b_ke u_fd b_tp u_td u_fr u_to u_so u_wo u_fa u_bd u_nc b_nl u_co b_op b_ar u_le b_pi b_pa u_pd u_od b_ws b_hw (340 + (900 * (v_ro 3))) b_se b_re k134_bk k134_va k134_su u_ce u_ho u_wy u_bt u_ps b_pt u_tg u_sn b_ip u_ic b_ah b_be b_me u_wd b_tr b_ld u_st b_wn u_id)), (b_ro, (arI G 5740 v_ro)), (b_se, (arJ G 13 (vp_updL (vp_updL (vp_updL (vp_updL (vp_updL (vp_updL (vp_updL (vp_updL v_se 1 p_2.toInt64) 2 ((u_ce - u_ce / 8 * 8).toInt64)) 3 ((u_ce / 8).toInt64)) 4 u_ho.toInt64) 5 u_wy.toInt64) 6 p_3.toInt64) 7 u_ps.toInt64) 8 ((u_bt / 1000).toInt64)))), (b_re, (arJ G 400 k134_re))], rfl, ⟨p_5, (340 + (900 * (v_ro 3))), k134_bk, k134_va, k134_su, (vp_updL (vp_updL (vp_updL (vp_updL (vp_updL (vp_updL (vp_updL (vp_updL v_se 1 p_2.toInt64) 2 ((u_ce - u_ce / 8 * 8).toInt64)) 3 ((u_ce / 8).toInt64)) 4 u_ho.toInt64) 5 u_wy.toInt64) 6 p_3.toInt64) 7 u_ps.toInt64) 8 ((u_bt / 1000).toInt64)), k134_re, h_p_5, ⟨by omega, by omega⟩, ⟨by omega, by omega⟩, i_10, by rw [hLw]; exact (clq_hi (by omega) (by omega)).symm.trans (ans_of (by show k134_6 = tlQ (toldX LL p_1.toInt (askQ p_2 u_ce u_ho u_wy p_3 u_ps u_bt)) p_1.toInt p_4; rw [← tX_all (k := k134_8.toInt.toNat) (by omega)]; exact i_12) ⟨by omega, by omega⟩ e_h1), rfl, rfl⟩, by rw [ht]; exact hP.sub [0, 1, 2, 3] rfl, hD.sub [0, 1, 2, 3] (by decide +kernel) rfl⟩, hS.F ht⟩) hS.2.2 dX12_asks_233
      ·
        have i_18 : (lg_cmp k134_6 0).toInt < 0 := g5_geN (a := (lg_cmp k134_6 0).toInt) (b := 0) rfl (by decide +kernel) c_18
        refine lv_iconst (v := 0) hx hb dX12_asks_212 (by decide +kernel) ?_
        refine lv_goto (tgt := 233) hx hb dX12_asks_213 (by decide +kernel) ?_
        exact W.iret (v := 0) hx hb hr (fun t ht hW => ⟨⟨0, [(b_o, (oc12 u_th u_sa b_rf b_ro b_im b_ke u_fd b_tp u_td u_fr u_to u_so u_wo u_fa u_bd u_nc b_nl u_co b_op b_ar u_le b_pi b_pa u_pd u_od b_ws b_hw (340 + (900 * (v_ro 3))) b_se b_re k134_bk k134_va k134_su u_ce u_ho u_wy u_bt u_ps b_pt u_tg u_sn b_ip u_ic b_ah b_be b_me u_wd b_tr b_ld u_st b_wn u_id)), (b_ro, (arI G 5740 v_ro)), (b_se, (arJ G 13 (vp_updL (vp_updL (vp_updL (vp_updL (vp_updL (vp_updL (vp_updL (vp_updL v_se 1 p_2.toInt64) 2 ((u_ce - u_ce / 8 * 8).toInt64)) 3 ((u_ce / 8).toInt64)) 4 u_ho.toInt64) 5 u_wy.toInt64) 6 p_3.toInt64) 7 u_ps.toInt64) 8 ((u_bt / 1000).toInt64)))), (b_re, (arJ G 400 k134_re))], rfl, ⟨0, (340 + (900 * (v_ro 3))), k134_bk, k134_va, k134_su, (vp_updL (vp_updL (vp_updL (vp_updL (vp_updL (vp_updL (vp_updL (vp_updL v_se 1 p_2.toInt64) 2 ((u_ce - u_ce / 8 * 8).toInt64)) 3 ((u_ce / 8).toInt64)) 4 u_ho.toInt64) 5 u_wy.toInt64) 6 p_3.toInt64) 7 u_ps.toInt64) 8 ((u_bt / 1000).toInt64)), k134_re, ⟨by have zc_o_r : (0 : Int32).toInt = 0 := (by decide +kernel); omega, by have zc_o_r : (0 : Int32).toInt = 0 := (by decide +kernel); omega⟩, ⟨by have zc_o_r : (0 : Int32).toInt = 0 := (by decide +kernel); omega, by have zc_o_r : (0 : Int32).toInt = 0 := (by decide +kernel); omega⟩, ⟨by omega, by omega⟩, i_10, by rw [hLw]; exact (clq_lo (by omega) (by omega)).symm.trans (ans_of (by show k134_6 = tlQ (toldX LL p_1.toInt (askQ p_2 u_ce u_ho u_wy p_3 u_ps u_bt)) p_1.toInt p_4; rw [← tX_all (k := k134_8.toInt.toNat) (by omega)]; exact i_12) ⟨by omega, by omega⟩ e_h1), rfl, rfl⟩, by rw [ht]; exact hP.sub [0, 1, 2, 3] rfl, hD.sub [0, 1, 2, 3] (by decide +kernel) rfl⟩, hS.F ht⟩) hS.2.2 dX12_asks_233
    ·
      have i_15 : k134_8.toInt < (v_ro ((340 + (900 * (v_ro 3))) + 1).toNatClampNeg).toInt := g5_geN (a := k134_8.toInt) (b := (v_ro ((340 + (900 * (v_ro 3))) + 1).toNatClampNeg).toInt) rfl rfl c_15
      obtain ⟨c9, hL9⟩ : ∃ c : CLT, LL[k134_8.toInt.toNat]? = some c := ⟨_, List.getElem?_eq_getElem (by omega)⟩
      refine lv_aload_n hx hb dX12_asks_150 rfl (lv_at hl 2 rfl) ?_
      refine va_get (D := G.1) (ci := 12) (v := .int (340 + (900 * (v_ro 3)))) (C := RX12) (T := TX12) (N := 52) hx hb hts inG_X12 hown hK hP 0 rfl rfl 27 (by decide +kernel) (hts _ fl_X12_329) (fun _ h9 => h9) rfl dX12_asks_151 ?_
      refine lv_iconst (v := 2) hx hb dX12_asks_154 (by decide +kernel) ?_
      refine lv_iadd hx hb dX12_asks_155 ?_
      have t_22 : ((340 + (900 * (v_ro 3))) + 2).toInt = (340 + (900 * (v_ro 3))).toInt + 2 := g5_iadd (a := (340 + (900 * (v_ro 3))).toInt) (b := 2) (by rfl) (by decide +kernel) (by omega) (by omega)
      refine W.eq (g2 := F0 m 156 ls [.int ((340 + (900 * (v_ro 3))) + 2)]) rfl ?_
      refine lv_bipush (v := 8) hx hb dX12_asks_156 (by decide +kernel) ?_
      refine lv_iload hx hb dX12_asks_158 (lv_at hl 1 rfl) ?_
      refine lv_imul hx hb dX12_asks_160 ?_
      have t_23 : (8 * k134_8).toInt = 8 * k134_8.toInt := g5_imul (a := 8) (b := k134_8.toInt) (by decide +kernel) (by rfl) (by omega) (by omega)
      refine lv_iadd hx hb dX12_asks_161 ?_
      have t_24 : (((340 + (900 * (v_ro 3))) + 2) + (8 * k134_8)).toInt = ((340 + (900 * (v_ro 3))) + 2).toInt + (8 * k134_8).toInt := g5_iadd (a := ((340 + (900 * (v_ro 3))) + 2).toInt) (b := (8 * k134_8).toInt) (by rfl) (by rfl) (by omega) (by omega)
      refine lv_istore (lv' := [(9, .int (((340 + (900 * (v_ro 3))) + 2) + (8 * k134_8))), (6, .long k134_6), (8, .int k134_8), (0, .ref b_o), (1, .int p_1), (2, .int p_2), (3, .int p_3), (4, .int p_4), (5, .int p_5)]) hx hb dX12_asks_162 hl (by decide +kernel) rfl ?_
      clear hl
      intro ls hl
      have hk9 : (((340 + (900 * (v_ro 3))) + 2) + (8 * k134_8)).toNatClampNeg = (340 + (900 * (v_ro 3))).toNatClampNeg + 2 + 8 * k134_8.toInt.toNat := by have z1 := g5_clamp (((340 + (900 * (v_ro 3))) + 2) + (8 * k134_8)); have z2 := g5_clamp (340 + (900 * (v_ro 3))); omega
      have hCM := clm_at hLM hL9 hT9 hk9
      have hC0 : (v_ro (((340 + (900 * (v_ro 3))) + 2) + (8 * k134_8)).toNatClampNeg).toInt = c9.1 := hCM.1
      refine W.eq (g2 := F0 m 164 ls []) rfl ?_
      refine lv_aload_n hx hb dX12_asks_164 rfl (lv_at hl 3 rfl) ?_
      refine va_get (D := G.1) (ci := 12) (v := .ref b_ro) (C := RX12) (T := TX12) (N := 52) hx hb hts inG_X12 hown hK hP 0 rfl rfl 3 (by decide +kernel) (hts _ fl_X12_13) (fun _ h9 => h9) rfl dX12_asks_165 ?_
      refine lv_iload hx hb dX12_asks_168 (lv_at hl 0 rfl) ?_
      refine va_iald hx hb hK hP 1 0 rfl rfl (i := (((340 + (900 * (v_ro 3))) + 2) + (8 * k134_8))) (vp_in_iff.mpr ⟨by omega, by omega⟩) dX12_asks_170 ?_
      refine lv_iload_n hx hb dX12_asks_171 rfl (lv_at hl 4 rfl) ?_
      refine W.eq (g2 := F0 m 172 ls [.int p_1, .int (v_ro (((340 + (900 * (v_ro 3))) + 2) + (8 * k134_8)).toNatClampNeg)]) rfl ?_
      refine lv_icmp_ne (tgt := 199) hx hb dX12_asks_172 (by decide +kernel) (fun c_25 => ?_) (fun c_25 => ?_)
      ·
        have n_25 : gNe ((v_ro (((340 + (900 * (v_ro 3))) + 2) + (8 * k134_8)).toNatClampNeg).toInt) (p_1.toInt) := g5_ne (a := (v_ro (((340 + (900 * (v_ro 3))) + 2) + (8 * k134_8)).toNatClampNeg).toInt) (b := p_1.toInt) rfl rfl c_25
        refine lv_iinc (v := (k134_8 + 1)) (lv' := [(8, .int (k134_8 + 1)), (9, .int (((340 + (900 * (v_ro 3))) + 2) + (8 * k134_8))), (6, .long k134_6), (0, .ref b_o), (1, .int p_1), (2, .int p_2), (3, .int p_3), (4, .int p_4), (5, .int p_5)]) hx hb dX12_asks_199 hl (k := 2) rfl rfl (by decide +kernel) rfl ?_
        clear hl
        intro ls hl
        have t_26 : (k134_8 + 1).toInt = k134_8.toInt + 1 := g5_iadd (a := k134_8.toInt) (b := 1) rfl (by decide +kernel) (by omega) (by omega)
        refine lv_goto (tgt := 134) hx hb dX12_asks_202 (by decide +kernel) ?_
        exact ih_134_13 ((k134_8 + 1), k134_6, k134_bk, k134_va, k134_su, k134_re) ls H locs (show Int.toNat (12 - (k134_8 + 1).toInt) < Int.toNat (12 - k134_8.toInt) from g_up (show k134_8.toInt < (k134_8 + 1).toInt by omega) (show k134_8.toInt < 12 by omega)) ⟨lv_sub hl [2, 0, 3, 4, 5, 6, 7, 8] rfl, hP, hD, hS, ⟨by omega, by omega⟩, i_10, by omega, by rw [show (k134_8 + 1).toInt.toNat = k134_8.toInt.toNat + 1 by omega]; exact tl_no i_12 hL9 (Or.inl (fun q8 => by unfold gNe at *; omega))⟩
      ·
        have i_25 : (v_ro (((340 + (900 * (v_ro 3))) + 2) + (8 * k134_8)).toNatClampNeg).toInt = p_1.toInt := g5_neN (a := (v_ro (((340 + (900 * (v_ro 3))) + 2) + (8 * k134_8)).toNatClampNeg).toInt) (b := p_1.toInt) rfl rfl c_25
        refine lv_aload_n hx hb dX12_asks_175 rfl (lv_at hl 3 rfl) ?_
        refine lv_iload hx hb dX12_asks_176 (lv_at hl 0 rfl) ?_
        obtain ⟨hPc, hDc, hFc⟩ := g5_sub3 (wc := [(b_o, (oc12 u_th u_sa b_rf b_ro b_im b_ke u_fd b_tp u_td u_fr u_to u_so u_wo u_fa u_bd u_nc b_nl u_co b_op b_ar u_le b_pi b_pa u_pd u_od b_ws b_hw (340 + (900 * (v_ro 3))) b_se b_re k134_bk k134_va k134_su u_ce u_ho u_wy u_bt u_ps b_pt u_tg u_sn b_ip u_ic b_ah b_be b_me u_wd b_tr b_ld u_st b_wn u_id)), (b_ro, (arI G 5740 v_ro)), (b_se, (arJ G 13 (vp_updL (vp_updL (vp_updL (vp_updL (vp_updL (vp_updL (vp_updL (vp_updL v_se 1 p_2.toInt64) 2 ((u_ce - u_ce / 8 * 8).toInt64)) 3 ((u_ce / 8).toInt64)) 4 u_ho.toInt64) 5 u_wy.toInt64) 6 p_3.toInt64) 7 u_ps.toInt64) 8 ((u_bt / 1000).toInt64)))), (b_re, (arJ G 400 k134_re))]) hP hD hS hA [0, 1, 2, 3] (by decide +kernel) rfl
        refine va_calli (va_runV (As := [.int (((340 + (900 * (v_ro 3))) + 2) + (8 * k134_8))]) (rest := []) ⟨hx, hb, hml, hown, hts⟩ (n_isSoX l G b_o b_ro b_se b_re b_rf b_im b_ke b_tp b_nl b_op b_ar b_pi b_pa b_ws b_hw b_pt b_ip b_ah b_be b_me b_tr b_ld b_wn H.size u_th u_sa u_fd u_td u_fr u_to u_so u_fa u_bd u_nc u_co u_le u_pd u_od (340 + (900 * (v_ro 3))) k134_bk u_ce u_ho u_wy u_bt u_ps u_tg u_sn u_ic u_wd u_id (((340 + (900 * (v_ro 3))) + 2) + (8 * k134_8)) u_wo k134_va k134_su u_st v_ro (vp_updL (vp_updL (vp_updL (vp_updL (vp_updL (vp_updL (vp_updL (vp_updL v_se 1 p_2.toInt64) 2 ((u_ce - u_ce / 8 * 8).toInt64)) 3 ((u_ce / 8).toInt64)) 4 u_ho.toInt64) 5 u_wy.toInt64) 6 p_3.toInt64) 7 u_ps.toInt64) 8 ((u_bt / 1000).toInt64)) k134_re (askQ p_2 u_ce u_ho u_wy p_3 u_ps u_bt) c9 h_u_td h_u_fr h_u_to h_u_bd h_u_nc h_u_co h_u_pd ⟨by omega, by omega⟩ i_10 h_u_ce h_u_ho h_u_wy h_u_bt h_u_ps h_u_ic h_u_id ⟨by omega, by omega⟩ (r_ro) (by rw [hk9]; exact hLW.2 k134_8.toInt.toNat (by rw [← hz9]; omega)) (hasq) (hCM)) (cwV 1 hts gV_X12_364 rfl rfl rfl hv_X12_isSo ⟨Nat.le_of_ble_eq_true rfl, Nat.le_of_ble_eq_true rfl⟩) (g5_preV hPc hK hDc hN hT hS hFc (ci := 12) (q0 := 0) rfl rfl) rfl rfl hl.1 rfl (lv_room (Nat.le_of_ble_eq_true rfl)) dX12_asks_178 ⟨Nat.le_of_ble_eq_true rfl, Nat.le_of_ble_eq_true rfl⟩) hS (fun q _ h => hFc q h) hFc (fun r u t H locs ht hvm hw hB hz1 hk1 hS => ?_)
        obtain ⟨hP1, hD1⟩ := hB
        have hP1 := g5_ht ht hP1
        obtain ⟨z30, z31, z32, z33, z34, (i_27 : 0 ≤ z30.toInt ∧ z30.toInt ≤ 1), (i_28 : 0 ≤ z31.toInt ∧ z31.toInt ≤ 1), (i_29 : (z30.toInt = 1 ∧ ∃ v : Int64, clH c9 (askQ p_2 u_ce u_ho u_wy p_3 u_ps u_bt) = some v ∧ (c9.1 < 2 → z33 = v)) ∨ (z30.toInt = 0 ∧ clH c9 (askQ p_2 u_ce u_ho u_wy p_3 u_ps u_bt) = none)), y35, rfl⟩ := hw
        have hJ9 := va_join (wr := []) hP hD [0, 1, 2, 3] [] rfl rfl (by decide +kernel) (by decide +kernel) hk1 hFc hP1 hD1
        clear hP hD hPc hDc hFc ht hvm hz1 hk1 hP1 hD1
        obtain ⟨hP, hD⟩ := hJ9
        refine g5_rs [(b_o, (oc12 u_th u_sa b_rf b_ro b_im b_ke u_fd b_tp u_td u_fr u_to u_so u_wo u_fa u_bd u_nc b_nl u_co b_op b_ar u_le b_pi b_pa u_pd u_od b_ws b_hw (340 + (900 * (v_ro 3))) b_se b_re z31 z32 z33 u_ce u_ho u_wy u_bt u_ps b_pt u_tg u_sn b_ip u_ic b_ah b_be b_me u_wd b_tr b_ld u_st b_wn u_id)), (b_ro, (arI G 5740 v_ro)), (b_se, (arJ G 13 (vp_updL (vp_updL (vp_updL (vp_updL (vp_updL (vp_updL (vp_updL (vp_updL v_se 1 p_2.toInt64) 2 ((u_ce - u_ce / 8 * 8).toInt64)) 3 ((u_ce / 8).toInt64)) 4 u_ho.toInt64) 5 u_wy.toInt64) 6 p_3.toInt64) 7 u_ps.toInt64) 8 ((u_bt / 1000).toInt64)))), (b_re, (arJ G 400 z34))] hP hD ?_
        clear hP hD
        intro hP hD
        refine g5_ti (v := z30) y35 ?_
        refine lv_if_eq (tgt := 199) hx hb dX12_asks_181 (by decide +kernel) (fun c_36 => ?_) (fun c_36 => ?_)
        ·
          have i_36 : z30.toInt = 0 := g5_eq (a := z30.toInt) (b := 0) rfl (by decide +kernel) c_36
          refine lv_iinc (v := (k134_8 + 1)) (lv' := [(8, .int (k134_8 + 1)), (9, .int (((340 + (900 * (v_ro 3))) + 2) + (8 * k134_8))), (6, .long k134_6), (0, .ref b_o), (1, .int p_1), (2, .int p_2), (3, .int p_3), (4, .int p_4), (5, .int p_5)]) hx hb dX12_asks_199 hl (k := 2) rfl rfl (by decide +kernel) rfl ?_
          clear hl
          intro ls hl
          have t_37 : (k134_8 + 1).toInt = k134_8.toInt + 1 := g5_iadd (a := k134_8.toInt) (b := 1) rfl (by decide +kernel) (by omega) (by omega)
          refine lv_goto (tgt := 134) hx hb dX12_asks_202 (by decide +kernel) ?_
          exact ih_134_13 ((k134_8 + 1), k134_6, z31, z32, z33, z34) ls H locs (show Int.toNat (12 - (k134_8 + 1).toInt) < Int.toNat (12 - k134_8.toInt) from g_up (show k134_8.toInt < (k134_8 + 1).toInt by omega) (show k134_8.toInt < 12 by omega)) ⟨lv_sub hl [2, 0, 3, 4, 5, 6, 7, 8] rfl, hP, hD, hS, ⟨by omega, by omega⟩, i_28, by omega, by rw [show (k134_8 + 1).toInt.toNat = k134_8.toInt.toNat + 1 by omega]; exact tl_no i_12 hL9 (Or.inr (i_29.elim (fun q8 => absurd q8.1 (by omega)) (fun q8 => q8.2)))⟩
        ·
          have n_36 : gNe (z30.toInt) (0) := g5_eqN (a := z30.toInt) (b := 0) rfl (by decide +kernel) c_36
          have i_36 : z30.toInt ≥ 1 := by have z := g5_eqN (a := z30.toInt) (b := 0) (by rfl) (by decide +kernel) c_36; omega
          refine lv_iload_n hx hb dX12_asks_184 rfl (lv_at hl 4 rfl) ?_
          refine lv_iconst (v := 2) hx hb dX12_asks_185 (by decide +kernel) ?_
          refine lv_icmp_ge (tgt := 196) hx hb dX12_asks_186 (by decide +kernel) (fun c_38 => ?_) (fun c_38 => ?_)
          ·
            have i_38 : p_1.toInt ≥ 2 := g5_ge (a := p_1.toInt) (b := 2) rfl (by decide +kernel) c_38
            refine lv_lconst (v := 1) hx hb dX12_asks_196 (by decide +kernel) ?_
            refine lv_lstore (lv' := [(6, .long 1), (9, .int (((340 + (900 * (v_ro 3))) + 2) + (8 * k134_8))), (8, .int k134_8), (0, .ref b_o), (1, .int p_1), (2, .int p_2), (3, .int p_3), (4, .int p_4), (5, .int p_5)]) hx hb dX12_asks_197 hl (by decide +kernel) rfl ?_
            clear hl
            intro ls hl
            refine lv_iinc (v := (k134_8 + 1)) (lv' := [(8, .int (k134_8 + 1)), (6, .long 1), (9, .int (((340 + (900 * (v_ro 3))) + 2) + (8 * k134_8))), (0, .ref b_o), (1, .int p_1), (2, .int p_2), (3, .int p_3), (4, .int p_4), (5, .int p_5)]) hx hb dX12_asks_199 hl (k := 2) rfl rfl (by decide +kernel) rfl ?_
            clear hl
            intro ls hl
            have t_39 : (k134_8 + 1).toInt = k134_8.toInt + 1 := g5_iadd (a := k134_8.toInt) (b := 1) rfl (by decide +kernel) (by omega) (by omega)
            refine lv_goto (tgt := 134) hx hb dX12_asks_202 (by decide +kernel) ?_
            exact ih_134_13 ((k134_8 + 1), 1, z31, z32, z33, z34) ls H locs (show Int.toNat (12 - (k134_8 + 1).toInt) < Int.toNat (12 - k134_8.toInt) from g_up (show k134_8.toInt < (k134_8 + 1).toInt by omega) (show k134_8.toInt < 12 by omega)) ⟨lv_sub hl [1, 0, 3, 4, 5, 6, 7, 8] rfl, hP, hD, hS, ⟨by omega, by omega⟩, i_28, by omega, i_29.elim (fun q8 => by obtain ⟨q7, v9, q6, q5⟩ := q8; rw [show (k134_8 + 1).toInt.toNat = k134_8.toInt.toNat + 1 by omega]; exact tl_1 hL9 (by omega) q6 (by omega)) (fun q8 => absurd q8.1 (by omega))⟩
          ·
            have i_38 : p_1.toInt < 2 := g5_geN (a := p_1.toInt) (b := 2) rfl (by decide +kernel) c_38
            refine lv_aload_n hx hb dX12_asks_189 rfl (lv_at hl 3 rfl) ?_
            refine va_get (D := G.1) (ci := 12) (v := .long z33) (C := RX12) (T := TX12) (N := 52) hx hb hts inG_X12 hown hK hP 0 rfl rfl 32 (by decide +kernel) (hts _ fl_X12_346) (fun _ h9 => h9) rfl dX12_asks_190 ?_
            refine lv_goto (tgt := 197) hx hb dX12_asks_193 (by decide +kernel) ?_
            refine lv_lstore (lv' := [(6, .long z33), (9, .int (((340 + (900 * (v_ro 3))) + 2) + (8 * k134_8))), (8, .int k134_8), (0, .ref b_o), (1, .int p_1), (2, .int p_2), (3, .int p_3), (4, .int p_4), (5, .int p_5)]) hx hb dX12_asks_197 hl (by decide +kernel) rfl ?_
            clear hl
            intro ls hl
            refine W.eq (g2 := F0 m 199 ls []) rfl ?_
            refine lv_iinc (v := (k134_8 + 1)) (lv' := [(8, .int (k134_8 + 1)), (6, .long z33), (9, .int (((340 + (900 * (v_ro 3))) + 2) + (8 * k134_8))), (0, .ref b_o), (1, .int p_1), (2, .int p_2), (3, .int p_3), (4, .int p_4), (5, .int p_5)]) hx hb dX12_asks_199 hl (k := 2) rfl rfl (by decide +kernel) rfl ?_
            clear hl
            intro ls hl
            have t_40 : (k134_8 + 1).toInt = k134_8.toInt + 1 := g5_iadd (a := k134_8.toInt) (b := 1) rfl (by decide +kernel) (by omega) (by omega)
            refine lv_goto (tgt := 134) hx hb dX12_asks_202 (by decide +kernel) ?_
            exact ih_134_13 ((k134_8 + 1), z33, z31, z32, z33, z34) ls H locs (show Int.toNat (12 - (k134_8 + 1).toInt) < Int.toNat (12 - k134_8.toInt) from g_up (show k134_8.toInt < (k134_8 + 1).toInt by omega) (show k134_8.toInt < 12 by omega)) ⟨lv_sub hl [1, 0, 3, 4, 5, 6, 7, 8] rfl, hP, hD, hS, ⟨by omega, by omega⟩, i_28, by omega, i_29.elim (fun q8 => by obtain ⟨q7, v9, q6, q5⟩ := q8; rw [show (k134_8 + 1).toInt.toNat = k134_8.toInt.toNat + 1 by omega]; exact tl_s hL9 (by omega) q6 (by omega) (q5 (by omega))) (fun q8 => absurd q8.1 (by omega))⟩
  ·
    have i_2 : (v_ro 3).toInt = (-1) := g5_neN (a := (v_ro 3).toInt) (b := (-1)) rfl (by decide +kernel) c_2
    refine lv_iload hx hb dX12_asks_10 (lv_at hl 4 rfl) ?_
    exact W.iret (v := p_4) hx hb hr (fun t ht hW => ⟨⟨p_4, [(b_o, (oc12 u_th u_sa b_rf b_ro b_im b_ke u_fd b_tp u_td u_fr u_to u_so u_wo u_fa u_bd u_nc b_nl u_co b_op b_ar u_le b_pi b_pa u_pd u_od b_ws b_hw u_la b_se b_re u_bk u_va u_su u_ce u_ho u_wy u_bt u_ps b_pt u_tg u_sn b_ip u_ic b_ah b_be b_me u_wd b_tr b_ld u_st b_wn u_id)), (b_ro, (arI G 5740 v_ro)), (b_se, (arJ G 13 v_se)), (b_re, (arJ G 400 v_re))], rfl, ⟨p_4, u_la, u_bk, u_va, u_su, v_se, v_re, h_p_4, ⟨by omega, by omega⟩, h_u_la, h_u_bk, by have hw9 : g_w = none := e_mf.elim (fun q8 => q8.2) (fun q8 => absurd q8.1 (by omega)); rw [hw9]; rfl, rfl, rfl⟩, by rw [ht]; exact hP.sub [0, 1, 2, 3] rfl, hD.sub [0, 1, 2, 3] (by decide +kernel) rfl⟩, hS.F ht⟩) hS.2.2 dX12_asks_12
/-! the model's look -/
theorem a1_rg (x : Int32) : 0 ≤ (x &&& 1).toInt ∧ (x &&& 1).toInt ≤ 1 := by
  have h2 : (x &&& 1).toBitVec.toNat = x.toBitVec.toNat % 2 ^ 1 := by
    rw [Int32.toBitVec_and, BitVec.toNat_and, show (1 : Int32).toBitVec.toNat = 2 ^ 1 - 1 from by decide, Nat.and_two_pow_sub_one_eq_mod]
  have h3 : (x &&& 1).toInt = ((x &&& 1).toBitVec.toNat : Int) := by
    show (x &&& 1).toBitVec.toInt = _
    rw [BitVec.toInt_eq_toNat_cond, if_pos]
    rw [h2]; omega
  rw [h3, h2]; omega
theorem is_y {x k : Int32} (h : ((x >>> (k &&& 31)) &&& 1).toInt = 1) : isQ x k := by
  unfold isQ; omega
theorem is_n {x k : Int32} (h : ((x >>> (k &&& 31)) &&& 1).toInt ≠ 1) : ¬ isQ x k := by
  intro q
  unfold isQ at q
  have z := a1_rg (x >>> (k &&& 31))
  omega
theorem as_2 {w : LWF} {q : Nat → Int64} {i z : Int32} {h : Int} (hi : i.toInt = h) (h2 : 2 ≤ h) (e : z = askA (toldW w i.toInt q) i.toInt 0 1) : (z.toInt = 1 ∧ toldW w h q ≠ none) ∨ (z.toInt = 0 ∧ toldW w h q = none) := by
  rw [hi] at e
  cases t : toldW w h q with
  | none =>
    rw [t] at e
    have e0 : z = 0 := e
    exact Or.inr ⟨by rw [e0]; decide, rfl⟩
  | some v =>
    rw [t] at e
    have e : z = if h < 2 then clampQ v 1 else 1 := e
    rw [if_neg (by omega)] at e
    exact Or.inl ⟨by rw [e]; decide, fun y => by cases y⟩
theorem as_v {w : LWF} {q : Nat → Int64} {i z wo m : Int32} {h : Int} (hi : i.toInt = h) (h2 : h < 2) (e : z = askA (toldW w i.toInt q) i.toInt wo m) : z = tellQ (toldW w h q) wo m := by
  rw [hi] at e
  cases t : toldW w h q with
  | none => rw [t] at e; exact e
  | some v =>
    rw [t] at e
    have e : z = if h < 2 then clampQ v m else 1 := e
    rw [if_pos h2] at e
    exact e
theorem turn_cov {w : LWF} {g so la du le ce wy ho br th pts : Int32} {c1 c2 : Prop} (h : c1 ↔ c2) : turnF w g so la du c1 le ce wy ho br th pts = turnF w g so la du c2 le ce wy ho br th pts := by
  rw [propext h]
theorem wm_all : ∀ wy : Nat, wy < 4 → (nI wy + 2 - (nI wy + 2) / 4 * 4) = (nI wy ^^^ 2) := by decide +kernel
theorem wm_of {wy : Int32} (h : 0 ≤ wy.toInt ∧ wy.toInt ≤ 3) : (wy + 2 - (wy + 2) / 4 * 4) = (wy ^^^ 2) := by
  have z := wm_all wy.toInt.toNat (by omega)
  rw [← g5_nI (x := wy) h.1] at z; exact z
set_option maxHeartbeats 4000000 in
set_option maxRecDepth 100000 in
theorem n_isX (l : Launch) (G : g5_G) (sz : Nat) (p_0 : Int32) (p_1 : Int32) : Met l yX12_is (wsG yX12_is cX12_is 2 (some .boolean)) ({ frames := 0, cells := 0, slots := 0, locals := 0 }) (va_Pc [.int p_0, .int p_1] (g5_P G [] sz)) (va_Qi (fun (r : Int32) (u : va_W) => ((isQ p_0 p_1) ∧ (r = 1) ∧ (u = [])) ∨ ((¬ isQ p_0 p_1) ∧ (r = 0) ∧ (u = []))) (g5_B G (va_A [] sz)) (va_A [] sz)) 0 0 (va_A [] sz) := by
  refine Met.ofW (cc := cX12_is) (maxL := 2) (ret := (some .boolean)) (by decide) rfl ?_
  intro p e s m args below meth c s₁ B hml hv
  obtain ⟨rfl, hsz, hP, hK, hD0, hN, hT⟩ := hv
  have hx := B.exec
  have hb := B.bytes
  have hr := B.returns
  have hts : ∀ w ∈ tblG, w.before _ s = true := fun w h => atoms_spec (ws := (wsG yX12_is cX12_is 2 (some .boolean))) B.pre w (List.mem_cons_of_mem _ h)
  have hown : s.vm.findClass RX12 = some m.cls := findClass_of_methodNamed B.named
  have hlocks := B.notSynchronized
  subst hsz
  have hD := hD0.self (sz := s.heap.size)
  generalize hAe : va_A [] s.heap.size = A at hD hT ⊢
  have hA : ∀ q : Nat, s.heap.size ≤ q → A q := fun q h => by rw [← hAe]; exact Or.inr h
  have hS : va_S A s.heap s.heap [] := va_S.rf
  have hP : va_P G.1 vwCl [] s.heap := hP
  have hl := lv_entry ([.int p_0, .int p_1]) (n := 2) (Nat.le_of_ble_eq_true rfl)
  rw [lg_entry_eq]
  generalize (lg_sl ([.int p_0, .int p_1]) ++ List.replicate (2 - (lg_sl ([.int p_0, .int p_1])).length) Slot.unset).toArray = ls at hl ⊢
  have hl : lv_has ls 2 [(0, .int p_0), (1, .int p_1)] := hl
  refine lv_iload_n hx hb dX12_is_0 rfl (lv_at hl 0 rfl) ?_
  refine lv_iload_n hx hb dX12_is_1 rfl (lv_at hl 1 rfl) ?_
  refine lv_ishr hx hb dX12_is_2 ?_
  refine lv_iconst (v := 1) hx hb dX12_is_3 (by decide) ?_
  refine W.eq (g2 := F0 m 4 ls [.int 1, .int (p_0 >>> (p_1 &&& 31))]) rfl ?_
  refine lv_iand hx hb dX12_is_4 ?_
  refine lv_iconst (v := 1) hx hb dX12_is_5 (by decide) ?_
  refine lv_icmp_ne (tgt := 13) hx hb dX12_is_6 (by decide) (fun c_1 => ?_) (fun c_1 => ?_)
  ·
    have n_1 : gNe (((p_0 >>> (p_1 &&& 31)) &&& 1).toInt) (1) := by have z := g5_ne (a := ((p_0 >>> (p_1 &&& 31)) &&& 1).toInt) (b := 1) (by rfl) (by decide) c_1; unfold gNe; omega
    refine lv_iconst (v := 0) hx hb dX12_is_13 (by decide) ?_
    exact W.zret (v := 0) hx hb hr rfl (fun t ht hW => ⟨⟨0, [], rfl, Or.inr (⟨is_n (by first | omega | (unfold gNe at *; omega)), rfl, rfl⟩), by rw [ht]; exact hP.sub [] rfl, hD.sub [] (by decide) rfl⟩, hS.F ht⟩) hS.2.2 dX12_is_14
  ·
    have i_1 : ((p_0 >>> (p_1 &&& 31)) &&& 1).toInt = 1 := by have z := g5_neN (a := ((p_0 >>> (p_1 &&& 31)) &&& 1).toInt) (b := 1) (by rfl) (by decide) c_1; omega
    refine lv_iconst (v := 1) hx hb dX12_is_9 (by decide) ?_
    refine lv_goto (tgt := 14) hx hb dX12_is_10 (by decide) ?_
    exact W.zret (v := 1) hx hb hr rfl (fun t ht hW => ⟨⟨1, [], rfl, Or.inl (⟨is_y (by omega), rfl, rfl⟩), by rw [ht]; exact hP.sub [] rfl, hD.sub [] (by decide) rfl⟩, hS.F ht⟩) hS.2.2 dX12_is_14
set_option maxHeartbeats 4000000 in
set_option maxRecDepth 100000 in
theorem n_glX0 (l : Launch) (G : g5_G) (b_o b_ro b_rf b_im b_ke b_tp b_nl b_op b_ar b_pi b_pa b_ws b_hw b_se b_re b_pt b_ip b_ah b_be b_me b_tr b_ld b_wn : Nat) (sz : Nat) (u_th : Int32) (u_sa : Int32) (u_fd : Int32) (u_td : Int32) (u_fr : Int32) (u_to : Int32) (u_so : Int32) (u_fa : Int32) (u_bd : Int32) (u_nc : Int32) (u_co : Int32) (u_le : Int32) (u_pd : Int32) (u_od : Int32) (u_la : Int32) (u_bk : Int32) (u_ce : Int32) (u_ho : Int32) (u_wy : Int32) (u_bt : Int32) (u_ps : Int32) (u_tg : Int32) (u_sn : Int32) (u_ic : Int32) (u_wd : Int32) (u_id : Int32) (p_1 : Int32) (u_wo : Int64) (u_va : Int64) (u_su : Int64) (u_st : Int64) (v_ro : Nat → Int32) (h_u_td : 0 ≤ u_td.toInt ∧ u_td.toInt ≤ 400) (h_u_fr : 0 ≤ u_fr.toInt ∧ u_fr.toInt ≤ 400) (h_u_to : 0 ≤ u_to.toInt ∧ u_to.toInt ≤ 400) (h_u_bd : 0 ≤ u_bd.toInt ∧ u_bd.toInt ≤ 1) (h_u_nc : 0 ≤ u_nc.toInt ∧ u_nc.toInt ≤ 12) (h_u_co : 0 ≤ u_co.toInt ∧ u_co.toInt ≤ 400) (h_u_pd : 0 ≤ u_pd.toInt ∧ u_pd.toInt ≤ 400) (h_u_la : 0 ≤ u_la.toInt ∧ u_la.toInt ≤ 4840) (h_u_bk : 0 ≤ u_bk.toInt ∧ u_bk.toInt ≤ 1) (h_u_ce : 0 ≤ u_ce.toInt ∧ u_ce.toInt ≤ 63) (h_u_ho : 0 ≤ u_ho.toInt ∧ u_ho.toInt ≤ 23) (h_u_wy : 0 ≤ u_wy.toInt ∧ u_wy.toInt ≤ 3) (h_u_bt : 0 ≤ u_bt.toInt ∧ u_bt.toInt ≤ 1000000) (h_u_ps : 0 ≤ u_ps.toInt ∧ u_ps.toInt ≤ 200) (h_u_ic : 0 ≤ u_ic.toInt ∧ u_ic.toInt ≤ 1) (h_u_id : 0 ≤ u_id.toInt ∧ u_id.toInt ≤ 1) (h_p_1 : 0 ≤ p_1.toInt ∧ p_1.toInt ≤ 5) (r_ro : MI v_ro) : Met l yX12_ofGlass (wsG yX12_ofGlass cX12_ofGlass 3 (some .int)) ({ frames := 0, cells := 0, slots := 0, locals := 0 }) (va_Pc [.ref b_o, .int p_1, .int 0] (g5_P G [(b_o, (oc12 u_th u_sa b_rf b_ro b_im b_ke u_fd b_tp u_td u_fr u_to u_so u_wo u_fa u_bd u_nc b_nl u_co b_op b_ar u_le b_pi b_pa u_pd u_od b_ws b_hw u_la b_se b_re u_bk u_va u_su u_ce u_ho u_wy u_bt u_ps b_pt u_tg u_sn b_ip u_ic b_ah b_be b_me u_wd b_tr b_ld u_st b_wn u_id)), (b_ro, (arI G 5740 v_ro))] sz)) (va_Qi (fun (r : Int32) (u : va_W) => (∃ (o_r : Int32), (0 ≤ o_r.toInt ∧ o_r.toInt ≤ 63) ∧ (o_r = v_ro (80 + 5 * p_1.toInt.toNat + 0)) ∧ (r = o_r) ∧ (u = [(b_o, (oc12 u_th u_sa b_rf b_ro b_im b_ke u_fd b_tp u_td u_fr u_to u_so u_wo u_fa u_bd u_nc b_nl u_co b_op b_ar u_le b_pi b_pa u_pd u_od b_ws b_hw u_la b_se b_re u_bk u_va u_su u_ce u_ho u_wy u_bt u_ps b_pt u_tg u_sn b_ip u_ic b_ah b_be b_me u_wd b_tr b_ld u_st b_wn u_id)), (b_ro, (arI G 5740 v_ro))]))) (g5_B G (va_A [(b_o, (oc12 u_th u_sa b_rf b_ro b_im b_ke u_fd b_tp u_td u_fr u_to u_so u_wo u_fa u_bd u_nc b_nl u_co b_op b_ar u_le b_pi b_pa u_pd u_od b_ws b_hw u_la b_se b_re u_bk u_va u_su u_ce u_ho u_wy u_bt u_ps b_pt u_tg u_sn b_ip u_ic b_ah b_be b_me u_wd b_tr b_ld u_st b_wn u_id)), (b_ro, (arI G 5740 v_ro))] sz)) (va_A [(b_o, (oc12 u_th u_sa b_rf b_ro b_im b_ke u_fd b_tp u_td u_fr u_to u_so u_wo u_fa u_bd u_nc b_nl u_co b_op b_ar u_le b_pi b_pa u_pd u_od b_ws b_hw u_la b_se b_re u_bk u_va u_su u_ce u_ho u_wy u_bt u_ps b_pt u_tg u_sn b_ip u_ic b_ah b_be b_me u_wd b_tr b_ld u_st b_wn u_id)), (b_ro, (arI G 5740 v_ro))] sz)) 0 0 (va_A [(b_o, (oc12 u_th u_sa b_rf b_ro b_im b_ke u_fd b_tp u_td u_fr u_to u_so u_wo u_fa u_bd u_nc b_nl u_co b_op b_ar u_le b_pi b_pa u_pd u_od b_ws b_hw u_la b_se b_re u_bk u_va u_su u_ce u_ho u_wy u_bt u_ps b_pt u_tg u_sn b_ip u_ic b_ah b_be b_me u_wd b_tr b_ld u_st b_wn u_id)), (b_ro, (arI G 5740 v_ro))] sz) := by
  refine Met.ofW (cc := cX12_ofGlass) (maxL := 3) (ret := (some .int)) (by decide) rfl ?_
  intro p e s m args below meth c s₁ B hml hv
  obtain ⟨rfl, hsz, hP, hK, hD0, hN, hT⟩ := hv
  have hx := B.exec
  have hb := B.bytes
  have hr := B.returns
  have hts : ∀ w ∈ tblG, w.before _ s = true := fun w h => atoms_spec (ws := (wsG yX12_ofGlass cX12_ofGlass 3 (some .int))) B.pre w (List.mem_cons_of_mem _ h)
  have hown : s.vm.findClass RX12 = some m.cls := findClass_of_methodNamed B.named
  have hlocks := B.notSynchronized
  subst hsz
  have hD := hD0.self (sz := s.heap.size)
  generalize hAe : va_A [(b_o, (oc12 u_th u_sa b_rf b_ro b_im b_ke u_fd b_tp u_td u_fr u_to u_so u_wo u_fa u_bd u_nc b_nl u_co b_op b_ar u_le b_pi b_pa u_pd u_od b_ws b_hw u_la b_se b_re u_bk u_va u_su u_ce u_ho u_wy u_bt u_ps b_pt u_tg u_sn b_ip u_ic b_ah b_be b_me u_wd b_tr b_ld u_st b_wn u_id)), (b_ro, (arI G 5740 v_ro))] s.heap.size = A at hD hT ⊢
  have hA : ∀ q : Nat, s.heap.size ≤ q → A q := fun q h => by rw [← hAe]; exact Or.inr h
  have hS : va_S A s.heap s.heap [] := va_S.rf
  have hP : va_P G.1 vwCl [(b_o, (oc12 u_th u_sa b_rf b_ro b_im b_ke u_fd b_tp u_td u_fr u_to u_so u_wo u_fa u_bd u_nc b_nl u_co b_op b_ar u_le b_pi b_pa u_pd u_od b_ws b_hw u_la b_se b_re u_bk u_va u_su u_ce u_ho u_wy u_bt u_ps b_pt u_tg u_sn b_ip u_ic b_ah b_be b_me u_wd b_tr b_ld u_st b_wn u_id)), (b_ro, (arI G 5740 v_ro))] s.heap := hP
  have hl := lv_entry ([.ref b_o, .int p_1, .int 0]) (n := 3) (Nat.le_of_ble_eq_true rfl)
  rw [lg_entry_eq]
  generalize (lg_sl ([.ref b_o, .int p_1, .int 0]) ++ List.replicate (3 - (lg_sl ([.ref b_o, .int p_1, .int 0])).length) Slot.unset).toArray = ls at hl ⊢
  have hl : lv_has ls 3 [(0, .ref b_o), (1, .int p_1), (2, .int 0)] := hl
  refine lv_aload_n hx hb dX12_ofGlass_0 rfl (lv_at hl 0 rfl) ?_
  refine va_get (D := G.1) (ci := 12) (v := .ref b_ro) (C := RX12) (T := TX12) (N := 52) hx hb hts inG_X12 hown hK hP 0 rfl rfl 3 (by decide) (hts _ fl_X12_13) (fun _ h9 => h9) rfl dX12_ofGlass_1 ?_
  refine lv_bipush (v := 80) hx hb dX12_ofGlass_4 (by decide) ?_
  refine lv_iconst (v := 5) hx hb dX12_ofGlass_6 (by decide) ?_
  refine W.eq (g2 := F0 m 7 ls [.int 5, .int 80, .ref b_ro]) rfl ?_
  refine lv_iload_n hx hb dX12_ofGlass_7 rfl (lv_at hl 1 rfl) ?_
  refine lv_imul hx hb dX12_ofGlass_8 ?_
  have t_1 : (5 * p_1).toInt = 5 * p_1.toInt := g5_imul (a := 5) (b := p_1.toInt) (by decide) (by rfl) (by omega) (by omega)
  refine lv_iadd hx hb dX12_ofGlass_9 ?_
  have t_2 : (80 + (5 * p_1)).toInt = 80 + (5 * p_1).toInt := g5_iadd (a := 80) (b := (5 * p_1).toInt) (by decide) (by rfl) (by omega) (by omega)
  refine lv_iload_n hx hb dX12_ofGlass_10 rfl (lv_at hl 2 rfl) ?_
  refine lv_iadd hx hb dX12_ofGlass_11 ?_
  refine g5_ti (v := (80 + (5 * p_1))) (by simp) ?_
  refine W.eq (g2 := F0 m 12 ls [.int (80 + (5 * p_1)), .ref b_ro]) rfl ?_
  refine va_iald hx hb hK hP 1 0 rfl rfl (i := (80 + (5 * p_1))) (vp_in_iff.mpr ⟨by omega, by omega⟩) dX12_ofGlass_12 ?_
  have hv9 : 0 ≤ (v_ro (80 + (5 * p_1)).toNatClampNeg).toInt ∧ (v_ro (80 + (5 * p_1)).toNatClampNeg).toInt ≤ 63 := mi_80_0 r_ro (by have zz := g5_clamp (80 + (5 * p_1)); omega) (by have zz := g5_clamp (80 + (5 * p_1)); omega) (by have zz := g5_clamp (80 + (5 * p_1)); omega)
  exact W.iret (v := (v_ro (80 + (5 * p_1)).toNatClampNeg)) hx hb hr (fun t ht hW => ⟨⟨(v_ro (80 + (5 * p_1)).toNatClampNeg), [(b_o, (oc12 u_th u_sa b_rf b_ro b_im b_ke u_fd b_tp u_td u_fr u_to u_so u_wo u_fa u_bd u_nc b_nl u_co b_op b_ar u_le b_pi b_pa u_pd u_od b_ws b_hw u_la b_se b_re u_bk u_va u_su u_ce u_ho u_wy u_bt u_ps b_pt u_tg u_sn b_ip u_ic b_ah b_be b_me u_wd b_tr b_ld u_st b_wn u_id)), (b_ro, (arI G 5740 v_ro))], rfl, ⟨(v_ro (80 + (5 * p_1)).toNatClampNeg), by omega, by congr 1; have zz := g5_clamp (80 + (5 * p_1)); omega, rfl, rfl⟩, by rw [ht]; exact hP.sub [0, 1] rfl, hD.sub [0, 1] (by decide) rfl⟩, hS.F ht⟩) hS.2.2 dX12_ofGlass_13
set_option maxHeartbeats 4000000 in
set_option maxRecDepth 100000 in
theorem n_glX1 (l : Launch) (G : g5_G) (b_o b_ro b_rf b_im b_ke b_tp b_nl b_op b_ar b_pi b_pa b_ws b_hw b_se b_re b_pt b_ip b_ah b_be b_me b_tr b_ld b_wn : Nat) (sz : Nat) (u_th : Int32) (u_sa : Int32) (u_fd : Int32) (u_td : Int32) (u_fr : Int32) (u_to : Int32) (u_so : Int32) (u_fa : Int32) (u_bd : Int32) (u_nc : Int32) (u_co : Int32) (u_le : Int32) (u_pd : Int32) (u_od : Int32) (u_la : Int32) (u_bk : Int32) (u_ce : Int32) (u_ho : Int32) (u_wy : Int32) (u_bt : Int32) (u_ps : Int32) (u_tg : Int32) (u_sn : Int32) (u_ic : Int32) (u_wd : Int32) (u_id : Int32) (p_1 : Int32) (u_wo : Int64) (u_va : Int64) (u_su : Int64) (u_st : Int64) (v_ro : Nat → Int32) (h_u_td : 0 ≤ u_td.toInt ∧ u_td.toInt ≤ 400) (h_u_fr : 0 ≤ u_fr.toInt ∧ u_fr.toInt ≤ 400) (h_u_to : 0 ≤ u_to.toInt ∧ u_to.toInt ≤ 400) (h_u_bd : 0 ≤ u_bd.toInt ∧ u_bd.toInt ≤ 1) (h_u_nc : 0 ≤ u_nc.toInt ∧ u_nc.toInt ≤ 12) (h_u_co : 0 ≤ u_co.toInt ∧ u_co.toInt ≤ 400) (h_u_pd : 0 ≤ u_pd.toInt ∧ u_pd.toInt ≤ 400) (h_u_la : 0 ≤ u_la.toInt ∧ u_la.toInt ≤ 4840) (h_u_bk : 0 ≤ u_bk.toInt ∧ u_bk.toInt ≤ 1) (h_u_ce : 0 ≤ u_ce.toInt ∧ u_ce.toInt ≤ 63) (h_u_ho : 0 ≤ u_ho.toInt ∧ u_ho.toInt ≤ 23) (h_u_wy : 0 ≤ u_wy.toInt ∧ u_wy.toInt ≤ 3) (h_u_bt : 0 ≤ u_bt.toInt ∧ u_bt.toInt ≤ 1000000) (h_u_ps : 0 ≤ u_ps.toInt ∧ u_ps.toInt ≤ 200) (h_u_ic : 0 ≤ u_ic.toInt ∧ u_ic.toInt ≤ 1) (h_u_id : 0 ≤ u_id.toInt ∧ u_id.toInt ≤ 1) (h_p_1 : 0 ≤ p_1.toInt ∧ p_1.toInt ≤ 5) (r_ro : MI v_ro) : Met l yX12_ofGlass (wsG yX12_ofGlass cX12_ofGlass 3 (some .int)) ({ frames := 0, cells := 0, slots := 0, locals := 0 }) (va_Pc [.ref b_o, .int p_1, .int 1] (g5_P G [(b_o, (oc12 u_th u_sa b_rf b_ro b_im b_ke u_fd b_tp u_td u_fr u_to u_so u_wo u_fa u_bd u_nc b_nl u_co b_op b_ar u_le b_pi b_pa u_pd u_od b_ws b_hw u_la b_se b_re u_bk u_va u_su u_ce u_ho u_wy u_bt u_ps b_pt u_tg u_sn b_ip u_ic b_ah b_be b_me u_wd b_tr b_ld u_st b_wn u_id)), (b_ro, (arI G 5740 v_ro))] sz)) (va_Qi (fun (r : Int32) (u : va_W) => (∃ (o_r : Int32), (0 ≤ o_r.toInt ∧ o_r.toInt ≤ 5) ∧ (o_r = v_ro (80 + 5 * p_1.toInt.toNat + 1)) ∧ (r = o_r) ∧ (u = [(b_o, (oc12 u_th u_sa b_rf b_ro b_im b_ke u_fd b_tp u_td u_fr u_to u_so u_wo u_fa u_bd u_nc b_nl u_co b_op b_ar u_le b_pi b_pa u_pd u_od b_ws b_hw u_la b_se b_re u_bk u_va u_su u_ce u_ho u_wy u_bt u_ps b_pt u_tg u_sn b_ip u_ic b_ah b_be b_me u_wd b_tr b_ld u_st b_wn u_id)), (b_ro, (arI G 5740 v_ro))]))) (g5_B G (va_A [(b_o, (oc12 u_th u_sa b_rf b_ro b_im b_ke u_fd b_tp u_td u_fr u_to u_so u_wo u_fa u_bd u_nc b_nl u_co b_op b_ar u_le b_pi b_pa u_pd u_od b_ws b_hw u_la b_se b_re u_bk u_va u_su u_ce u_ho u_wy u_bt u_ps b_pt u_tg u_sn b_ip u_ic b_ah b_be b_me u_wd b_tr b_ld u_st b_wn u_id)), (b_ro, (arI G 5740 v_ro))] sz)) (va_A [(b_o, (oc12 u_th u_sa b_rf b_ro b_im b_ke u_fd b_tp u_td u_fr u_to u_so u_wo u_fa u_bd u_nc b_nl u_co b_op b_ar u_le b_pi b_pa u_pd u_od b_ws b_hw u_la b_se b_re u_bk u_va u_su u_ce u_ho u_wy u_bt u_ps b_pt u_tg u_sn b_ip u_ic b_ah b_be b_me u_wd b_tr b_ld u_st b_wn u_id)), (b_ro, (arI G 5740 v_ro))] sz)) 0 0 (va_A [(b_o, (oc12 u_th u_sa b_rf b_ro b_im b_ke u_fd b_tp u_td u_fr u_to u_so u_wo u_fa u_bd u_nc b_nl u_co b_op b_ar u_le b_pi b_pa u_pd u_od b_ws b_hw u_la b_se b_re u_bk u_va u_su u_ce u_ho u_wy u_bt u_ps b_pt u_tg u_sn b_ip u_ic b_ah b_be b_me u_wd b_tr b_ld u_st b_wn u_id)), (b_ro, (arI G 5740 v_ro))] sz) := by
  refine Met.ofW (cc := cX12_ofGlass) (maxL := 3) (ret := (some .int)) (by decide) rfl ?_
  intro p e s m args below meth c s₁ B hml hv
  obtain ⟨rfl, hsz, hP, hK, hD0, hN, hT⟩ := hv
  have hx := B.exec
  have hb := B.bytes
  have hr := B.returns
  have hts : ∀ w ∈ tblG, w.before _ s = true := fun w h => atoms_spec (ws := (wsG yX12_ofGlass cX12_ofGlass 3 (some .int))) B.pre w (List.mem_cons_of_mem _ h)
  have hown : s.vm.findClass RX12 = some m.cls := findClass_of_methodNamed B.named
  have hlocks := B.notSynchronized
  subst hsz
  have hD := hD0.self (sz := s.heap.size)
  generalize hAe : va_A [(b_o, (oc12 u_th u_sa b_rf b_ro b_im b_ke u_fd b_tp u_td u_fr u_to u_so u_wo u_fa u_bd u_nc b_nl u_co b_op b_ar u_le b_pi b_pa u_pd u_od b_ws b_hw u_la b_se b_re u_bk u_va u_su u_ce u_ho u_wy u_bt u_ps b_pt u_tg u_sn b_ip u_ic b_ah b_be b_me u_wd b_tr b_ld u_st b_wn u_id)), (b_ro, (arI G 5740 v_ro))] s.heap.size = A at hD hT ⊢
  have hA : ∀ q : Nat, s.heap.size ≤ q → A q := fun q h => by rw [← hAe]; exact Or.inr h
  have hS : va_S A s.heap s.heap [] := va_S.rf
  have hP : va_P G.1 vwCl [(b_o, (oc12 u_th u_sa b_rf b_ro b_im b_ke u_fd b_tp u_td u_fr u_to u_so u_wo u_fa u_bd u_nc b_nl u_co b_op b_ar u_le b_pi b_pa u_pd u_od b_ws b_hw u_la b_se b_re u_bk u_va u_su u_ce u_ho u_wy u_bt u_ps b_pt u_tg u_sn b_ip u_ic b_ah b_be b_me u_wd b_tr b_ld u_st b_wn u_id)), (b_ro, (arI G 5740 v_ro))] s.heap := hP
  have hl := lv_entry ([.ref b_o, .int p_1, .int 1]) (n := 3) (Nat.le_of_ble_eq_true rfl)
  rw [lg_entry_eq]
  generalize (lg_sl ([.ref b_o, .int p_1, .int 1]) ++ List.replicate (3 - (lg_sl ([.ref b_o, .int p_1, .int 1])).length) Slot.unset).toArray = ls at hl ⊢
  have hl : lv_has ls 3 [(0, .ref b_o), (1, .int p_1), (2, .int 1)] := hl
  refine lv_aload_n hx hb dX12_ofGlass_0 rfl (lv_at hl 0 rfl) ?_
  refine va_get (D := G.1) (ci := 12) (v := .ref b_ro) (C := RX12) (T := TX12) (N := 52) hx hb hts inG_X12 hown hK hP 0 rfl rfl 3 (by decide) (hts _ fl_X12_13) (fun _ h9 => h9) rfl dX12_ofGlass_1 ?_
  refine lv_bipush (v := 80) hx hb dX12_ofGlass_4 (by decide) ?_
  refine lv_iconst (v := 5) hx hb dX12_ofGlass_6 (by decide) ?_
  refine W.eq (g2 := F0 m 7 ls [.int 5, .int 80, .ref b_ro]) rfl ?_
  refine lv_iload_n hx hb dX12_ofGlass_7 rfl (lv_at hl 1 rfl) ?_
  refine lv_imul hx hb dX12_ofGlass_8 ?_
  have t_1 : (5 * p_1).toInt = 5 * p_1.toInt := g5_imul (a := 5) (b := p_1.toInt) (by decide) (by rfl) (by omega) (by omega)
  refine lv_iadd hx hb dX12_ofGlass_9 ?_
  have t_2 : (80 + (5 * p_1)).toInt = 80 + (5 * p_1).toInt := g5_iadd (a := 80) (b := (5 * p_1).toInt) (by decide) (by rfl) (by omega) (by omega)
  refine lv_iload_n hx hb dX12_ofGlass_10 rfl (lv_at hl 2 rfl) ?_
  refine lv_iadd hx hb dX12_ofGlass_11 ?_
  have t_3 : ((80 + (5 * p_1)) + 1).toInt = (80 + (5 * p_1)).toInt + 1 := g5_iadd (a := (80 + (5 * p_1)).toInt) (b := 1) (by rfl) (by decide) (by omega) (by omega)
  refine W.eq (g2 := F0 m 12 ls [.int ((80 + (5 * p_1)) + 1), .ref b_ro]) rfl ?_
  refine va_iald hx hb hK hP 1 0 rfl rfl (i := ((80 + (5 * p_1)) + 1)) (vp_in_iff.mpr ⟨by omega, by omega⟩) dX12_ofGlass_12 ?_
  have hv9 : 0 ≤ (v_ro ((80 + (5 * p_1)) + 1).toNatClampNeg).toInt ∧ (v_ro ((80 + (5 * p_1)) + 1).toNatClampNeg).toInt ≤ 5 := mi_80_1 r_ro (by have zz := g5_clamp ((80 + (5 * p_1)) + 1); omega) (by have zz := g5_clamp ((80 + (5 * p_1)) + 1); omega) (by have zz := g5_clamp ((80 + (5 * p_1)) + 1); omega)
  exact W.iret (v := (v_ro ((80 + (5 * p_1)) + 1).toNatClampNeg)) hx hb hr (fun t ht hW => ⟨⟨(v_ro ((80 + (5 * p_1)) + 1).toNatClampNeg), [(b_o, (oc12 u_th u_sa b_rf b_ro b_im b_ke u_fd b_tp u_td u_fr u_to u_so u_wo u_fa u_bd u_nc b_nl u_co b_op b_ar u_le b_pi b_pa u_pd u_od b_ws b_hw u_la b_se b_re u_bk u_va u_su u_ce u_ho u_wy u_bt u_ps b_pt u_tg u_sn b_ip u_ic b_ah b_be b_me u_wd b_tr b_ld u_st b_wn u_id)), (b_ro, (arI G 5740 v_ro))], rfl, ⟨(v_ro ((80 + (5 * p_1)) + 1).toNatClampNeg), by omega, by congr 1; have zz := g5_clamp ((80 + (5 * p_1)) + 1); omega, rfl, rfl⟩, by rw [ht]; exact hP.sub [0, 1] rfl, hD.sub [0, 1] (by decide) rfl⟩, hS.F ht⟩) hS.2.2 dX12_ofGlass_13
set_option maxHeartbeats 4000000 in
set_option maxRecDepth 100000 in
theorem n_glX2 (l : Launch) (G : g5_G) (b_o b_ro b_rf b_im b_ke b_tp b_nl b_op b_ar b_pi b_pa b_ws b_hw b_se b_re b_pt b_ip b_ah b_be b_me b_tr b_ld b_wn : Nat) (sz : Nat) (u_th : Int32) (u_sa : Int32) (u_fd : Int32) (u_td : Int32) (u_fr : Int32) (u_to : Int32) (u_so : Int32) (u_fa : Int32) (u_bd : Int32) (u_nc : Int32) (u_co : Int32) (u_le : Int32) (u_pd : Int32) (u_od : Int32) (u_la : Int32) (u_bk : Int32) (u_ce : Int32) (u_ho : Int32) (u_wy : Int32) (u_bt : Int32) (u_ps : Int32) (u_tg : Int32) (u_sn : Int32) (u_ic : Int32) (u_wd : Int32) (u_id : Int32) (p_1 : Int32) (u_wo : Int64) (u_va : Int64) (u_su : Int64) (u_st : Int64) (v_ro : Nat → Int32) (h_u_td : 0 ≤ u_td.toInt ∧ u_td.toInt ≤ 400) (h_u_fr : 0 ≤ u_fr.toInt ∧ u_fr.toInt ≤ 400) (h_u_to : 0 ≤ u_to.toInt ∧ u_to.toInt ≤ 400) (h_u_bd : 0 ≤ u_bd.toInt ∧ u_bd.toInt ≤ 1) (h_u_nc : 0 ≤ u_nc.toInt ∧ u_nc.toInt ≤ 12) (h_u_co : 0 ≤ u_co.toInt ∧ u_co.toInt ≤ 400) (h_u_pd : 0 ≤ u_pd.toInt ∧ u_pd.toInt ≤ 400) (h_u_la : 0 ≤ u_la.toInt ∧ u_la.toInt ≤ 4840) (h_u_bk : 0 ≤ u_bk.toInt ∧ u_bk.toInt ≤ 1) (h_u_ce : 0 ≤ u_ce.toInt ∧ u_ce.toInt ≤ 63) (h_u_ho : 0 ≤ u_ho.toInt ∧ u_ho.toInt ≤ 23) (h_u_wy : 0 ≤ u_wy.toInt ∧ u_wy.toInt ≤ 3) (h_u_bt : 0 ≤ u_bt.toInt ∧ u_bt.toInt ≤ 1000000) (h_u_ps : 0 ≤ u_ps.toInt ∧ u_ps.toInt ≤ 200) (h_u_ic : 0 ≤ u_ic.toInt ∧ u_ic.toInt ≤ 1) (h_u_id : 0 ≤ u_id.toInt ∧ u_id.toInt ≤ 1) (h_p_1 : 0 ≤ p_1.toInt ∧ p_1.toInt ≤ 5) (r_ro : MI v_ro) : Met l yX12_ofGlass (wsG yX12_ofGlass cX12_ofGlass 3 (some .int)) ({ frames := 0, cells := 0, slots := 0, locals := 0 }) (va_Pc [.ref b_o, .int p_1, .int 2] (g5_P G [(b_o, (oc12 u_th u_sa b_rf b_ro b_im b_ke u_fd b_tp u_td u_fr u_to u_so u_wo u_fa u_bd u_nc b_nl u_co b_op b_ar u_le b_pi b_pa u_pd u_od b_ws b_hw u_la b_se b_re u_bk u_va u_su u_ce u_ho u_wy u_bt u_ps b_pt u_tg u_sn b_ip u_ic b_ah b_be b_me u_wd b_tr b_ld u_st b_wn u_id)), (b_ro, (arI G 5740 v_ro))] sz)) (va_Qi (fun (r : Int32) (u : va_W) => (∃ (o_r : Int32), (0 ≤ o_r.toInt ∧ o_r.toInt ≤ 23) ∧ (o_r = v_ro (80 + 5 * p_1.toInt.toNat + 2)) ∧ (r = o_r) ∧ (u = [(b_o, (oc12 u_th u_sa b_rf b_ro b_im b_ke u_fd b_tp u_td u_fr u_to u_so u_wo u_fa u_bd u_nc b_nl u_co b_op b_ar u_le b_pi b_pa u_pd u_od b_ws b_hw u_la b_se b_re u_bk u_va u_su u_ce u_ho u_wy u_bt u_ps b_pt u_tg u_sn b_ip u_ic b_ah b_be b_me u_wd b_tr b_ld u_st b_wn u_id)), (b_ro, (arI G 5740 v_ro))]))) (g5_B G (va_A [(b_o, (oc12 u_th u_sa b_rf b_ro b_im b_ke u_fd b_tp u_td u_fr u_to u_so u_wo u_fa u_bd u_nc b_nl u_co b_op b_ar u_le b_pi b_pa u_pd u_od b_ws b_hw u_la b_se b_re u_bk u_va u_su u_ce u_ho u_wy u_bt u_ps b_pt u_tg u_sn b_ip u_ic b_ah b_be b_me u_wd b_tr b_ld u_st b_wn u_id)), (b_ro, (arI G 5740 v_ro))] sz)) (va_A [(b_o, (oc12 u_th u_sa b_rf b_ro b_im b_ke u_fd b_tp u_td u_fr u_to u_so u_wo u_fa u_bd u_nc b_nl u_co b_op b_ar u_le b_pi b_pa u_pd u_od b_ws b_hw u_la b_se b_re u_bk u_va u_su u_ce u_ho u_wy u_bt u_ps b_pt u_tg u_sn b_ip u_ic b_ah b_be b_me u_wd b_tr b_ld u_st b_wn u_id)), (b_ro, (arI G 5740 v_ro))] sz)) 0 0 (va_A [(b_o, (oc12 u_th u_sa b_rf b_ro b_im b_ke u_fd b_tp u_td u_fr u_to u_so u_wo u_fa u_bd u_nc b_nl u_co b_op b_ar u_le b_pi b_pa u_pd u_od b_ws b_hw u_la b_se b_re u_bk u_va u_su u_ce u_ho u_wy u_bt u_ps b_pt u_tg u_sn b_ip u_ic b_ah b_be b_me u_wd b_tr b_ld u_st b_wn u_id)), (b_ro, (arI G 5740 v_ro))] sz) := by
  refine Met.ofW (cc := cX12_ofGlass) (maxL := 3) (ret := (some .int)) (by decide) rfl ?_
  intro p e s m args below meth c s₁ B hml hv
  obtain ⟨rfl, hsz, hP, hK, hD0, hN, hT⟩ := hv
  have hx := B.exec
  have hb := B.bytes
  have hr := B.returns
  have hts : ∀ w ∈ tblG, w.before _ s = true := fun w h => atoms_spec (ws := (wsG yX12_ofGlass cX12_ofGlass 3 (some .int))) B.pre w (List.mem_cons_of_mem _ h)
  have hown : s.vm.findClass RX12 = some m.cls := findClass_of_methodNamed B.named
  have hlocks := B.notSynchronized
  subst hsz
  have hD := hD0.self (sz := s.heap.size)
  generalize hAe : va_A [(b_o, (oc12 u_th u_sa b_rf b_ro b_im b_ke u_fd b_tp u_td u_fr u_to u_so u_wo u_fa u_bd u_nc b_nl u_co b_op b_ar u_le b_pi b_pa u_pd u_od b_ws b_hw u_la b_se b_re u_bk u_va u_su u_ce u_ho u_wy u_bt u_ps b_pt u_tg u_sn b_ip u_ic b_ah b_be b_me u_wd b_tr b_ld u_st b_wn u_id)), (b_ro, (arI G 5740 v_ro))] s.heap.size = A at hD hT ⊢
  have hA : ∀ q : Nat, s.heap.size ≤ q → A q := fun q h => by rw [← hAe]; exact Or.inr h
  have hS : va_S A s.heap s.heap [] := va_S.rf
  have hP : va_P G.1 vwCl [(b_o, (oc12 u_th u_sa b_rf b_ro b_im b_ke u_fd b_tp u_td u_fr u_to u_so u_wo u_fa u_bd u_nc b_nl u_co b_op b_ar u_le b_pi b_pa u_pd u_od b_ws b_hw u_la b_se b_re u_bk u_va u_su u_ce u_ho u_wy u_bt u_ps b_pt u_tg u_sn b_ip u_ic b_ah b_be b_me u_wd b_tr b_ld u_st b_wn u_id)), (b_ro, (arI G 5740 v_ro))] s.heap := hP
  have hl := lv_entry ([.ref b_o, .int p_1, .int 2]) (n := 3) (Nat.le_of_ble_eq_true rfl)
  rw [lg_entry_eq]
  generalize (lg_sl ([.ref b_o, .int p_1, .int 2]) ++ List.replicate (3 - (lg_sl ([.ref b_o, .int p_1, .int 2])).length) Slot.unset).toArray = ls at hl ⊢
  have hl : lv_has ls 3 [(0, .ref b_o), (1, .int p_1), (2, .int 2)] := hl
  refine lv_aload_n hx hb dX12_ofGlass_0 rfl (lv_at hl 0 rfl) ?_
  refine va_get (D := G.1) (ci := 12) (v := .ref b_ro) (C := RX12) (T := TX12) (N := 52) hx hb hts inG_X12 hown hK hP 0 rfl rfl 3 (by decide) (hts _ fl_X12_13) (fun _ h9 => h9) rfl dX12_ofGlass_1 ?_
  refine lv_bipush (v := 80) hx hb dX12_ofGlass_4 (by decide) ?_
  refine lv_iconst (v := 5) hx hb dX12_ofGlass_6 (by decide) ?_
  refine W.eq (g2 := F0 m 7 ls [.int 5, .int 80, .ref b_ro]) rfl ?_
  refine lv_iload_n hx hb dX12_ofGlass_7 rfl (lv_at hl 1 rfl) ?_
  refine lv_imul hx hb dX12_ofGlass_8 ?_
  have t_1 : (5 * p_1).toInt = 5 * p_1.toInt := g5_imul (a := 5) (b := p_1.toInt) (by decide) (by rfl) (by omega) (by omega)
  refine lv_iadd hx hb dX12_ofGlass_9 ?_
  have t_2 : (80 + (5 * p_1)).toInt = 80 + (5 * p_1).toInt := g5_iadd (a := 80) (b := (5 * p_1).toInt) (by decide) (by rfl) (by omega) (by omega)
  refine lv_iload_n hx hb dX12_ofGlass_10 rfl (lv_at hl 2 rfl) ?_
  refine lv_iadd hx hb dX12_ofGlass_11 ?_
  have t_3 : ((80 + (5 * p_1)) + 2).toInt = (80 + (5 * p_1)).toInt + 2 := g5_iadd (a := (80 + (5 * p_1)).toInt) (b := 2) (by rfl) (by decide) (by omega) (by omega)
  refine W.eq (g2 := F0 m 12 ls [.int ((80 + (5 * p_1)) + 2), .ref b_ro]) rfl ?_
  refine va_iald hx hb hK hP 1 0 rfl rfl (i := ((80 + (5 * p_1)) + 2)) (vp_in_iff.mpr ⟨by omega, by omega⟩) dX12_ofGlass_12 ?_
  have hv9 : 0 ≤ (v_ro ((80 + (5 * p_1)) + 2).toNatClampNeg).toInt ∧ (v_ro ((80 + (5 * p_1)) + 2).toNatClampNeg).toInt ≤ 23 := mi_80_2 r_ro (by have zz := g5_clamp ((80 + (5 * p_1)) + 2); omega) (by have zz := g5_clamp ((80 + (5 * p_1)) + 2); omega) (by have zz := g5_clamp ((80 + (5 * p_1)) + 2); omega)
  exact W.iret (v := (v_ro ((80 + (5 * p_1)) + 2).toNatClampNeg)) hx hb hr (fun t ht hW => ⟨⟨(v_ro ((80 + (5 * p_1)) + 2).toNatClampNeg), [(b_o, (oc12 u_th u_sa b_rf b_ro b_im b_ke u_fd b_tp u_td u_fr u_to u_so u_wo u_fa u_bd u_nc b_nl u_co b_op b_ar u_le b_pi b_pa u_pd u_od b_ws b_hw u_la b_se b_re u_bk u_va u_su u_ce u_ho u_wy u_bt u_ps b_pt u_tg u_sn b_ip u_ic b_ah b_be b_me u_wd b_tr b_ld u_st b_wn u_id)), (b_ro, (arI G 5740 v_ro))], rfl, ⟨(v_ro ((80 + (5 * p_1)) + 2).toNatClampNeg), by omega, by congr 1; have zz := g5_clamp ((80 + (5 * p_1)) + 2); omega, rfl, rfl⟩, by rw [ht]; exact hP.sub [0, 1] rfl, hD.sub [0, 1] (by decide) rfl⟩, hS.F ht⟩) hS.2.2 dX12_ofGlass_13
set_option maxHeartbeats 4000000 in
set_option maxRecDepth 100000 in
theorem n_glX3 (l : Launch) (G : g5_G) (b_o b_ro b_rf b_im b_ke b_tp b_nl b_op b_ar b_pi b_pa b_ws b_hw b_se b_re b_pt b_ip b_ah b_be b_me b_tr b_ld b_wn : Nat) (sz : Nat) (u_th : Int32) (u_sa : Int32) (u_fd : Int32) (u_td : Int32) (u_fr : Int32) (u_to : Int32) (u_so : Int32) (u_fa : Int32) (u_bd : Int32) (u_nc : Int32) (u_co : Int32) (u_le : Int32) (u_pd : Int32) (u_od : Int32) (u_la : Int32) (u_bk : Int32) (u_ce : Int32) (u_ho : Int32) (u_wy : Int32) (u_bt : Int32) (u_ps : Int32) (u_tg : Int32) (u_sn : Int32) (u_ic : Int32) (u_wd : Int32) (u_id : Int32) (p_1 : Int32) (u_wo : Int64) (u_va : Int64) (u_su : Int64) (u_st : Int64) (v_ro : Nat → Int32) (h_u_td : 0 ≤ u_td.toInt ∧ u_td.toInt ≤ 400) (h_u_fr : 0 ≤ u_fr.toInt ∧ u_fr.toInt ≤ 400) (h_u_to : 0 ≤ u_to.toInt ∧ u_to.toInt ≤ 400) (h_u_bd : 0 ≤ u_bd.toInt ∧ u_bd.toInt ≤ 1) (h_u_nc : 0 ≤ u_nc.toInt ∧ u_nc.toInt ≤ 12) (h_u_co : 0 ≤ u_co.toInt ∧ u_co.toInt ≤ 400) (h_u_pd : 0 ≤ u_pd.toInt ∧ u_pd.toInt ≤ 400) (h_u_la : 0 ≤ u_la.toInt ∧ u_la.toInt ≤ 4840) (h_u_bk : 0 ≤ u_bk.toInt ∧ u_bk.toInt ≤ 1) (h_u_ce : 0 ≤ u_ce.toInt ∧ u_ce.toInt ≤ 63) (h_u_ho : 0 ≤ u_ho.toInt ∧ u_ho.toInt ≤ 23) (h_u_wy : 0 ≤ u_wy.toInt ∧ u_wy.toInt ≤ 3) (h_u_bt : 0 ≤ u_bt.toInt ∧ u_bt.toInt ≤ 1000000) (h_u_ps : 0 ≤ u_ps.toInt ∧ u_ps.toInt ≤ 200) (h_u_ic : 0 ≤ u_ic.toInt ∧ u_ic.toInt ≤ 1) (h_u_id : 0 ≤ u_id.toInt ∧ u_id.toInt ≤ 1) (h_p_1 : 0 ≤ p_1.toInt ∧ p_1.toInt ≤ 5) (r_ro : MI v_ro) : Met l yX12_ofGlass (wsG yX12_ofGlass cX12_ofGlass 3 (some .int)) ({ frames := 0, cells := 0, slots := 0, locals := 0 }) (va_Pc [.ref b_o, .int p_1, .int 3] (g5_P G [(b_o, (oc12 u_th u_sa b_rf b_ro b_im b_ke u_fd b_tp u_td u_fr u_to u_so u_wo u_fa u_bd u_nc b_nl u_co b_op b_ar u_le b_pi b_pa u_pd u_od b_ws b_hw u_la b_se b_re u_bk u_va u_su u_ce u_ho u_wy u_bt u_ps b_pt u_tg u_sn b_ip u_ic b_ah b_be b_me u_wd b_tr b_ld u_st b_wn u_id)), (b_ro, (arI G 5740 v_ro))] sz)) (va_Qi (fun (r : Int32) (u : va_W) => (∃ (o_r : Int32), (0 ≤ o_r.toInt ∧ o_r.toInt ≤ 10) ∧ (o_r = v_ro (80 + 5 * p_1.toInt.toNat + 3)) ∧ (r = o_r) ∧ (u = [(b_o, (oc12 u_th u_sa b_rf b_ro b_im b_ke u_fd b_tp u_td u_fr u_to u_so u_wo u_fa u_bd u_nc b_nl u_co b_op b_ar u_le b_pi b_pa u_pd u_od b_ws b_hw u_la b_se b_re u_bk u_va u_su u_ce u_ho u_wy u_bt u_ps b_pt u_tg u_sn b_ip u_ic b_ah b_be b_me u_wd b_tr b_ld u_st b_wn u_id)), (b_ro, (arI G 5740 v_ro))]))) (g5_B G (va_A [(b_o, (oc12 u_th u_sa b_rf b_ro b_im b_ke u_fd b_tp u_td u_fr u_to u_so u_wo u_fa u_bd u_nc b_nl u_co b_op b_ar u_le b_pi b_pa u_pd u_od b_ws b_hw u_la b_se b_re u_bk u_va u_su u_ce u_ho u_wy u_bt u_ps b_pt u_tg u_sn b_ip u_ic b_ah b_be b_me u_wd b_tr b_ld u_st b_wn u_id)), (b_ro, (arI G 5740 v_ro))] sz)) (va_A [(b_o, (oc12 u_th u_sa b_rf b_ro b_im b_ke u_fd b_tp u_td u_fr u_to u_so u_wo u_fa u_bd u_nc b_nl u_co b_op b_ar u_le b_pi b_pa u_pd u_od b_ws b_hw u_la b_se b_re u_bk u_va u_su u_ce u_ho u_wy u_bt u_ps b_pt u_tg u_sn b_ip u_ic b_ah b_be b_me u_wd b_tr b_ld u_st b_wn u_id)), (b_ro, (arI G 5740 v_ro))] sz)) 0 0 (va_A [(b_o, (oc12 u_th u_sa b_rf b_ro b_im b_ke u_fd b_tp u_td u_fr u_to u_so u_wo u_fa u_bd u_nc b_nl u_co b_op b_ar u_le b_pi b_pa u_pd u_od b_ws b_hw u_la b_se b_re u_bk u_va u_su u_ce u_ho u_wy u_bt u_ps b_pt u_tg u_sn b_ip u_ic b_ah b_be b_me u_wd b_tr b_ld u_st b_wn u_id)), (b_ro, (arI G 5740 v_ro))] sz) := by
  refine Met.ofW (cc := cX12_ofGlass) (maxL := 3) (ret := (some .int)) (by decide) rfl ?_
  intro p e s m args below meth c s₁ B hml hv
  obtain ⟨rfl, hsz, hP, hK, hD0, hN, hT⟩ := hv
  have hx := B.exec
  have hb := B.bytes
  have hr := B.returns
  have hts : ∀ w ∈ tblG, w.before _ s = true := fun w h => atoms_spec (ws := (wsG yX12_ofGlass cX12_ofGlass 3 (some .int))) B.pre w (List.mem_cons_of_mem _ h)
  have hown : s.vm.findClass RX12 = some m.cls := findClass_of_methodNamed B.named
  have hlocks := B.notSynchronized
  subst hsz
  have hD := hD0.self (sz := s.heap.size)
  generalize hAe : va_A [(b_o, (oc12 u_th u_sa b_rf b_ro b_im b_ke u_fd b_tp u_td u_fr u_to u_so u_wo u_fa u_bd u_nc b_nl u_co b_op b_ar u_le b_pi b_pa u_pd u_od b_ws b_hw u_la b_se b_re u_bk u_va u_su u_ce u_ho u_wy u_bt u_ps b_pt u_tg u_sn b_ip u_ic b_ah b_be b_me u_wd b_tr b_ld u_st b_wn u_id)), (b_ro, (arI G 5740 v_ro))] s.heap.size = A at hD hT ⊢
  have hA : ∀ q : Nat, s.heap.size ≤ q → A q := fun q h => by rw [← hAe]; exact Or.inr h
  have hS : va_S A s.heap s.heap [] := va_S.rf
  have hP : va_P G.1 vwCl [(b_o, (oc12 u_th u_sa b_rf b_ro b_im b_ke u_fd b_tp u_td u_fr u_to u_so u_wo u_fa u_bd u_nc b_nl u_co b_op b_ar u_le b_pi b_pa u_pd u_od b_ws b_hw u_la b_se b_re u_bk u_va u_su u_ce u_ho u_wy u_bt u_ps b_pt u_tg u_sn b_ip u_ic b_ah b_be b_me u_wd b_tr b_ld u_st b_wn u_id)), (b_ro, (arI G 5740 v_ro))] s.heap := hP
  have hl := lv_entry ([.ref b_o, .int p_1, .int 3]) (n := 3) (Nat.le_of_ble_eq_true rfl)
  rw [lg_entry_eq]
  generalize (lg_sl ([.ref b_o, .int p_1, .int 3]) ++ List.replicate (3 - (lg_sl ([.ref b_o, .int p_1, .int 3])).length) Slot.unset).toArray = ls at hl ⊢
  have hl : lv_has ls 3 [(0, .ref b_o), (1, .int p_1), (2, .int 3)] := hl
  refine lv_aload_n hx hb dX12_ofGlass_0 rfl (lv_at hl 0 rfl) ?_
  refine va_get (D := G.1) (ci := 12) (v := .ref b_ro) (C := RX12) (T := TX12) (N := 52) hx hb hts inG_X12 hown hK hP 0 rfl rfl 3 (by decide) (hts _ fl_X12_13) (fun _ h9 => h9) rfl dX12_ofGlass_1 ?_
  refine lv_bipush (v := 80) hx hb dX12_ofGlass_4 (by decide) ?_
  refine lv_iconst (v := 5) hx hb dX12_ofGlass_6 (by decide) ?_
  refine W.eq (g2 := F0 m 7 ls [.int 5, .int 80, .ref b_ro]) rfl ?_
  refine lv_iload_n hx hb dX12_ofGlass_7 rfl (lv_at hl 1 rfl) ?_
  refine lv_imul hx hb dX12_ofGlass_8 ?_
  have t_1 : (5 * p_1).toInt = 5 * p_1.toInt := g5_imul (a := 5) (b := p_1.toInt) (by decide) (by rfl) (by omega) (by omega)
  refine lv_iadd hx hb dX12_ofGlass_9 ?_
  have t_2 : (80 + (5 * p_1)).toInt = 80 + (5 * p_1).toInt := g5_iadd (a := 80) (b := (5 * p_1).toInt) (by decide) (by rfl) (by omega) (by omega)
  refine lv_iload_n hx hb dX12_ofGlass_10 rfl (lv_at hl 2 rfl) ?_
  refine lv_iadd hx hb dX12_ofGlass_11 ?_
  have t_3 : ((80 + (5 * p_1)) + 3).toInt = (80 + (5 * p_1)).toInt + 3 := g5_iadd (a := (80 + (5 * p_1)).toInt) (b := 3) (by rfl) (by decide) (by omega) (by omega)
  refine W.eq (g2 := F0 m 12 ls [.int ((80 + (5 * p_1)) + 3), .ref b_ro]) rfl ?_
  refine va_iald hx hb hK hP 1 0 rfl rfl (i := ((80 + (5 * p_1)) + 3)) (vp_in_iff.mpr ⟨by omega, by omega⟩) dX12_ofGlass_12 ?_
  have hv9 : 0 ≤ (v_ro ((80 + (5 * p_1)) + 3).toNatClampNeg).toInt ∧ (v_ro ((80 + (5 * p_1)) + 3).toNatClampNeg).toInt ≤ 10 := mi_80_3 r_ro (by have zz := g5_clamp ((80 + (5 * p_1)) + 3); omega) (by have zz := g5_clamp ((80 + (5 * p_1)) + 3); omega) (by have zz := g5_clamp ((80 + (5 * p_1)) + 3); omega)
  exact W.iret (v := (v_ro ((80 + (5 * p_1)) + 3).toNatClampNeg)) hx hb hr (fun t ht hW => ⟨⟨(v_ro ((80 + (5 * p_1)) + 3).toNatClampNeg), [(b_o, (oc12 u_th u_sa b_rf b_ro b_im b_ke u_fd b_tp u_td u_fr u_to u_so u_wo u_fa u_bd u_nc b_nl u_co b_op b_ar u_le b_pi b_pa u_pd u_od b_ws b_hw u_la b_se b_re u_bk u_va u_su u_ce u_ho u_wy u_bt u_ps b_pt u_tg u_sn b_ip u_ic b_ah b_be b_me u_wd b_tr b_ld u_st b_wn u_id)), (b_ro, (arI G 5740 v_ro))], rfl, ⟨(v_ro ((80 + (5 * p_1)) + 3).toNatClampNeg), by omega, by congr 1; have zz := g5_clamp ((80 + (5 * p_1)) + 3); omega, rfl, rfl⟩, by rw [ht]; exact hP.sub [0, 1] rfl, hD.sub [0, 1] (by decide) rfl⟩, hS.F ht⟩) hS.2.2 dX12_ofGlass_13
set_option maxHeartbeats 4000000 in
set_option maxRecDepth 100000 in
theorem n_glX4 (l : Launch) (G : g5_G) (b_o b_ro b_rf b_im b_ke b_tp b_nl b_op b_ar b_pi b_pa b_ws b_hw b_se b_re b_pt b_ip b_ah b_be b_me b_tr b_ld b_wn : Nat) (sz : Nat) (u_th : Int32) (u_sa : Int32) (u_fd : Int32) (u_td : Int32) (u_fr : Int32) (u_to : Int32) (u_so : Int32) (u_fa : Int32) (u_bd : Int32) (u_nc : Int32) (u_co : Int32) (u_le : Int32) (u_pd : Int32) (u_od : Int32) (u_la : Int32) (u_bk : Int32) (u_ce : Int32) (u_ho : Int32) (u_wy : Int32) (u_bt : Int32) (u_ps : Int32) (u_tg : Int32) (u_sn : Int32) (u_ic : Int32) (u_wd : Int32) (u_id : Int32) (p_1 : Int32) (u_wo : Int64) (u_va : Int64) (u_su : Int64) (u_st : Int64) (v_ro : Nat → Int32) (h_u_td : 0 ≤ u_td.toInt ∧ u_td.toInt ≤ 400) (h_u_fr : 0 ≤ u_fr.toInt ∧ u_fr.toInt ≤ 400) (h_u_to : 0 ≤ u_to.toInt ∧ u_to.toInt ≤ 400) (h_u_bd : 0 ≤ u_bd.toInt ∧ u_bd.toInt ≤ 1) (h_u_nc : 0 ≤ u_nc.toInt ∧ u_nc.toInt ≤ 12) (h_u_co : 0 ≤ u_co.toInt ∧ u_co.toInt ≤ 400) (h_u_pd : 0 ≤ u_pd.toInt ∧ u_pd.toInt ≤ 400) (h_u_la : 0 ≤ u_la.toInt ∧ u_la.toInt ≤ 4840) (h_u_bk : 0 ≤ u_bk.toInt ∧ u_bk.toInt ≤ 1) (h_u_ce : 0 ≤ u_ce.toInt ∧ u_ce.toInt ≤ 63) (h_u_ho : 0 ≤ u_ho.toInt ∧ u_ho.toInt ≤ 23) (h_u_wy : 0 ≤ u_wy.toInt ∧ u_wy.toInt ≤ 3) (h_u_bt : 0 ≤ u_bt.toInt ∧ u_bt.toInt ≤ 1000000) (h_u_ps : 0 ≤ u_ps.toInt ∧ u_ps.toInt ≤ 200) (h_u_ic : 0 ≤ u_ic.toInt ∧ u_ic.toInt ≤ 1) (h_u_id : 0 ≤ u_id.toInt ∧ u_id.toInt ≤ 1) (h_p_1 : 0 ≤ p_1.toInt ∧ p_1.toInt ≤ 5) (r_ro : MI v_ro) : Met l yX12_ofGlass (wsG yX12_ofGlass cX12_ofGlass 3 (some .int)) ({ frames := 0, cells := 0, slots := 0, locals := 0 }) (va_Pc [.ref b_o, .int p_1, .int 4] (g5_P G [(b_o, (oc12 u_th u_sa b_rf b_ro b_im b_ke u_fd b_tp u_td u_fr u_to u_so u_wo u_fa u_bd u_nc b_nl u_co b_op b_ar u_le b_pi b_pa u_pd u_od b_ws b_hw u_la b_se b_re u_bk u_va u_su u_ce u_ho u_wy u_bt u_ps b_pt u_tg u_sn b_ip u_ic b_ah b_be b_me u_wd b_tr b_ld u_st b_wn u_id)), (b_ro, (arI G 5740 v_ro))] sz)) (va_Qi (fun (r : Int32) (u : va_W) => (∃ (o_r : Int32), (o_r = v_ro (80 + 5 * p_1.toInt.toNat + 4)) ∧ (r = o_r) ∧ (u = [(b_o, (oc12 u_th u_sa b_rf b_ro b_im b_ke u_fd b_tp u_td u_fr u_to u_so u_wo u_fa u_bd u_nc b_nl u_co b_op b_ar u_le b_pi b_pa u_pd u_od b_ws b_hw u_la b_se b_re u_bk u_va u_su u_ce u_ho u_wy u_bt u_ps b_pt u_tg u_sn b_ip u_ic b_ah b_be b_me u_wd b_tr b_ld u_st b_wn u_id)), (b_ro, (arI G 5740 v_ro))]))) (g5_B G (va_A [(b_o, (oc12 u_th u_sa b_rf b_ro b_im b_ke u_fd b_tp u_td u_fr u_to u_so u_wo u_fa u_bd u_nc b_nl u_co b_op b_ar u_le b_pi b_pa u_pd u_od b_ws b_hw u_la b_se b_re u_bk u_va u_su u_ce u_ho u_wy u_bt u_ps b_pt u_tg u_sn b_ip u_ic b_ah b_be b_me u_wd b_tr b_ld u_st b_wn u_id)), (b_ro, (arI G 5740 v_ro))] sz)) (va_A [(b_o, (oc12 u_th u_sa b_rf b_ro b_im b_ke u_fd b_tp u_td u_fr u_to u_so u_wo u_fa u_bd u_nc b_nl u_co b_op b_ar u_le b_pi b_pa u_pd u_od b_ws b_hw u_la b_se b_re u_bk u_va u_su u_ce u_ho u_wy u_bt u_ps b_pt u_tg u_sn b_ip u_ic b_ah b_be b_me u_wd b_tr b_ld u_st b_wn u_id)), (b_ro, (arI G 5740 v_ro))] sz)) 0 0 (va_A [(b_o, (oc12 u_th u_sa b_rf b_ro b_im b_ke u_fd b_tp u_td u_fr u_to u_so u_wo u_fa u_bd u_nc b_nl u_co b_op b_ar u_le b_pi b_pa u_pd u_od b_ws b_hw u_la b_se b_re u_bk u_va u_su u_ce u_ho u_wy u_bt u_ps b_pt u_tg u_sn b_ip u_ic b_ah b_be b_me u_wd b_tr b_ld u_st b_wn u_id)), (b_ro, (arI G 5740 v_ro))] sz) := by
  refine Met.ofW (cc := cX12_ofGlass) (maxL := 3) (ret := (some .int)) (by decide) rfl ?_
  intro p e s m args below meth c s₁ B hml hv
  obtain ⟨rfl, hsz, hP, hK, hD0, hN, hT⟩ := hv
  have hx := B.exec
  have hb := B.bytes
  have hr := B.returns
  have hts : ∀ w ∈ tblG, w.before _ s = true := fun w h => atoms_spec (ws := (wsG yX12_ofGlass cX12_ofGlass 3 (some .int))) B.pre w (List.mem_cons_of_mem _ h)
  have hown : s.vm.findClass RX12 = some m.cls := findClass_of_methodNamed B.named
  have hlocks := B.notSynchronized
  subst hsz
  have hD := hD0.self (sz := s.heap.size)
  generalize hAe : va_A [(b_o, (oc12 u_th u_sa b_rf b_ro b_im b_ke u_fd b_tp u_td u_fr u_to u_so u_wo u_fa u_bd u_nc b_nl u_co b_op b_ar u_le b_pi b_pa u_pd u_od b_ws b_hw u_la b_se b_re u_bk u_va u_su u_ce u_ho u_wy u_bt u_ps b_pt u_tg u_sn b_ip u_ic b_ah b_be b_me u_wd b_tr b_ld u_st b_wn u_id)), (b_ro, (arI G 5740 v_ro))] s.heap.size = A at hD hT ⊢
  have hA : ∀ q : Nat, s.heap.size ≤ q → A q := fun q h => by rw [← hAe]; exact Or.inr h
  have hS : va_S A s.heap s.heap [] := va_S.rf
  have hP : va_P G.1 vwCl [(b_o, (oc12 u_th u_sa b_rf b_ro b_im b_ke u_fd b_tp u_td u_fr u_to u_so u_wo u_fa u_bd u_nc b_nl u_co b_op b_ar u_le b_pi b_pa u_pd u_od b_ws b_hw u_la b_se b_re u_bk u_va u_su u_ce u_ho u_wy u_bt u_ps b_pt u_tg u_sn b_ip u_ic b_ah b_be b_me u_wd b_tr b_ld u_st b_wn u_id)), (b_ro, (arI G 5740 v_ro))] s.heap := hP
  have hl := lv_entry ([.ref b_o, .int p_1, .int 4]) (n := 3) (Nat.le_of_ble_eq_true rfl)
  rw [lg_entry_eq]
  generalize (lg_sl ([.ref b_o, .int p_1, .int 4]) ++ List.replicate (3 - (lg_sl ([.ref b_o, .int p_1, .int 4])).length) Slot.unset).toArray = ls at hl ⊢
  have hl : lv_has ls 3 [(0, .ref b_o), (1, .int p_1), (2, .int 4)] := hl
  refine lv_aload_n hx hb dX12_ofGlass_0 rfl (lv_at hl 0 rfl) ?_
  refine va_get (D := G.1) (ci := 12) (v := .ref b_ro) (C := RX12) (T := TX12) (N := 52) hx hb hts inG_X12 hown hK hP 0 rfl rfl 3 (by decide) (hts _ fl_X12_13) (fun _ h9 => h9) rfl dX12_ofGlass_1 ?_
  refine lv_bipush (v := 80) hx hb dX12_ofGlass_4 (by decide) ?_
  refine lv_iconst (v := 5) hx hb dX12_ofGlass_6 (by decide) ?_
  refine W.eq (g2 := F0 m 7 ls [.int 5, .int 80, .ref b_ro]) rfl ?_
  refine lv_iload_n hx hb dX12_ofGlass_7 rfl (lv_at hl 1 rfl) ?_
  refine lv_imul hx hb dX12_ofGlass_8 ?_
  have t_1 : (5 * p_1).toInt = 5 * p_1.toInt := g5_imul (a := 5) (b := p_1.toInt) (by decide) (by rfl) (by omega) (by omega)
  refine lv_iadd hx hb dX12_ofGlass_9 ?_
  have t_2 : (80 + (5 * p_1)).toInt = 80 + (5 * p_1).toInt := g5_iadd (a := 80) (b := (5 * p_1).toInt) (by decide) (by rfl) (by omega) (by omega)
  refine lv_iload_n hx hb dX12_ofGlass_10 rfl (lv_at hl 2 rfl) ?_
  refine lv_iadd hx hb dX12_ofGlass_11 ?_
  have t_3 : ((80 + (5 * p_1)) + 4).toInt = (80 + (5 * p_1)).toInt + 4 := g5_iadd (a := (80 + (5 * p_1)).toInt) (b := 4) (by rfl) (by decide) (by omega) (by omega)
  refine W.eq (g2 := F0 m 12 ls [.int ((80 + (5 * p_1)) + 4), .ref b_ro]) rfl ?_
  refine va_iald hx hb hK hP 1 0 rfl rfl (i := ((80 + (5 * p_1)) + 4)) (vp_in_iff.mpr ⟨by omega, by omega⟩) dX12_ofGlass_12 ?_
  exact W.iret (v := (v_ro ((80 + (5 * p_1)) + 4).toNatClampNeg)) hx hb hr (fun t ht hW => ⟨⟨(v_ro ((80 + (5 * p_1)) + 4).toNatClampNeg), [(b_o, (oc12 u_th u_sa b_rf b_ro b_im b_ke u_fd b_tp u_td u_fr u_to u_so u_wo u_fa u_bd u_nc b_nl u_co b_op b_ar u_le b_pi b_pa u_pd u_od b_ws b_hw u_la b_se b_re u_bk u_va u_su u_ce u_ho u_wy u_bt u_ps b_pt u_tg u_sn b_ip u_ic b_ah b_be b_me u_wd b_tr b_ld u_st b_wn u_id)), (b_ro, (arI G 5740 v_ro))], rfl, ⟨(v_ro ((80 + (5 * p_1)) + 4).toNatClampNeg), by congr 1; have zz := g5_clamp ((80 + (5 * p_1)) + 4); omega, rfl, rfl⟩, by rw [ht]; exact hP.sub [0, 1] rfl, hD.sub [0, 1] (by decide) rfl⟩, hS.F ht⟩) hS.2.2 dX12_ofGlass_13
set_option maxHeartbeats 4000000 in
set_option maxRecDepth 100000 in
theorem n_turnsX (l : Launch) (G : g5_G) (b_o b_ro b_se b_re b_rf b_im b_ke b_tp b_nl b_op b_ar b_pi b_pa b_ws b_hw b_pt b_ip b_ah b_be b_me b_tr b_ld b_wn : Nat) (sz : Nat) (u_th : Int32) (u_sa : Int32) (u_fd : Int32) (u_td : Int32) (u_fr : Int32) (u_to : Int32) (u_so : Int32) (u_fa : Int32) (u_bd : Int32) (u_nc : Int32) (u_co : Int32) (u_le : Int32) (u_pd : Int32) (u_od : Int32) (u_la : Int32) (u_bk : Int32) (u_ce : Int32) (u_ho : Int32) (u_wy : Int32) (u_bt : Int32) (u_ps : Int32) (u_tg : Int32) (u_sn : Int32) (u_ic : Int32) (u_wd : Int32) (u_id : Int32) (p_1 : Int32) (p_2 : Int32) (p_3 : Int32) (p_4 : Int32) (p_5 : Int32) (u_wo : Int64) (u_va : Int64) (u_su : Int64) (u_st : Int64) (v_ro : Nat → Int32) (v_se : Nat → Int64) (v_re : Nat → Int64) (g_w : Option (List CLT)) (h_u_td : 0 ≤ u_td.toInt ∧ u_td.toInt ≤ 400) (h_u_fr : 0 ≤ u_fr.toInt ∧ u_fr.toInt ≤ 400) (h_u_to : 0 ≤ u_to.toInt ∧ u_to.toInt ≤ 400) (h_u_bd : 0 ≤ u_bd.toInt ∧ u_bd.toInt ≤ 1) (h_u_nc : 0 ≤ u_nc.toInt ∧ u_nc.toInt ≤ 12) (h_u_co : 0 ≤ u_co.toInt ∧ u_co.toInt ≤ 400) (h_u_pd : 0 ≤ u_pd.toInt ∧ u_pd.toInt ≤ 400) (h_u_la : 0 ≤ u_la.toInt ∧ u_la.toInt ≤ 4840) (h_u_bk : 0 ≤ u_bk.toInt ∧ u_bk.toInt ≤ 1) (h_u_ce : 0 ≤ u_ce.toInt ∧ u_ce.toInt ≤ 63) (h_u_ho : 0 ≤ u_ho.toInt ∧ u_ho.toInt ≤ 23) (h_u_wy : 0 ≤ u_wy.toInt ∧ u_wy.toInt ≤ 3) (h_u_bt : 0 ≤ u_bt.toInt ∧ u_bt.toInt ≤ 1000000) (h_u_ps : 0 ≤ u_ps.toInt ∧ u_ps.toInt ≤ 200) (h_u_ic : 0 ≤ u_ic.toInt ∧ u_ic.toInt ≤ 1) (h_u_id : 0 ≤ u_id.toInt ∧ u_id.toInt ≤ 1) (h_p_2 : 0 ≤ p_2.toInt ∧ p_2.toInt ≤ 5) (h_p_3 : 0 ≤ p_3.toInt ∧ p_3.toInt ≤ 23) (h_p_4 : 0 ≤ p_4.toInt ∧ p_4.toInt ≤ 10) (h_p_5 : 0 ≤ p_5.toInt ∧ p_5.toInt ≤ 1) (r_ro : MI v_ro) (e_mf : MLF v_ro g_w) : Met l yX12_turns (wsG yX12_turns cX12_turns 8 (some .boolean)) ({ frames := 4, cells := 0, slots := 0, locals := 101 }) (va_Pc [.ref b_o, .int p_1, .int p_2, .int p_3, .int p_4, .int p_5] (g5_P G [(b_o, (oc12 u_th u_sa b_rf b_ro b_im b_ke u_fd b_tp u_td u_fr u_to u_so u_wo u_fa u_bd u_nc b_nl u_co b_op b_ar u_le b_pi b_pa u_pd u_od b_ws b_hw u_la b_se b_re u_bk u_va u_su u_ce u_ho u_wy u_bt u_ps b_pt u_tg u_sn b_ip u_ic b_ah b_be b_me u_wd b_tr b_ld u_st b_wn u_id)), (b_ro, (arI G 5740 v_ro)), (b_se, (arJ G 13 v_se)), (b_re, (arJ G 400 v_re))] sz)) (va_Qi (fun (r : Int32) (u : va_W) => (∃ (o_r : Int32) (o_la : Int32) (o_bk : Int32) (o_va : Int64) (o_su : Int64) (o_ho : Int32) (o_wy : Int32) (o_bt : Int32) (o_tg : Int32) (o_se : Nat → Int64) (o_re : Nat → Int64), (0 ≤ o_r.toInt ∧ o_r.toInt ≤ 1) ∧ (0 ≤ o_la.toInt ∧ o_la.toInt ≤ 4840) ∧ (0 ≤ o_bk.toInt ∧ o_bk.toInt ≤ 1) ∧ (0 ≤ o_ho.toInt ∧ o_ho.toInt ≤ 23) ∧ (0 ≤ o_wy.toInt ∧ o_wy.toInt ≤ 3) ∧ (0 ≤ o_bt.toInt ∧ o_bt.toInt ≤ 1000000) ∧ ((o_r.toInt = 0 ∧ (turnF g_w p_1 p_2 p_3 p_4 (p_5.toInt ≠ 0) (v_ro 4) u_ce u_wy u_ho u_bt u_tg u_ps).1 = false ∧ (turnF g_w p_1 p_2 p_3 p_4 (p_5.toInt ≠ 0) (v_ro 4) u_ce u_wy u_ho u_bt u_tg u_ps).2.2.2.1 = o_bt ∧ (turnF g_w p_1 p_2 p_3 p_4 (p_5.toInt ≠ 0) (v_ro 4) u_ce u_wy u_ho u_bt u_tg u_ps).2.2.2.2 = o_tg) ∨ (o_r.toInt = 1 ∧ turnF g_w p_1 p_2 p_3 p_4 (p_5.toInt ≠ 0) (v_ro 4) u_ce u_wy u_ho u_bt u_tg u_ps = (true, o_wy, o_ho, o_bt, o_tg))) ∧ (r = o_r) ∧ (u = [(b_o, (oc12 u_th u_sa b_rf b_ro b_im b_ke u_fd b_tp u_td u_fr u_to u_so u_wo u_fa u_bd u_nc b_nl u_co b_op b_ar u_le b_pi b_pa u_pd u_od b_ws b_hw o_la b_se b_re o_bk o_va o_su u_ce o_ho o_wy o_bt u_ps b_pt o_tg u_sn b_ip u_ic b_ah b_be b_me u_wd b_tr b_ld u_st b_wn u_id)), (b_ro, (arI G 5740 v_ro)), (b_se, (arJ G 13 o_se)), (b_re, (arJ G 400 o_re))]))) (g5_B G (va_A [(b_o, (oc12 u_th u_sa b_rf b_ro b_im b_ke u_fd b_tp u_td u_fr u_to u_so u_wo u_fa u_bd u_nc b_nl u_co b_op b_ar u_le b_pi b_pa u_pd u_od b_ws b_hw u_la b_se b_re u_bk u_va u_su u_ce u_ho u_wy u_bt u_ps b_pt u_tg u_sn b_ip u_ic b_ah b_be b_me u_wd b_tr b_ld u_st b_wn u_id)), (b_ro, (arI G 5740 v_ro)), (b_se, (arJ G 13 v_se)), (b_re, (arJ G 400 v_re))] sz)) (va_A [(b_o, (oc12 u_th u_sa b_rf b_ro b_im b_ke u_fd b_tp u_td u_fr u_to u_so u_wo u_fa u_bd u_nc b_nl u_co b_op b_ar u_le b_pi b_pa u_pd u_od b_ws b_hw u_la b_se b_re u_bk u_va u_su u_ce u_ho u_wy u_bt u_ps b_pt u_tg u_sn b_ip u_ic b_ah b_be b_me u_wd b_tr b_ld u_st b_wn u_id)), (b_ro, (arI G 5740 v_ro)), (b_se, (arJ G 13 v_se)), (b_re, (arJ G 400 v_re))] sz)) 0 0 (va_A [(b_o, (oc12 u_th u_sa b_rf b_ro b_im b_ke u_fd b_tp u_td u_fr u_to u_so u_wo u_fa u_bd u_nc b_nl u_co b_op b_ar u_le b_pi b_pa u_pd u_od b_ws b_hw u_la b_se b_re u_bk u_va u_su u_ce u_ho u_wy u_bt u_ps b_pt u_tg u_sn b_ip u_ic b_ah b_be b_me u_wd b_tr b_ld u_st b_wn u_id)), (b_ro, (arI G 5740 v_ro)), (b_se, (arJ G 13 v_se)), (b_re, (arJ G 400 v_re))] sz) := by
  refine Met.ofW (cc := cX12_turns) (maxL := 8) (ret := (some .boolean)) (by decide +kernel) rfl ?_
  intro p e s m args below meth c s₁ B hml hv
  obtain ⟨rfl, hsz, hP, hK, hD0, hN, hT⟩ := hv
  have hx := B.exec
  have hb := B.bytes
  have hr := B.returns
  have hts : ∀ w ∈ tblG, w.before _ s = true := fun w h => atoms_spec (ws := (wsG yX12_turns cX12_turns 8 (some .boolean))) B.pre w (List.mem_cons_of_mem _ h)
  have hown : s.vm.findClass RX12 = some m.cls := findClass_of_methodNamed B.named
  have hlocks := B.notSynchronized
  subst hsz
  have hD := hD0.self (sz := s.heap.size)
  generalize hAe : va_A [(b_o, (oc12 u_th u_sa b_rf b_ro b_im b_ke u_fd b_tp u_td u_fr u_to u_so u_wo u_fa u_bd u_nc b_nl u_co b_op b_ar u_le b_pi b_pa u_pd u_od b_ws b_hw u_la b_se b_re u_bk u_va u_su u_ce u_ho u_wy u_bt u_ps b_pt u_tg u_sn b_ip u_ic b_ah b_be b_me u_wd b_tr b_ld u_st b_wn u_id)), (b_ro, (arI G 5740 v_ro)), (b_se, (arJ G 13 v_se)), (b_re, (arJ G 400 v_re))] s.heap.size = A at hD hT ⊢
  have hA : ∀ q : Nat, s.heap.size ≤ q → A q := fun q h => by rw [← hAe]; exact Or.inr h
  have hS : va_S A s.heap s.heap [] := va_S.rf
  replace hP : va_P G.1 vwCl [(b_o, (oc12 u_th u_sa b_rf b_ro b_im b_ke u_fd b_tp u_td u_fr u_to u_so u_wo u_fa u_bd u_nc b_nl u_co b_op b_ar u_le b_pi b_pa u_pd u_od b_ws b_hw u_la b_se b_re u_bk u_va u_su u_ce u_ho u_wy u_bt u_ps b_pt u_tg u_sn b_ip u_ic b_ah b_be b_me u_wd b_tr b_ld u_st b_wn u_id)), (b_ro, (arI G 5740 v_ro)), (b_se, (arJ G 13 v_se)), (b_re, (arJ G 400 v_re))] s.heap := hP
  have hl := lv_entry ([.ref b_o, .int p_1, .int p_2, .int p_3, .int p_4, .int p_5]) (n := 8) (Nat.le_of_ble_eq_true rfl)
  rw [lg_entry_eq]
  generalize (lg_sl ([.ref b_o, .int p_1, .int p_2, .int p_3, .int p_4, .int p_5]) ++ List.replicate (8 - (lg_sl ([.ref b_o, .int p_1, .int p_2, .int p_3, .int p_4, .int p_5])).length) Slot.unset).toArray = ls at hl ⊢
  replace hl : lv_has ls 8 [(0, .ref b_o), (1, .int p_1), (2, .int p_2), (3, .int p_3), (4, .int p_4), (5, .int p_5)] := hl
  have zk23 : (23 : Int32).toInt = 23 := (by decide +kernel)
  have zk10 : (10 : Int32).toInt = 10 := (by decide +kernel)
  refine lv_iload hx hb dX12_turns_0 (lv_at hl 5 rfl) ?_
  refine lv_if_ne (tgt := 33) hx hb dX12_turns_2 (by decide +kernel) (fun c_1 => ?_) (fun c_1 => ?_)
  ·
    have n_1 : gNe (p_5.toInt) (0) := g5_ne (a := p_5.toInt) (b := 0) rfl (by decide +kernel) c_1
    have i_1 : p_5.toInt ≥ 1 := by have z := g5_ne (a := p_5.toInt) (b := 0) (by rfl) (by decide +kernel) c_1; omega
    refine lv_iconst (v := 0) hx hb dX12_turns_33 (by decide +kernel) ?_
    exact W.zret (v := 0) hx hb hr rfl (fun t ht hW => ⟨⟨0, [(b_o, (oc12 u_th u_sa b_rf b_ro b_im b_ke u_fd b_tp u_td u_fr u_to u_so u_wo u_fa u_bd u_nc b_nl u_co b_op b_ar u_le b_pi b_pa u_pd u_od b_ws b_hw u_la b_se b_re u_bk u_va u_su u_ce u_ho u_wy u_bt u_ps b_pt u_tg u_sn b_ip u_ic b_ah b_be b_me u_wd b_tr b_ld u_st b_wn u_id)), (b_ro, (arI G 5740 v_ro)), (b_se, (arJ G 13 v_se)), (b_re, (arJ G 400 v_re))], rfl, ⟨0, u_la, u_bk, u_va, u_su, u_ho, u_wy, u_bt, u_tg, v_se, v_re, ⟨by have zc_o_r : (0 : Int32).toInt = 0 := (by decide +kernel); omega, by have zc_o_r : (0 : Int32).toInt = 0 := (by decide +kernel); omega⟩, h_u_la, h_u_bk, h_u_ho, h_u_wy, h_u_bt, Or.inl ⟨by decide, by rw [tn_0 (Or.inl (by first | omega | (unfold gNe at *; omega)))]; exact ⟨rfl, rfl, rfl⟩⟩, rfl, rfl⟩, by rw [ht]; exact hP.sub [0, 1, 2, 3] rfl, hD.sub [0, 1, 2, 3] (by decide +kernel) rfl⟩, hS.F ht⟩) hS.2.2 dX12_turns_34
  ·
    have i_1 : p_5.toInt = 0 := g5_neN (a := p_5.toInt) (b := 0) rfl (by decide +kernel) c_1
    refine lv_aload_n hx hb dX12_turns_5 rfl (lv_at hl 0 rfl) ?_
    refine lv_iconst (v := 2) hx hb dX12_turns_6 (by decide +kernel) ?_
    refine lv_iload_n hx hb dX12_turns_7 rfl (lv_at hl 1 rfl) ?_
    refine lv_iconst (v := (-1)) hx hb dX12_turns_8 (by decide +kernel) ?_
    refine W.eq (g2 := F0 m 9 ls [.int (-1), .int p_1, .int 2, .ref b_o]) rfl ?_
    refine lv_iconst (v := 0) hx hb dX12_turns_9 (by decide +kernel) ?_
    refine lv_iconst (v := 1) hx hb dX12_turns_10 (by decide +kernel) ?_
    obtain ⟨hPc, hDc, hFc⟩ := g5_sub3 (wc := [(b_o, (oc12 u_th u_sa b_rf b_ro b_im b_ke u_fd b_tp u_td u_fr u_to u_so u_wo u_fa u_bd u_nc b_nl u_co b_op b_ar u_le b_pi b_pa u_pd u_od b_ws b_hw u_la b_se b_re u_bk u_va u_su u_ce u_ho u_wy u_bt u_ps b_pt u_tg u_sn b_ip u_ic b_ah b_be b_me u_wd b_tr b_ld u_st b_wn u_id)), (b_ro, (arI G 5740 v_ro)), (b_se, (arJ G 13 v_se)), (b_re, (arJ G 400 v_re))]) hP hD hS hA [0, 1, 2, 3] (by decide +kernel) rfl
    refine va_calli (va_runV (As := [.int 2, .int p_1, .int (-1), .int 0, .int 1]) (rest := []) ⟨hx, hb, hml, hown, hts⟩ (n_asksX l G b_o b_ro b_se b_re b_rf b_im b_ke b_tp b_nl b_op b_ar b_pi b_pa b_ws b_hw b_pt b_ip b_ah b_be b_me b_tr b_ld b_wn s.heap.size u_th u_sa u_fd u_td u_fr u_to u_so u_fa u_bd u_nc u_co u_le u_pd u_od u_la u_bk u_ce u_ho u_wy u_bt u_ps u_tg u_sn u_ic u_wd u_id 2 p_1 (-1) 0 1 u_wo u_va u_su u_st v_ro v_se v_re g_w h_u_td h_u_fr h_u_to h_u_bd h_u_nc h_u_co h_u_pd h_u_la h_u_bk h_u_ce h_u_ho h_u_wy h_u_bt h_u_ps h_u_ic h_u_id ⟨by decide, by decide⟩ ⟨by decide, by decide⟩ (r_ro) (by decide +kernel) (e_mf) (Or.inr (by decide +kernel))) (cwV 5 hts gV_X12_383 rfl rfl rfl hv_X12_asks ⟨Nat.le_of_ble_eq_true rfl, Nat.le_of_ble_eq_true rfl⟩) (g5_preV hPc hK hDc hN hT hS hFc (ci := 12) (q0 := 0) rfl rfl) rfl rfl hl.1 rfl (lv_room (Nat.le_of_ble_eq_true rfl)) dX12_turns_11 ⟨Nat.le_of_ble_eq_true rfl, Nat.le_of_ble_eq_true rfl⟩) hS (fun q _ h => hFc q h) hFc (fun r u t H locs ht hvm hw hB hz1 hk1 hS => ?_)
    obtain ⟨hP1, hD1⟩ := hB
    have hP1 := g5_ht ht hP1
    obtain ⟨z7, z8, z9, z10, z11, z12, z13, (i_2 : 0 ≤ z7.toInt ∧ z7.toInt ≤ 23), (i_3 : 0 ≤ z7.toInt ∧ z7.toInt ≤ (1 : Int32).toInt), (i_4 : 0 ≤ z8.toInt ∧ z8.toInt ≤ 4840), (i_5 : 0 ≤ z9.toInt ∧ z9.toInt ≤ 1), (i_6 : z7 = askA (toldW g_w (2 : Int32).toInt (askQ p_1 u_ce u_ho u_wy ((-1) : Int32) u_ps u_bt)) (2 : Int32).toInt (0 : Int32) (1 : Int32)), y14, rfl⟩ := hw
    have hJ9 := va_join (wr := []) hP hD [0, 1, 2, 3] [] rfl rfl (by decide +kernel) (by decide +kernel) hk1 hFc hP1 hD1
    clear hP hD hPc hDc hFc ht hvm hz1 hk1 hP1 hD1
    obtain ⟨hP, hD⟩ := hJ9
    refine g5_rs [(b_o, (oc12 u_th u_sa b_rf b_ro b_im b_ke u_fd b_tp u_td u_fr u_to u_so u_wo u_fa u_bd u_nc b_nl u_co b_op b_ar u_le b_pi b_pa u_pd u_od b_ws b_hw z8 b_se b_re z9 z10 z11 u_ce u_ho u_wy u_bt u_ps b_pt u_tg u_sn b_ip u_ic b_ah b_be b_me u_wd b_tr b_ld u_st b_wn u_id)), (b_ro, (arI G 5740 v_ro)), (b_se, (arJ G 13 z12)), (b_re, (arJ G 400 z13))] hP hD ?_
    clear hP hD
    intro hP hD
    refine g5_ti (v := z7) y14 ?_
    have hA2 := as_2 (h := 2) (by decide +kernel) (by decide +kernel) i_6
    refine lv_iconst (v := 1) hx hb dX12_turns_14 (by decide +kernel) ?_
    refine lv_icmp_eq (tgt := 33) hx hb dX12_turns_15 (by decide +kernel) (fun c_15 => ?_) (fun c_15 => ?_)
    ·
      have i_15 : z7.toInt = 1 := g5_eq (a := z7.toInt) (b := 1) rfl (by decide +kernel) c_15
      refine lv_iconst (v := 0) hx hb dX12_turns_33 (by decide +kernel) ?_
      exact W.zret (v := 0) hx hb hr rfl (fun t ht hW => ⟨⟨0, [(b_o, (oc12 u_th u_sa b_rf b_ro b_im b_ke u_fd b_tp u_td u_fr u_to u_so u_wo u_fa u_bd u_nc b_nl u_co b_op b_ar u_le b_pi b_pa u_pd u_od b_ws b_hw z8 b_se b_re z9 z10 z11 u_ce u_ho u_wy u_bt u_ps b_pt u_tg u_sn b_ip u_ic b_ah b_be b_me u_wd b_tr b_ld u_st b_wn u_id)), (b_ro, (arI G 5740 v_ro)), (b_se, (arJ G 13 z12)), (b_re, (arJ G 400 z13))], rfl, ⟨0, z8, z9, z10, z11, u_ho, u_wy, u_bt, u_tg, z12, z13, ⟨by have zc_o_r : (0 : Int32).toInt = 0 := (by decide +kernel); omega, by have zc_o_r : (0 : Int32).toInt = 0 := (by decide +kernel); omega⟩, i_4, i_5, h_u_ho, h_u_wy, h_u_bt, Or.inl ⟨by decide, by rw [tn_0 (Or.inr (Or.inl (hA2.elim (fun q9 => q9.2) (fun q9 => absurd q9.1 (by omega)))))]; exact ⟨rfl, rfl, rfl⟩⟩, rfl, rfl⟩, by rw [ht]; exact hP.sub [0, 1, 2, 3] rfl, hD.sub [0, 1, 2, 3] (by decide +kernel) rfl⟩, hS.F ht⟩) hS.2.2 dX12_turns_34
    ·
      have n_15 : gNe (z7.toInt) (1) := g5_eqN (a := z7.toInt) (b := 1) rfl (by decide +kernel) c_15
      refine lv_iload_n hx hb dX12_turns_18 rfl (lv_at hl 2 rfl) ?_
      refine lv_iconst (v := 1) hx hb dX12_turns_19 (by decide +kernel) ?_
      refine lv_icmp_le (tgt := 35) hx hb dX12_turns_20 (by decide +kernel) (fun c_16 => ?_) (fun c_16 => ?_)
      ·
        have i_16 : p_2.toInt ≤ 1 := g5_le (a := p_2.toInt) (b := 1) rfl (by decide +kernel) c_16
        have hT2 : toldW g_w 2 (askQ p_1 u_ce u_ho u_wy (-1) u_ps u_bt) = none := hA2.elim (fun q9 => absurd q9.1 (by first | omega | (unfold gNe at *; omega))) (fun q9 => q9.2)
        have hNS : ¬ (p_5.toInt ≠ 0 ∨ toldW g_w 2 (askQ p_1 u_ce u_ho u_wy (-1) u_ps u_bt) ≠ none ∨ (2 ≤ p_2.toInt ∧ u_wy.toInt ≠ p_2.toInt % 4)) := ns_of (fun q9 => q9 (by omega)) hT2 (fun q9 => by obtain ⟨q8, q7⟩ := q9; exact q7 (by omega))
        refine lv_aload_n hx hb dX12_turns_35 rfl (lv_at hl 0 rfl) ?_
        refine lv_iconst (v := 0) hx hb dX12_turns_36 (by decide +kernel) ?_
        refine lv_iload_n hx hb dX12_turns_37 rfl (lv_at hl 1 rfl) ?_
        refine lv_iconst (v := (-1)) hx hb dX12_turns_38 (by decide +kernel) ?_
        refine W.eq (g2 := F0 m 39 ls [.int (-1), .int p_1, .int 0, .ref b_o]) rfl ?_
        refine lv_iload_n hx hb dX12_turns_39 rfl (lv_at hl 3 rfl) ?_
        refine lv_bipush (v := 23) hx hb dX12_turns_40 (by decide +kernel) ?_
        obtain ⟨hPc, hDc, hFc⟩ := g5_sub3 (wc := [(b_o, (oc12 u_th u_sa b_rf b_ro b_im b_ke u_fd b_tp u_td u_fr u_to u_so u_wo u_fa u_bd u_nc b_nl u_co b_op b_ar u_le b_pi b_pa u_pd u_od b_ws b_hw z8 b_se b_re z9 z10 z11 u_ce u_ho u_wy u_bt u_ps b_pt u_tg u_sn b_ip u_ic b_ah b_be b_me u_wd b_tr b_ld u_st b_wn u_id)), (b_ro, (arI G 5740 v_ro)), (b_se, (arJ G 13 z12)), (b_re, (arJ G 400 z13))]) hP hD hS hA [0, 1, 2, 3] (by decide +kernel) rfl
        refine va_calli (va_runV (As := [.int 0, .int p_1, .int (-1), .int p_3, .int 23]) (rest := []) ⟨hx, hb, hml, hown, hts⟩ (n_asksX l G b_o b_ro b_se b_re b_rf b_im b_ke b_tp b_nl b_op b_ar b_pi b_pa b_ws b_hw b_pt b_ip b_ah b_be b_me b_tr b_ld b_wn H.size u_th u_sa u_fd u_td u_fr u_to u_so u_fa u_bd u_nc u_co u_le u_pd u_od z8 z9 u_ce u_ho u_wy u_bt u_ps u_tg u_sn u_ic u_wd u_id 0 p_1 (-1) p_3 23 u_wo z10 z11 u_st v_ro z12 z13 g_w h_u_td h_u_fr h_u_to h_u_bd h_u_nc h_u_co h_u_pd i_4 i_5 h_u_ce h_u_ho h_u_wy h_u_bt h_u_ps h_u_ic h_u_id h_p_3 ⟨by decide, by decide⟩ (r_ro) (by have zk : (23 : Int32).toInt = 23 := (by decide +kernel); omega) (e_mf) (Or.inl (by decide +kernel))) (cwV 5 hts gV_X12_383 rfl rfl rfl hv_X12_asks ⟨Nat.le_of_ble_eq_true rfl, Nat.le_of_ble_eq_true rfl⟩) (g5_preV hPc hK hDc hN hT hS hFc (ci := 12) (q0 := 0) rfl rfl) rfl rfl hl.1 rfl (lv_room (Nat.le_of_ble_eq_true rfl)) dX12_turns_42 ⟨Nat.le_of_ble_eq_true rfl, Nat.le_of_ble_eq_true rfl⟩) hS (fun q _ h => hFc q h) hFc (fun r u t H locs ht hvm hw hB hz1 hk1 hS => ?_)
        obtain ⟨hP1, hD1⟩ := hB
        have hP1 := g5_ht ht hP1
        obtain ⟨z22, z23, z24, z25, z26, z27, z28, (i_17 : 0 ≤ z22.toInt ∧ z22.toInt ≤ 23), (i_18 : 0 ≤ z22.toInt ∧ z22.toInt ≤ (23 : Int32).toInt), (i_19 : 0 ≤ z23.toInt ∧ z23.toInt ≤ 4840), (i_20 : 0 ≤ z24.toInt ∧ z24.toInt ≤ 1), (i_21 : z22 = askA (toldW g_w (0 : Int32).toInt (askQ p_1 u_ce u_ho u_wy ((-1) : Int32) u_ps u_bt)) (0 : Int32).toInt p_3 (23 : Int32)), y29, rfl⟩ := hw
        have hJ9 := va_join (wr := []) hP hD [0, 1, 2, 3] [] rfl rfl (by decide +kernel) (by decide +kernel) hk1 hFc hP1 hD1
        clear hP hD hPc hDc hFc ht hvm hz1 hk1 hP1 hD1
        obtain ⟨hP, hD⟩ := hJ9
        refine g5_rs [(b_o, (oc12 u_th u_sa b_rf b_ro b_im b_ke u_fd b_tp u_td u_fr u_to u_so u_wo u_fa u_bd u_nc b_nl u_co b_op b_ar u_le b_pi b_pa u_pd u_od b_ws b_hw z23 b_se b_re z24 z25 z26 u_ce u_ho u_wy u_bt u_ps b_pt u_tg u_sn b_ip u_ic b_ah b_be b_me u_wd b_tr b_ld u_st b_wn u_id)), (b_ro, (arI G 5740 v_ro)), (b_se, (arJ G 13 z27)), (b_re, (arJ G 400 z28))] hP hD ?_
        clear hP hD
        intro hP hD
        refine g5_ti (v := z22) y29 ?_
        have hV0 := as_v (h := 0) (by decide +kernel) (by decide +kernel) i_21
        refine lv_istore (lv' := [(6, .int z22), (0, .ref b_o), (1, .int p_1), (2, .int p_2), (3, .int p_3), (4, .int p_4), (5, .int p_5)]) hx hb dX12_turns_45 hl (by decide +kernel) rfl ?_
        clear hl
        intro ls hl
        refine lv_aload_n hx hb dX12_turns_47 rfl (lv_at hl 1 rfl) ?_
        refine W.eq (g2 := F0 m 48 ls [.ref b_o]) rfl ?_
        refine lv_iconst (v := 1) hx hb dX12_turns_48 (by decide +kernel) ?_
        refine lv_iload_n hx hb dX12_turns_49 rfl (lv_at hl 2 rfl) ?_
        refine lv_iconst (v := (-1)) hx hb dX12_turns_50 (by decide +kernel) ?_
        refine lv_iload hx hb dX12_turns_51 (lv_at hl 5 rfl) ?_
        refine lv_bipush (v := 10) hx hb dX12_turns_53 (by decide +kernel) ?_
        refine W.eq (g2 := F0 m 55 ls [.int 10, .int p_4, .int (-1), .int p_1, .int 1, .ref b_o]) rfl ?_
        obtain ⟨hPc, hDc, hFc⟩ := g5_sub3 (wc := [(b_o, (oc12 u_th u_sa b_rf b_ro b_im b_ke u_fd b_tp u_td u_fr u_to u_so u_wo u_fa u_bd u_nc b_nl u_co b_op b_ar u_le b_pi b_pa u_pd u_od b_ws b_hw z23 b_se b_re z24 z25 z26 u_ce u_ho u_wy u_bt u_ps b_pt u_tg u_sn b_ip u_ic b_ah b_be b_me u_wd b_tr b_ld u_st b_wn u_id)), (b_ro, (arI G 5740 v_ro)), (b_se, (arJ G 13 z27)), (b_re, (arJ G 400 z28))]) hP hD hS hA [0, 1, 2, 3] (by decide +kernel) rfl
        refine va_calli (va_runV (As := [.int 1, .int p_1, .int (-1), .int p_4, .int 10]) (rest := []) ⟨hx, hb, hml, hown, hts⟩ (n_asksX l G b_o b_ro b_se b_re b_rf b_im b_ke b_tp b_nl b_op b_ar b_pi b_pa b_ws b_hw b_pt b_ip b_ah b_be b_me b_tr b_ld b_wn H.size u_th u_sa u_fd u_td u_fr u_to u_so u_fa u_bd u_nc u_co u_le u_pd u_od z23 z24 u_ce u_ho u_wy u_bt u_ps u_tg u_sn u_ic u_wd u_id 1 p_1 (-1) p_4 10 u_wo z25 z26 u_st v_ro z27 z28 g_w h_u_td h_u_fr h_u_to h_u_bd h_u_nc h_u_co h_u_pd i_19 i_20 h_u_ce h_u_ho h_u_wy h_u_bt h_u_ps h_u_ic h_u_id ⟨by omega, by omega⟩ ⟨by decide, by decide⟩ (r_ro) (by have zk : (10 : Int32).toInt = 10 := (by decide +kernel); omega) (e_mf) (Or.inl (by decide +kernel))) (cwV 5 hts gV_X12_383 rfl rfl rfl hv_X12_asks ⟨Nat.le_of_ble_eq_true rfl, Nat.le_of_ble_eq_true rfl⟩) (g5_preV hPc hK hDc hN hT hS hFc (ci := 12) (q0 := 0) rfl rfl) rfl rfl hl.1 rfl (lv_room (Nat.le_of_ble_eq_true rfl)) dX12_turns_55 ⟨Nat.le_of_ble_eq_true rfl, Nat.le_of_ble_eq_true rfl⟩) hS (fun q _ h => hFc q h) hFc (fun r u t H locs ht hvm hw hB hz1 hk1 hS => ?_)
        obtain ⟨hP1, hD1⟩ := hB
        have hP1 := g5_ht ht hP1
        obtain ⟨z35, z36, z37, z38, z39, z40, z41, (i_30 : 0 ≤ z35.toInt ∧ z35.toInt ≤ 23), (i_31 : 0 ≤ z35.toInt ∧ z35.toInt ≤ (10 : Int32).toInt), (i_32 : 0 ≤ z36.toInt ∧ z36.toInt ≤ 4840), (i_33 : 0 ≤ z37.toInt ∧ z37.toInt ≤ 1), (i_34 : z35 = askA (toldW g_w (1 : Int32).toInt (askQ p_1 u_ce u_ho u_wy ((-1) : Int32) u_ps u_bt)) (1 : Int32).toInt p_4 (10 : Int32)), y42, rfl⟩ := hw
        have hJ9 := va_join (wr := []) hP hD [0, 1, 2, 3] [] rfl rfl (by decide +kernel) (by decide +kernel) hk1 hFc hP1 hD1
        clear hP hD hPc hDc hFc ht hvm hz1 hk1 hP1 hD1
        obtain ⟨hP, hD⟩ := hJ9
        refine g5_rs [(b_o, (oc12 u_th u_sa b_rf b_ro b_im b_ke u_fd b_tp u_td u_fr u_to u_so u_wo u_fa u_bd u_nc b_nl u_co b_op b_ar u_le b_pi b_pa u_pd u_od b_ws b_hw z36 b_se b_re z37 z38 z39 u_ce u_ho u_wy u_bt u_ps b_pt u_tg u_sn b_ip u_ic b_ah b_be b_me u_wd b_tr b_ld u_st b_wn u_id)), (b_ro, (arI G 5740 v_ro)), (b_se, (arJ G 13 z40)), (b_re, (arJ G 400 z41))] hP hD ?_
        clear hP hD
        intro hP hD
        refine g5_ti (v := z35) y42 ?_
        have hV1 := as_v (h := 1) (by decide +kernel) (by decide +kernel) i_34
        refine lv_istore (lv' := [(7, .int z35), (6, .int z22), (0, .ref b_o), (1, .int p_1), (2, .int p_2), (3, .int p_3), (4, .int p_4), (5, .int p_5)]) hx hb dX12_turns_58 hl (by decide +kernel) rfl ?_
        clear hl
        intro ls hl
        refine lv_aload_n hx hb dX12_turns_60 rfl (lv_at hl 2 rfl) ?_
        refine va_get (D := G.1) (ci := 12) (v := .int u_ho) (C := RX12) (T := TX12) (N := 52) hx hb hts inG_X12 hown hK hP 0 rfl rfl 34 (by decide +kernel) (hts _ fl_X12_352) (fun _ h9 => h9) rfl dX12_turns_61 ?_
        refine lv_iload hx hb dX12_turns_64 (lv_at hl 1 rfl) ?_
        refine W.eq (g2 := F0 m 66 ls [.int z22, .int u_ho]) rfl ?_
        refine lv_icmp_ge (tgt := 71) hx hb dX12_turns_66 (by decide +kernel) (fun c_43 => ?_) (fun c_43 => ?_)
        ·
          have i_43 : u_ho.toInt ≥ z22.toInt := g5_ge (a := u_ho.toInt) (b := z22.toInt) rfl rfl c_43
          refine lv_aload_n hx hb dX12_turns_71 rfl (lv_at hl 2 rfl) ?_
          refine lv_dup hx hb dX12_turns_72 rfl ?_
          refine va_get (D := G.1) (ci := 12) (v := .int u_ho) (C := RX12) (T := TX12) (N := 52) hx hb hts inG_X12 hown hK hP 0 rfl rfl 34 (by decide +kernel) (hts _ fl_X12_352) (fun _ h9 => h9) rfl dX12_turns_73 ?_
          refine lv_iload hx hb dX12_turns_76 (lv_at hl 1 rfl) ?_
          refine W.eq (g2 := F0 m 78 ls [.int z22, .int u_ho, .ref b_o]) rfl ?_
          refine lv_isub hx hb dX12_turns_78 ?_
          have t_44 : (u_ho - z22).toInt = u_ho.toInt - z22.toInt := g5_isub (a := u_ho.toInt) (b := z22.toInt) (by rfl) (by rfl) (by omega) (by omega)
          refine va_put (D := G.1) (ci := 12) (v := .int (u_ho - z22)) (ty := .int) (C := RX12) (T := TX12) (N := 52) hx hb hts inG_X12 tyX12 tyX12_ok nmX12 hown hK hP hD hS 0 rfl rfl 34 (by decide +kernel) (hts _ fl_X12_352) (fun _ h9 => h9) rfl (by decide +kernel) rfl rfl (Nat.le_of_ble_eq_true rfl) dX12_turns_79 ?_
          clear hP hD hS
          intro H locs hP hD hS
          refine g5_rs [(b_o, (oc12 u_th u_sa b_rf b_ro b_im b_ke u_fd b_tp u_td u_fr u_to u_so u_wo u_fa u_bd u_nc b_nl u_co b_op b_ar u_le b_pi b_pa u_pd u_od b_ws b_hw z36 b_se b_re z37 z38 z39 u_ce (u_ho - z22) u_wy u_bt u_ps b_pt u_tg u_sn b_ip u_ic b_ah b_be b_me u_wd b_tr b_ld u_st b_wn u_id)), (b_ro, (arI G 5740 v_ro)), (b_se, (arJ G 13 z40)), (b_re, (arJ G 400 z41))] hP hD ?_
          clear hP hD
          intro hP hD
          refine lv_aload_n hx hb dX12_turns_82 rfl (lv_at hl 2 rfl) ?_
          refine lv_aload_n hx hb dX12_turns_83 rfl (lv_at hl 2 rfl) ?_
          refine va_get (D := G.1) (ci := 12) (v := .int u_bt) (C := RX12) (T := TX12) (N := 52) hx hb hts inG_X12 hown hK hP 0 rfl rfl 36 (by decide +kernel) (hts _ fl_X12_361) (fun _ h9 => h9) rfl dX12_turns_84 ?_
          refine W.eq (g2 := F0 m 87 ls [.int u_bt, .ref b_o]) rfl ?_
          refine lv_bipush (v := 10) hx hb dX12_turns_87 (by decide +kernel) ?_
          refine lv_iload hx hb dX12_turns_89 (lv_at hl 0 rfl) ?_
          refine lv_isub hx hb dX12_turns_91 ?_
          have t_45 : (10 - z35).toInt = 10 - z35.toInt := g5_isub (a := 10) (b := z35.toInt) (by decide +kernel) (by rfl) (by omega) (by omega)
          refine lv_imul hx hb dX12_turns_92 ?_
          refine lv_bipush (v := 10) hx hb dX12_turns_93 (by decide +kernel) ?_
          refine W.eq (g2 := F0 m 95 ls [.int 10, .int (u_bt * (10 - z35)), .ref b_o]) rfl ?_
          refine lv_idiv hx hb dX12_turns_95 (by decide +kernel) ?_
          have hb_46 : 0 ≤ ((u_bt * (10 - z35)) / 10).toInt ∧ ((u_bt * (10 - z35)) / 10).toInt ≤ 1000000 := g_dust (by omega) (by omega)
          refine va_put (D := G.1) (ci := 12) (v := .int ((u_bt * (10 - z35)) / 10)) (ty := .int) (C := RX12) (T := TX12) (N := 52) hx hb hts inG_X12 tyX12 tyX12_ok nmX12 hown hK hP hD hS 0 rfl rfl 36 (by decide +kernel) (hts _ fl_X12_361) (fun _ h9 => h9) rfl (by decide +kernel) rfl rfl (Nat.le_of_ble_eq_true rfl) dX12_turns_96 ?_
          clear hP hD hS
          intro H locs hP hD hS
          refine g5_rs [(b_o, (oc12 u_th u_sa b_rf b_ro b_im b_ke u_fd b_tp u_td u_fr u_to u_so u_wo u_fa u_bd u_nc b_nl u_co b_op b_ar u_le b_pi b_pa u_pd u_od b_ws b_hw z36 b_se b_re z37 z38 z39 u_ce (u_ho - z22) u_wy ((u_bt * (10 - z35)) / 10) u_ps b_pt u_tg u_sn b_ip u_ic b_ah b_be b_me u_wd b_tr b_ld u_st b_wn u_id)), (b_ro, (arI G 5740 v_ro)), (b_se, (arJ G 13 z40)), (b_re, (arJ G 400 z41))] hP hD ?_
          clear hP hD
          intro hP hD
          refine lv_aload_n hx hb dX12_turns_99 rfl (lv_at hl 2 rfl) ?_
          refine va_get (D := G.1) (ci := 12) (v := .int ((u_bt * (10 - z35)) / 10)) (C := RX12) (T := TX12) (N := 52) hx hb hts inG_X12 hown hK hP 0 rfl rfl 36 (by decide +kernel) (hts _ fl_X12_361) (fun _ h9 => h9) rfl dX12_turns_100 ?_
          refine lv_aload_n hx hb dX12_turns_103 rfl (lv_at hl 2 rfl) ?_
          refine W.eq (g2 := F0 m 104 ls [.ref b_o, .int ((u_bt * (10 - z35)) / 10)]) rfl ?_
          refine va_get (D := G.1) (ci := 12) (v := .ref b_ro) (C := RX12) (T := TX12) (N := 52) hx hb hts inG_X12 hown hK hP 0 rfl rfl 3 (by decide +kernel) (hts _ fl_X12_13) (fun _ h9 => h9) rfl dX12_turns_104 ?_
          refine lv_iconst (v := 4) hx hb dX12_turns_107 (by decide +kernel) ?_
          refine va_iald hx hb hK hP 1 0 rfl rfl (i := 4) (by unfold vp_in; decide) dX12_turns_108 ?_
          refine g5_ti (v := (v_ro 4)) rfl ?_
          refine lv_icmp_ge (tgt := 114) hx hb dX12_turns_109 (by decide +kernel) (fun c_47 => ?_) (fun c_47 => ?_)
          ·
            have i_47 : ((u_bt * (10 - z35)) / 10).toInt ≥ (v_ro 4).toInt := g5_ge (a := ((u_bt * (10 - z35)) / 10).toInt) (b := (v_ro 4).toInt) rfl rfl c_47
            refine lv_aload_n hx hb dX12_turns_114 rfl (lv_at hl 2 rfl) ?_
            refine lv_iload_n hx hb dX12_turns_115 rfl (lv_at hl 4 rfl) ?_
            refine lv_if_ne (tgt := 128) hx hb dX12_turns_116 (by decide +kernel) (fun c_48 => ?_) (fun c_48 => ?_)
            ·
              have n_48 : gNe (p_2.toInt) (0) := g5_ne (a := p_2.toInt) (b := 0) rfl (by decide +kernel) c_48
              have i_48 : p_2.toInt ≥ 1 := by have z := g5_ne (a := p_2.toInt) (b := 0) (by rfl) (by decide +kernel) c_48; omega
              refine lv_iload_n hx hb dX12_turns_128 rfl (lv_at hl 4 rfl) ?_
              refine lv_iconst (v := 1) hx hb dX12_turns_129 (by decide +kernel) ?_
              refine lv_icmp_ne (tgt := 142) hx hb dX12_turns_130 (by decide +kernel) (fun c_49 => ?_) (fun c_49 => ?_)
              ·
                have i_49 : p_2.toInt ≠ 1 := g5_ne (a := p_2.toInt) (b := 1) rfl (by decide +kernel) c_49
                omega
              ·
                have i_49 : p_2.toInt = 1 := g5_neN (a := p_2.toInt) (b := 1) rfl (by decide +kernel) c_49
                refine lv_iconst (v := 3) hx hb dX12_turns_133 (by decide +kernel) ?_
                refine lv_aload_n hx hb dX12_turns_134 rfl (lv_at hl 2 rfl) ?_
                refine va_get (D := G.1) (ci := 12) (v := .int u_wy) (C := RX12) (T := TX12) (N := 52) hx hb hts inG_X12 hown hK hP 0 rfl rfl 35 (by decide +kernel) (hts _ fl_X12_355) (fun _ h9 => h9) rfl dX12_turns_135 ?_
                refine lv_isub hx hb dX12_turns_138 ?_
                have t_50 : (3 - u_wy).toInt = 3 - u_wy.toInt := g5_isub (a := 3) (b := u_wy.toInt) (by decide +kernel) (by rfl) (by omega) (by omega)
                refine W.eq (g2 := F0 m 139 ls [.int (3 - u_wy), .ref b_o]) rfl ?_
                refine lv_goto (tgt := 150) hx hb dX12_turns_139 (by decide +kernel) ?_
                refine va_put (D := G.1) (ci := 12) (v := .int (3 - u_wy)) (ty := .int) (C := RX12) (T := TX12) (N := 52) hx hb hts inG_X12 tyX12 tyX12_ok nmX12 hown hK hP hD hS 0 rfl rfl 35 (by decide +kernel) (hts _ fl_X12_355) (fun _ h9 => h9) rfl (by decide +kernel) rfl rfl (Nat.le_of_ble_eq_true rfl) dX12_turns_150 ?_
                clear hP hD hS
                intro H locs hP hD hS
                refine g5_rs [(b_o, (oc12 u_th u_sa b_rf b_ro b_im b_ke u_fd b_tp u_td u_fr u_to u_so u_wo u_fa u_bd u_nc b_nl u_co b_op b_ar u_le b_pi b_pa u_pd u_od b_ws b_hw z36 b_se b_re z37 z38 z39 u_ce (u_ho - z22) (3 - u_wy) ((u_bt * (10 - z35)) / 10) u_ps b_pt u_tg u_sn b_ip u_ic b_ah b_be b_me u_wd b_tr b_ld u_st b_wn u_id)), (b_ro, (arI G 5740 v_ro)), (b_se, (arJ G 13 z40)), (b_re, (arJ G 400 z41))] hP hD ?_
                clear hP hD
                intro hP hD
                refine lv_aload_n hx hb dX12_turns_153 rfl (lv_at hl 2 rfl) ?_
                refine lv_dup hx hb dX12_turns_154 rfl ?_
                refine va_get (D := G.1) (ci := 12) (v := .int u_tg) (C := RX12) (T := TX12) (N := 52) hx hb hts inG_X12 hown hK hP 0 rfl rfl 39 (by decide +kernel) (hts _ fl_X12_368) (fun _ h9 => h9) rfl dX12_turns_155 ?_
                refine W.eq (g2 := F0 m 158 ls [.int u_tg, .ref b_o]) rfl ?_
                refine lv_iconst (v := 1) hx hb dX12_turns_158 (by decide +kernel) ?_
                refine lv_iload_n hx hb dX12_turns_159 rfl (lv_at hl 3 rfl) ?_
                refine lv_ishl hx hb dX12_turns_160 ?_
                refine lv_ior hx hb dX12_turns_161 ?_
                refine va_put (D := G.1) (ci := 12) (v := .int (u_tg ||| (1 <<< (p_1 &&& 31)))) (ty := .int) (C := RX12) (T := TX12) (N := 52) hx hb hts inG_X12 tyX12 tyX12_ok nmX12 hown hK hP hD hS 0 rfl rfl 39 (by decide +kernel) (hts _ fl_X12_368) (fun _ h9 => h9) rfl (by decide +kernel) rfl rfl (Nat.le_of_ble_eq_true rfl) dX12_turns_162 ?_
                clear hP hD hS
                intro H locs hP hD hS
                refine g5_rs [(b_o, (oc12 u_th u_sa b_rf b_ro b_im b_ke u_fd b_tp u_td u_fr u_to u_so u_wo u_fa u_bd u_nc b_nl u_co b_op b_ar u_le b_pi b_pa u_pd u_od b_ws b_hw z36 b_se b_re z37 z38 z39 u_ce (u_ho - z22) (3 - u_wy) ((u_bt * (10 - z35)) / 10) u_ps b_pt (u_tg ||| (1 <<< (p_1 &&& 31))) u_sn b_ip u_ic b_ah b_be b_me u_wd b_tr b_ld u_st b_wn u_id)), (b_ro, (arI G 5740 v_ro)), (b_se, (arJ G 13 z40)), (b_re, (arJ G 400 z41))] hP hD ?_
                clear hP hD
                intro hP hD
                refine W.eq (g2 := F0 m 165 ls []) rfl ?_
                refine lv_iconst (v := 1) hx hb dX12_turns_165 (by decide +kernel) ?_
                exact W.zret (v := 1) hx hb hr rfl (fun t ht hW => ⟨⟨1, [(b_o, (oc12 u_th u_sa b_rf b_ro b_im b_ke u_fd b_tp u_td u_fr u_to u_so u_wo u_fa u_bd u_nc b_nl u_co b_op b_ar u_le b_pi b_pa u_pd u_od b_ws b_hw z36 b_se b_re z37 z38 z39 u_ce (u_ho - z22) (3 - u_wy) ((u_bt * (10 - z35)) / 10) u_ps b_pt (u_tg ||| (1 <<< (p_1 &&& 31))) u_sn b_ip u_ic b_ah b_be b_me u_wd b_tr b_ld u_st b_wn u_id)), (b_ro, (arI G 5740 v_ro)), (b_se, (arJ G 13 z40)), (b_re, (arJ G 400 z41))], rfl, ⟨1, z36, z37, z38, z39, (u_ho - z22), (3 - u_wy), ((u_bt * (10 - z35)) / 10), (u_tg ||| (1 <<< (p_1 &&& 31))), z40, z41, ⟨by have zc_o_r : (1 : Int32).toInt = 1 := (by decide +kernel); omega, by have zc_o_r : (1 : Int32).toInt = 1 := (by decide +kernel); omega⟩, i_32, i_33, ⟨by omega, by omega⟩, ⟨by omega, by omega⟩, ⟨by omega, by omega⟩, Or.inr ⟨by decide, by rw [tn_3 hNS hV0 (by omega) hV1 rfl (by omega), nw_1 (so := p_2) (by omega)]⟩, rfl, rfl⟩, by rw [ht]; exact hP.sub [0, 1, 2, 3] rfl, hD.sub [0, 1, 2, 3] (by decide +kernel) rfl⟩, hS.F ht⟩) hS.2.2 dX12_turns_166
            ·
              have i_48 : p_2.toInt = 0 := g5_neN (a := p_2.toInt) (b := 0) rfl (by decide +kernel) c_48
              refine lv_aload_n hx hb dX12_turns_119 rfl (lv_at hl 2 rfl) ?_
              refine va_get (D := G.1) (ci := 12) (v := .int u_wy) (C := RX12) (T := TX12) (N := 52) hx hb hts inG_X12 hown hK hP 0 rfl rfl 35 (by decide +kernel) (hts _ fl_X12_355) (fun _ h9 => h9) rfl dX12_turns_120 ?_
              refine lv_iconst (v := 1) hx hb dX12_turns_123 (by decide +kernel) ?_
              refine lv_ixor hx hb dX12_turns_124 ?_
              have hx_51 := (g_xor (w := u_wy) (by omega) (by omega)).1
              refine W.eq (g2 := F0 m 125 ls [.int (u_wy ^^^ 1), .ref b_o]) rfl ?_
              refine lv_goto (tgt := 150) hx hb dX12_turns_125 (by decide +kernel) ?_
              refine va_put (D := G.1) (ci := 12) (v := .int (u_wy ^^^ 1)) (ty := .int) (C := RX12) (T := TX12) (N := 52) hx hb hts inG_X12 tyX12 tyX12_ok nmX12 hown hK hP hD hS 0 rfl rfl 35 (by decide +kernel) (hts _ fl_X12_355) (fun _ h9 => h9) rfl (by decide +kernel) rfl rfl (Nat.le_of_ble_eq_true rfl) dX12_turns_150 ?_
              clear hP hD hS
              intro H locs hP hD hS
              refine g5_rs [(b_o, (oc12 u_th u_sa b_rf b_ro b_im b_ke u_fd b_tp u_td u_fr u_to u_so u_wo u_fa u_bd u_nc b_nl u_co b_op b_ar u_le b_pi b_pa u_pd u_od b_ws b_hw z36 b_se b_re z37 z38 z39 u_ce (u_ho - z22) (u_wy ^^^ 1) ((u_bt * (10 - z35)) / 10) u_ps b_pt u_tg u_sn b_ip u_ic b_ah b_be b_me u_wd b_tr b_ld u_st b_wn u_id)), (b_ro, (arI G 5740 v_ro)), (b_se, (arJ G 13 z40)), (b_re, (arJ G 400 z41))] hP hD ?_
              clear hP hD
              intro hP hD
              refine lv_aload_n hx hb dX12_turns_153 rfl (lv_at hl 2 rfl) ?_
              refine lv_dup hx hb dX12_turns_154 rfl ?_
              refine va_get (D := G.1) (ci := 12) (v := .int u_tg) (C := RX12) (T := TX12) (N := 52) hx hb hts inG_X12 hown hK hP 0 rfl rfl 39 (by decide +kernel) (hts _ fl_X12_368) (fun _ h9 => h9) rfl dX12_turns_155 ?_
              refine W.eq (g2 := F0 m 158 ls [.int u_tg, .ref b_o]) rfl ?_
              refine lv_iconst (v := 1) hx hb dX12_turns_158 (by decide +kernel) ?_
              refine lv_iload_n hx hb dX12_turns_159 rfl (lv_at hl 3 rfl) ?_
              refine lv_ishl hx hb dX12_turns_160 ?_
              refine lv_ior hx hb dX12_turns_161 ?_
              refine va_put (D := G.1) (ci := 12) (v := .int (u_tg ||| (1 <<< (p_1 &&& 31)))) (ty := .int) (C := RX12) (T := TX12) (N := 52) hx hb hts inG_X12 tyX12 tyX12_ok nmX12 hown hK hP hD hS 0 rfl rfl 39 (by decide +kernel) (hts _ fl_X12_368) (fun _ h9 => h9) rfl (by decide +kernel) rfl rfl (Nat.le_of_ble_eq_true rfl) dX12_turns_162 ?_
              clear hP hD hS
              intro H locs hP hD hS
              refine g5_rs [(b_o, (oc12 u_th u_sa b_rf b_ro b_im b_ke u_fd b_tp u_td u_fr u_to u_so u_wo u_fa u_bd u_nc b_nl u_co b_op b_ar u_le b_pi b_pa u_pd u_od b_ws b_hw z36 b_se b_re z37 z38 z39 u_ce (u_ho - z22) (u_wy ^^^ 1) ((u_bt * (10 - z35)) / 10) u_ps b_pt (u_tg ||| (1 <<< (p_1 &&& 31))) u_sn b_ip u_ic b_ah b_be b_me u_wd b_tr b_ld u_st b_wn u_id)), (b_ro, (arI G 5740 v_ro)), (b_se, (arJ G 13 z40)), (b_re, (arJ G 400 z41))] hP hD ?_
              clear hP hD
              intro hP hD
              refine W.eq (g2 := F0 m 165 ls []) rfl ?_
              refine lv_iconst (v := 1) hx hb dX12_turns_165 (by decide +kernel) ?_
              exact W.zret (v := 1) hx hb hr rfl (fun t ht hW => ⟨⟨1, [(b_o, (oc12 u_th u_sa b_rf b_ro b_im b_ke u_fd b_tp u_td u_fr u_to u_so u_wo u_fa u_bd u_nc b_nl u_co b_op b_ar u_le b_pi b_pa u_pd u_od b_ws b_hw z36 b_se b_re z37 z38 z39 u_ce (u_ho - z22) (u_wy ^^^ 1) ((u_bt * (10 - z35)) / 10) u_ps b_pt (u_tg ||| (1 <<< (p_1 &&& 31))) u_sn b_ip u_ic b_ah b_be b_me u_wd b_tr b_ld u_st b_wn u_id)), (b_ro, (arI G 5740 v_ro)), (b_se, (arJ G 13 z40)), (b_re, (arJ G 400 z41))], rfl, ⟨1, z36, z37, z38, z39, (u_ho - z22), (u_wy ^^^ 1), ((u_bt * (10 - z35)) / 10), (u_tg ||| (1 <<< (p_1 &&& 31))), z40, z41, ⟨by have zc_o_r : (1 : Int32).toInt = 1 := (by decide +kernel); omega, by have zc_o_r : (1 : Int32).toInt = 1 := (by decide +kernel); omega⟩, i_32, i_33, ⟨by omega, by omega⟩, ⟨by omega, by omega⟩, ⟨by omega, by omega⟩, Or.inr ⟨by decide, by rw [tn_3 hNS hV0 (by omega) hV1 rfl (by omega), nw_0 (so := p_2) (by omega)]⟩, rfl, rfl⟩, by rw [ht]; exact hP.sub [0, 1, 2, 3] rfl, hD.sub [0, 1, 2, 3] (by decide +kernel) rfl⟩, hS.F ht⟩) hS.2.2 dX12_turns_166
          ·
            have i_47 : ((u_bt * (10 - z35)) / 10).toInt < (v_ro 4).toInt := g5_geN (a := ((u_bt * (10 - z35)) / 10).toInt) (b := (v_ro 4).toInt) rfl rfl c_47
            refine lv_iconst (v := 0) hx hb dX12_turns_112 (by decide +kernel) ?_
            exact W.zret (v := 0) hx hb hr rfl (fun t ht hW => ⟨⟨0, [(b_o, (oc12 u_th u_sa b_rf b_ro b_im b_ke u_fd b_tp u_td u_fr u_to u_so u_wo u_fa u_bd u_nc b_nl u_co b_op b_ar u_le b_pi b_pa u_pd u_od b_ws b_hw z36 b_se b_re z37 z38 z39 u_ce (u_ho - z22) u_wy ((u_bt * (10 - z35)) / 10) u_ps b_pt u_tg u_sn b_ip u_ic b_ah b_be b_me u_wd b_tr b_ld u_st b_wn u_id)), (b_ro, (arI G 5740 v_ro)), (b_se, (arJ G 13 z40)), (b_re, (arJ G 400 z41))], rfl, ⟨0, z36, z37, z38, z39, (u_ho - z22), u_wy, ((u_bt * (10 - z35)) / 10), u_tg, z40, z41, ⟨by have zc_o_r : (0 : Int32).toInt = 0 := (by decide +kernel); omega, by have zc_o_r : (0 : Int32).toInt = 0 := (by decide +kernel); omega⟩, i_32, i_33, ⟨by omega, by omega⟩, h_u_wy, ⟨by omega, by omega⟩, Or.inl ⟨by decide, by rw [tn_2 hNS hV0 (by omega) hV1 rfl (by omega)]; exact ⟨rfl, rfl, rfl⟩⟩, rfl, rfl⟩, by rw [ht]; exact hP.sub [0, 1, 2, 3] rfl, hD.sub [0, 1, 2, 3] (by decide +kernel) rfl⟩, hS.F ht⟩) hS.2.2 dX12_turns_113
        ·
          have i_43 : u_ho.toInt < z22.toInt := g5_geN (a := u_ho.toInt) (b := z22.toInt) rfl rfl c_43
          refine lv_iconst (v := 0) hx hb dX12_turns_69 (by decide +kernel) ?_
          exact W.zret (v := 0) hx hb hr rfl (fun t ht hW => ⟨⟨0, [(b_o, (oc12 u_th u_sa b_rf b_ro b_im b_ke u_fd b_tp u_td u_fr u_to u_so u_wo u_fa u_bd u_nc b_nl u_co b_op b_ar u_le b_pi b_pa u_pd u_od b_ws b_hw z36 b_se b_re z37 z38 z39 u_ce u_ho u_wy u_bt u_ps b_pt u_tg u_sn b_ip u_ic b_ah b_be b_me u_wd b_tr b_ld u_st b_wn u_id)), (b_ro, (arI G 5740 v_ro)), (b_se, (arJ G 13 z40)), (b_re, (arJ G 400 z41))], rfl, ⟨0, z36, z37, z38, z39, u_ho, u_wy, u_bt, u_tg, z40, z41, ⟨by have zc_o_r : (0 : Int32).toInt = 0 := (by decide +kernel); omega, by have zc_o_r : (0 : Int32).toInt = 0 := (by decide +kernel); omega⟩, i_32, i_33, h_u_ho, h_u_wy, h_u_bt, Or.inl ⟨by decide, by rw [tn_1 hNS hV0 (by omega)]; exact ⟨rfl, rfl, rfl⟩⟩, rfl, rfl⟩, by rw [ht]; exact hP.sub [0, 1, 2, 3] rfl, hD.sub [0, 1, 2, 3] (by decide +kernel) rfl⟩, hS.F ht⟩) hS.2.2 dX12_turns_70
      ·
        have i_16 : p_2.toInt > 1 := g5_leN (a := p_2.toInt) (b := 1) rfl (by decide +kernel) c_16
        refine lv_aload_n hx hb dX12_turns_23 rfl (lv_at hl 0 rfl) ?_
        refine va_get (D := G.1) (ci := 12) (v := .int u_wy) (C := RX12) (T := TX12) (N := 52) hx hb hts inG_X12 hown hK hP 0 rfl rfl 35 (by decide +kernel) (hts _ fl_X12_355) (fun _ h9 => h9) rfl dX12_turns_24 ?_
        refine lv_iload_n hx hb dX12_turns_27 rfl (lv_at hl 2 rfl) ?_
        refine lv_iconst (v := 4) hx hb dX12_turns_28 (by decide +kernel) ?_
        refine W.eq (g2 := F0 m 29 ls [.int 4, .int p_2, .int u_wy]) rfl ?_
        refine lv_irem hx hb dX12_turns_29 (by decide +kernel) ?_
        have t_52 : (p_2 - p_2 / 4 * 4).toInt = p_2.toInt % 4 := g5_irem (a := p_2.toInt) (b := 4) rfl (by decide +kernel) (by omega) (by decide +kernel)
        refine lv_icmp_eq (tgt := 35) hx hb dX12_turns_30 (by decide +kernel) (fun c_53 => ?_) (fun c_53 => ?_)
        ·
          have i_53 : u_wy.toInt = (p_2.toInt % 4) := by have z := g5_eq (a := u_wy.toInt) (b := (p_2 - p_2 / 4 * 4).toInt) (by rfl) (by rfl) c_53; omega
          have hT2 : toldW g_w 2 (askQ p_1 u_ce u_ho u_wy (-1) u_ps u_bt) = none := hA2.elim (fun q9 => absurd q9.1 (by first | omega | (unfold gNe at *; omega))) (fun q9 => q9.2)
          have hNS : ¬ (p_5.toInt ≠ 0 ∨ toldW g_w 2 (askQ p_1 u_ce u_ho u_wy (-1) u_ps u_bt) ≠ none ∨ (2 ≤ p_2.toInt ∧ u_wy.toInt ≠ p_2.toInt % 4)) := ns_of (fun q9 => q9 (by omega)) hT2 (fun q9 => by obtain ⟨q8, q7⟩ := q9; exact q7 (by omega))
          refine lv_aload_n hx hb dX12_turns_35 rfl (lv_at hl 0 rfl) ?_
          refine lv_iconst (v := 0) hx hb dX12_turns_36 (by decide +kernel) ?_
          refine lv_iload_n hx hb dX12_turns_37 rfl (lv_at hl 1 rfl) ?_
          refine lv_iconst (v := (-1)) hx hb dX12_turns_38 (by decide +kernel) ?_
          refine W.eq (g2 := F0 m 39 ls [.int (-1), .int p_1, .int 0, .ref b_o]) rfl ?_
          refine lv_iload_n hx hb dX12_turns_39 rfl (lv_at hl 3 rfl) ?_
          refine lv_bipush (v := 23) hx hb dX12_turns_40 (by decide +kernel) ?_
          obtain ⟨hPc, hDc, hFc⟩ := g5_sub3 (wc := [(b_o, (oc12 u_th u_sa b_rf b_ro b_im b_ke u_fd b_tp u_td u_fr u_to u_so u_wo u_fa u_bd u_nc b_nl u_co b_op b_ar u_le b_pi b_pa u_pd u_od b_ws b_hw z8 b_se b_re z9 z10 z11 u_ce u_ho u_wy u_bt u_ps b_pt u_tg u_sn b_ip u_ic b_ah b_be b_me u_wd b_tr b_ld u_st b_wn u_id)), (b_ro, (arI G 5740 v_ro)), (b_se, (arJ G 13 z12)), (b_re, (arJ G 400 z13))]) hP hD hS hA [0, 1, 2, 3] (by decide +kernel) rfl
          refine va_calli (va_runV (As := [.int 0, .int p_1, .int (-1), .int p_3, .int 23]) (rest := []) ⟨hx, hb, hml, hown, hts⟩ (n_asksX l G b_o b_ro b_se b_re b_rf b_im b_ke b_tp b_nl b_op b_ar b_pi b_pa b_ws b_hw b_pt b_ip b_ah b_be b_me b_tr b_ld b_wn H.size u_th u_sa u_fd u_td u_fr u_to u_so u_fa u_bd u_nc u_co u_le u_pd u_od z8 z9 u_ce u_ho u_wy u_bt u_ps u_tg u_sn u_ic u_wd u_id 0 p_1 (-1) p_3 23 u_wo z10 z11 u_st v_ro z12 z13 g_w h_u_td h_u_fr h_u_to h_u_bd h_u_nc h_u_co h_u_pd i_4 i_5 h_u_ce h_u_ho h_u_wy h_u_bt h_u_ps h_u_ic h_u_id h_p_3 ⟨by decide, by decide⟩ (r_ro) (by have zk : (23 : Int32).toInt = 23 := (by decide +kernel); omega) (e_mf) (Or.inl (by decide +kernel))) (cwV 5 hts gV_X12_383 rfl rfl rfl hv_X12_asks ⟨Nat.le_of_ble_eq_true rfl, Nat.le_of_ble_eq_true rfl⟩) (g5_preV hPc hK hDc hN hT hS hFc (ci := 12) (q0 := 0) rfl rfl) rfl rfl hl.1 rfl (lv_room (Nat.le_of_ble_eq_true rfl)) dX12_turns_42 ⟨Nat.le_of_ble_eq_true rfl, Nat.le_of_ble_eq_true rfl⟩) hS (fun q _ h => hFc q h) hFc (fun r u t H locs ht hvm hw hB hz1 hk1 hS => ?_)
          obtain ⟨hP1, hD1⟩ := hB
          have hP1 := g5_ht ht hP1
          obtain ⟨z59, z60, z61, z62, z63, z64, z65, (i_54 : 0 ≤ z59.toInt ∧ z59.toInt ≤ 23), (i_55 : 0 ≤ z59.toInt ∧ z59.toInt ≤ (23 : Int32).toInt), (i_56 : 0 ≤ z60.toInt ∧ z60.toInt ≤ 4840), (i_57 : 0 ≤ z61.toInt ∧ z61.toInt ≤ 1), (i_58 : z59 = askA (toldW g_w (0 : Int32).toInt (askQ p_1 u_ce u_ho u_wy ((-1) : Int32) u_ps u_bt)) (0 : Int32).toInt p_3 (23 : Int32)), y66, rfl⟩ := hw
          have hJ9 := va_join (wr := []) hP hD [0, 1, 2, 3] [] rfl rfl (by decide +kernel) (by decide +kernel) hk1 hFc hP1 hD1
          clear hP hD hPc hDc hFc ht hvm hz1 hk1 hP1 hD1
          obtain ⟨hP, hD⟩ := hJ9
          refine g5_rs [(b_o, (oc12 u_th u_sa b_rf b_ro b_im b_ke u_fd b_tp u_td u_fr u_to u_so u_wo u_fa u_bd u_nc b_nl u_co b_op b_ar u_le b_pi b_pa u_pd u_od b_ws b_hw z60 b_se b_re z61 z62 z63 u_ce u_ho u_wy u_bt u_ps b_pt u_tg u_sn b_ip u_ic b_ah b_be b_me u_wd b_tr b_ld u_st b_wn u_id)), (b_ro, (arI G 5740 v_ro)), (b_se, (arJ G 13 z64)), (b_re, (arJ G 400 z65))] hP hD ?_
          clear hP hD
          intro hP hD
          refine g5_ti (v := z59) y66 ?_
          have hV0 := as_v (h := 0) (by decide +kernel) (by decide +kernel) i_58
          refine lv_istore (lv' := [(6, .int z59), (0, .ref b_o), (1, .int p_1), (2, .int p_2), (3, .int p_3), (4, .int p_4), (5, .int p_5)]) hx hb dX12_turns_45 hl (by decide +kernel) rfl ?_
          clear hl
          intro ls hl
          refine lv_aload_n hx hb dX12_turns_47 rfl (lv_at hl 1 rfl) ?_
          refine W.eq (g2 := F0 m 48 ls [.ref b_o]) rfl ?_
          refine lv_iconst (v := 1) hx hb dX12_turns_48 (by decide +kernel) ?_
          refine lv_iload_n hx hb dX12_turns_49 rfl (lv_at hl 2 rfl) ?_
          refine lv_iconst (v := (-1)) hx hb dX12_turns_50 (by decide +kernel) ?_
          refine lv_iload hx hb dX12_turns_51 (lv_at hl 5 rfl) ?_
          refine lv_bipush (v := 10) hx hb dX12_turns_53 (by decide +kernel) ?_
          refine W.eq (g2 := F0 m 55 ls [.int 10, .int p_4, .int (-1), .int p_1, .int 1, .ref b_o]) rfl ?_
          obtain ⟨hPc, hDc, hFc⟩ := g5_sub3 (wc := [(b_o, (oc12 u_th u_sa b_rf b_ro b_im b_ke u_fd b_tp u_td u_fr u_to u_so u_wo u_fa u_bd u_nc b_nl u_co b_op b_ar u_le b_pi b_pa u_pd u_od b_ws b_hw z60 b_se b_re z61 z62 z63 u_ce u_ho u_wy u_bt u_ps b_pt u_tg u_sn b_ip u_ic b_ah b_be b_me u_wd b_tr b_ld u_st b_wn u_id)), (b_ro, (arI G 5740 v_ro)), (b_se, (arJ G 13 z64)), (b_re, (arJ G 400 z65))]) hP hD hS hA [0, 1, 2, 3] (by decide +kernel) rfl
          refine va_calli (va_runV (As := [.int 1, .int p_1, .int (-1), .int p_4, .int 10]) (rest := []) ⟨hx, hb, hml, hown, hts⟩ (n_asksX l G b_o b_ro b_se b_re b_rf b_im b_ke b_tp b_nl b_op b_ar b_pi b_pa b_ws b_hw b_pt b_ip b_ah b_be b_me b_tr b_ld b_wn H.size u_th u_sa u_fd u_td u_fr u_to u_so u_fa u_bd u_nc u_co u_le u_pd u_od z60 z61 u_ce u_ho u_wy u_bt u_ps u_tg u_sn u_ic u_wd u_id 1 p_1 (-1) p_4 10 u_wo z62 z63 u_st v_ro z64 z65 g_w h_u_td h_u_fr h_u_to h_u_bd h_u_nc h_u_co h_u_pd i_56 i_57 h_u_ce h_u_ho h_u_wy h_u_bt h_u_ps h_u_ic h_u_id ⟨by omega, by omega⟩ ⟨by decide, by decide⟩ (r_ro) (by have zk : (10 : Int32).toInt = 10 := (by decide +kernel); omega) (e_mf) (Or.inl (by decide +kernel))) (cwV 5 hts gV_X12_383 rfl rfl rfl hv_X12_asks ⟨Nat.le_of_ble_eq_true rfl, Nat.le_of_ble_eq_true rfl⟩) (g5_preV hPc hK hDc hN hT hS hFc (ci := 12) (q0 := 0) rfl rfl) rfl rfl hl.1 rfl (lv_room (Nat.le_of_ble_eq_true rfl)) dX12_turns_55 ⟨Nat.le_of_ble_eq_true rfl, Nat.le_of_ble_eq_true rfl⟩) hS (fun q _ h => hFc q h) hFc (fun r u t H locs ht hvm hw hB hz1 hk1 hS => ?_)
          obtain ⟨hP1, hD1⟩ := hB
          have hP1 := g5_ht ht hP1
          obtain ⟨z72, z73, z74, z75, z76, z77, z78, (i_67 : 0 ≤ z72.toInt ∧ z72.toInt ≤ 23), (i_68 : 0 ≤ z72.toInt ∧ z72.toInt ≤ (10 : Int32).toInt), (i_69 : 0 ≤ z73.toInt ∧ z73.toInt ≤ 4840), (i_70 : 0 ≤ z74.toInt ∧ z74.toInt ≤ 1), (i_71 : z72 = askA (toldW g_w (1 : Int32).toInt (askQ p_1 u_ce u_ho u_wy ((-1) : Int32) u_ps u_bt)) (1 : Int32).toInt p_4 (10 : Int32)), y79, rfl⟩ := hw
          have hJ9 := va_join (wr := []) hP hD [0, 1, 2, 3] [] rfl rfl (by decide +kernel) (by decide +kernel) hk1 hFc hP1 hD1
          clear hP hD hPc hDc hFc ht hvm hz1 hk1 hP1 hD1
          obtain ⟨hP, hD⟩ := hJ9
          refine g5_rs [(b_o, (oc12 u_th u_sa b_rf b_ro b_im b_ke u_fd b_tp u_td u_fr u_to u_so u_wo u_fa u_bd u_nc b_nl u_co b_op b_ar u_le b_pi b_pa u_pd u_od b_ws b_hw z73 b_se b_re z74 z75 z76 u_ce u_ho u_wy u_bt u_ps b_pt u_tg u_sn b_ip u_ic b_ah b_be b_me u_wd b_tr b_ld u_st b_wn u_id)), (b_ro, (arI G 5740 v_ro)), (b_se, (arJ G 13 z77)), (b_re, (arJ G 400 z78))] hP hD ?_
          clear hP hD
          intro hP hD
          refine g5_ti (v := z72) y79 ?_
          have hV1 := as_v (h := 1) (by decide +kernel) (by decide +kernel) i_71
          refine lv_istore (lv' := [(7, .int z72), (6, .int z59), (0, .ref b_o), (1, .int p_1), (2, .int p_2), (3, .int p_3), (4, .int p_4), (5, .int p_5)]) hx hb dX12_turns_58 hl (by decide +kernel) rfl ?_
          clear hl
          intro ls hl
          refine lv_aload_n hx hb dX12_turns_60 rfl (lv_at hl 2 rfl) ?_
          refine va_get (D := G.1) (ci := 12) (v := .int u_ho) (C := RX12) (T := TX12) (N := 52) hx hb hts inG_X12 hown hK hP 0 rfl rfl 34 (by decide +kernel) (hts _ fl_X12_352) (fun _ h9 => h9) rfl dX12_turns_61 ?_
          refine lv_iload hx hb dX12_turns_64 (lv_at hl 1 rfl) ?_
          refine W.eq (g2 := F0 m 66 ls [.int z59, .int u_ho]) rfl ?_
          refine lv_icmp_ge (tgt := 71) hx hb dX12_turns_66 (by decide +kernel) (fun c_80 => ?_) (fun c_80 => ?_)
          ·
            have i_80 : u_ho.toInt ≥ z59.toInt := g5_ge (a := u_ho.toInt) (b := z59.toInt) rfl rfl c_80
            refine lv_aload_n hx hb dX12_turns_71 rfl (lv_at hl 2 rfl) ?_
            refine lv_dup hx hb dX12_turns_72 rfl ?_
            refine va_get (D := G.1) (ci := 12) (v := .int u_ho) (C := RX12) (T := TX12) (N := 52) hx hb hts inG_X12 hown hK hP 0 rfl rfl 34 (by decide +kernel) (hts _ fl_X12_352) (fun _ h9 => h9) rfl dX12_turns_73 ?_
            refine lv_iload hx hb dX12_turns_76 (lv_at hl 1 rfl) ?_
            refine W.eq (g2 := F0 m 78 ls [.int z59, .int u_ho, .ref b_o]) rfl ?_
            refine lv_isub hx hb dX12_turns_78 ?_
            have t_81 : (u_ho - z59).toInt = u_ho.toInt - z59.toInt := g5_isub (a := u_ho.toInt) (b := z59.toInt) (by rfl) (by rfl) (by omega) (by omega)
            refine va_put (D := G.1) (ci := 12) (v := .int (u_ho - z59)) (ty := .int) (C := RX12) (T := TX12) (N := 52) hx hb hts inG_X12 tyX12 tyX12_ok nmX12 hown hK hP hD hS 0 rfl rfl 34 (by decide +kernel) (hts _ fl_X12_352) (fun _ h9 => h9) rfl (by decide +kernel) rfl rfl (Nat.le_of_ble_eq_true rfl) dX12_turns_79 ?_
            clear hP hD hS
            intro H locs hP hD hS
            refine g5_rs [(b_o, (oc12 u_th u_sa b_rf b_ro b_im b_ke u_fd b_tp u_td u_fr u_to u_so u_wo u_fa u_bd u_nc b_nl u_co b_op b_ar u_le b_pi b_pa u_pd u_od b_ws b_hw z73 b_se b_re z74 z75 z76 u_ce (u_ho - z59) u_wy u_bt u_ps b_pt u_tg u_sn b_ip u_ic b_ah b_be b_me u_wd b_tr b_ld u_st b_wn u_id)), (b_ro, (arI G 5740 v_ro)), (b_se, (arJ G 13 z77)), (b_re, (arJ G 400 z78))] hP hD ?_
            clear hP hD
            intro hP hD
            refine lv_aload_n hx hb dX12_turns_82 rfl (lv_at hl 2 rfl) ?_
            refine lv_aload_n hx hb dX12_turns_83 rfl (lv_at hl 2 rfl) ?_
            refine va_get (D := G.1) (ci := 12) (v := .int u_bt) (C := RX12) (T := TX12) (N := 52) hx hb hts inG_X12 hown hK hP 0 rfl rfl 36 (by decide +kernel) (hts _ fl_X12_361) (fun _ h9 => h9) rfl dX12_turns_84 ?_
            refine W.eq (g2 := F0 m 87 ls [.int u_bt, .ref b_o]) rfl ?_
            refine lv_bipush (v := 10) hx hb dX12_turns_87 (by decide +kernel) ?_
            refine lv_iload hx hb dX12_turns_89 (lv_at hl 0 rfl) ?_
            refine lv_isub hx hb dX12_turns_91 ?_
            have t_82 : (10 - z72).toInt = 10 - z72.toInt := g5_isub (a := 10) (b := z72.toInt) (by decide +kernel) (by rfl) (by omega) (by omega)
            refine lv_imul hx hb dX12_turns_92 ?_
            refine lv_bipush (v := 10) hx hb dX12_turns_93 (by decide +kernel) ?_
            refine W.eq (g2 := F0 m 95 ls [.int 10, .int (u_bt * (10 - z72)), .ref b_o]) rfl ?_
            refine lv_idiv hx hb dX12_turns_95 (by decide +kernel) ?_
            have hb_83 : 0 ≤ ((u_bt * (10 - z72)) / 10).toInt ∧ ((u_bt * (10 - z72)) / 10).toInt ≤ 1000000 := g_dust (by omega) (by omega)
            refine va_put (D := G.1) (ci := 12) (v := .int ((u_bt * (10 - z72)) / 10)) (ty := .int) (C := RX12) (T := TX12) (N := 52) hx hb hts inG_X12 tyX12 tyX12_ok nmX12 hown hK hP hD hS 0 rfl rfl 36 (by decide +kernel) (hts _ fl_X12_361) (fun _ h9 => h9) rfl (by decide +kernel) rfl rfl (Nat.le_of_ble_eq_true rfl) dX12_turns_96 ?_
            clear hP hD hS
            intro H locs hP hD hS
            refine g5_rs [(b_o, (oc12 u_th u_sa b_rf b_ro b_im b_ke u_fd b_tp u_td u_fr u_to u_so u_wo u_fa u_bd u_nc b_nl u_co b_op b_ar u_le b_pi b_pa u_pd u_od b_ws b_hw z73 b_se b_re z74 z75 z76 u_ce (u_ho - z59) u_wy ((u_bt * (10 - z72)) / 10) u_ps b_pt u_tg u_sn b_ip u_ic b_ah b_be b_me u_wd b_tr b_ld u_st b_wn u_id)), (b_ro, (arI G 5740 v_ro)), (b_se, (arJ G 13 z77)), (b_re, (arJ G 400 z78))] hP hD ?_
            clear hP hD
            intro hP hD
            refine lv_aload_n hx hb dX12_turns_99 rfl (lv_at hl 2 rfl) ?_
            refine va_get (D := G.1) (ci := 12) (v := .int ((u_bt * (10 - z72)) / 10)) (C := RX12) (T := TX12) (N := 52) hx hb hts inG_X12 hown hK hP 0 rfl rfl 36 (by decide +kernel) (hts _ fl_X12_361) (fun _ h9 => h9) rfl dX12_turns_100 ?_
            refine lv_aload_n hx hb dX12_turns_103 rfl (lv_at hl 2 rfl) ?_
            refine W.eq (g2 := F0 m 104 ls [.ref b_o, .int ((u_bt * (10 - z72)) / 10)]) rfl ?_
            refine va_get (D := G.1) (ci := 12) (v := .ref b_ro) (C := RX12) (T := TX12) (N := 52) hx hb hts inG_X12 hown hK hP 0 rfl rfl 3 (by decide +kernel) (hts _ fl_X12_13) (fun _ h9 => h9) rfl dX12_turns_104 ?_
            refine lv_iconst (v := 4) hx hb dX12_turns_107 (by decide +kernel) ?_
            refine va_iald hx hb hK hP 1 0 rfl rfl (i := 4) (by unfold vp_in; decide) dX12_turns_108 ?_
            refine g5_ti (v := (v_ro 4)) rfl ?_
            refine lv_icmp_ge (tgt := 114) hx hb dX12_turns_109 (by decide +kernel) (fun c_84 => ?_) (fun c_84 => ?_)
            ·
              have i_84 : ((u_bt * (10 - z72)) / 10).toInt ≥ (v_ro 4).toInt := g5_ge (a := ((u_bt * (10 - z72)) / 10).toInt) (b := (v_ro 4).toInt) rfl rfl c_84
              refine lv_aload_n hx hb dX12_turns_114 rfl (lv_at hl 2 rfl) ?_
              refine lv_iload_n hx hb dX12_turns_115 rfl (lv_at hl 4 rfl) ?_
              refine lv_if_ne (tgt := 128) hx hb dX12_turns_116 (by decide +kernel) (fun c_85 => ?_) (fun c_85 => ?_)
              ·
                have n_85 : gNe (p_2.toInt) (0) := g5_ne (a := p_2.toInt) (b := 0) rfl (by decide +kernel) c_85
                refine lv_iload_n hx hb dX12_turns_128 rfl (lv_at hl 4 rfl) ?_
                refine lv_iconst (v := 1) hx hb dX12_turns_129 (by decide +kernel) ?_
                refine lv_icmp_ne (tgt := 142) hx hb dX12_turns_130 (by decide +kernel) (fun c_86 => ?_) (fun c_86 => ?_)
                ·
                  have n_86 : gNe (p_2.toInt) (1) := g5_ne (a := p_2.toInt) (b := 1) rfl (by decide +kernel) c_86
                  refine lv_aload_n hx hb dX12_turns_142 rfl (lv_at hl 2 rfl) ?_
                  refine va_get (D := G.1) (ci := 12) (v := .int u_wy) (C := RX12) (T := TX12) (N := 52) hx hb hts inG_X12 hown hK hP 0 rfl rfl 35 (by decide +kernel) (hts _ fl_X12_355) (fun _ h9 => h9) rfl dX12_turns_143 ?_
                  refine lv_iconst (v := 2) hx hb dX12_turns_146 (by decide +kernel) ?_
                  refine lv_iadd hx hb dX12_turns_147 ?_
                  have t_87 : (u_wy + 2).toInt = u_wy.toInt + 2 := g5_iadd (a := u_wy.toInt) (b := 2) (by rfl) (by decide +kernel) (by omega) (by omega)
                  refine W.eq (g2 := F0 m 148 ls [.int (u_wy + 2), .ref b_o]) rfl ?_
                  refine lv_iconst (v := 4) hx hb dX12_turns_148 (by decide +kernel) ?_
                  refine lv_irem hx hb dX12_turns_149 (by decide +kernel) ?_
                  have t_88 : ((u_wy + 2) - (u_wy + 2) / 4 * 4).toInt = (u_wy + 2).toInt % 4 := g5_irem (a := (u_wy + 2).toInt) (b := 4) rfl (by decide +kernel) (by omega) (by decide +kernel)
                  refine va_put (D := G.1) (ci := 12) (v := .int ((u_wy + 2) - (u_wy + 2) / 4 * 4)) (ty := .int) (C := RX12) (T := TX12) (N := 52) hx hb hts inG_X12 tyX12 tyX12_ok nmX12 hown hK hP hD hS 0 rfl rfl 35 (by decide +kernel) (hts _ fl_X12_355) (fun _ h9 => h9) rfl (by decide +kernel) rfl rfl (Nat.le_of_ble_eq_true rfl) dX12_turns_150 ?_
                  clear hP hD hS
                  intro H locs hP hD hS
                  refine g5_rs [(b_o, (oc12 u_th u_sa b_rf b_ro b_im b_ke u_fd b_tp u_td u_fr u_to u_so u_wo u_fa u_bd u_nc b_nl u_co b_op b_ar u_le b_pi b_pa u_pd u_od b_ws b_hw z73 b_se b_re z74 z75 z76 u_ce (u_ho - z59) ((u_wy + 2) - (u_wy + 2) / 4 * 4) ((u_bt * (10 - z72)) / 10) u_ps b_pt u_tg u_sn b_ip u_ic b_ah b_be b_me u_wd b_tr b_ld u_st b_wn u_id)), (b_ro, (arI G 5740 v_ro)), (b_se, (arJ G 13 z77)), (b_re, (arJ G 400 z78))] hP hD ?_
                  clear hP hD
                  intro hP hD
                  refine lv_aload_n hx hb dX12_turns_153 rfl (lv_at hl 2 rfl) ?_
                  refine lv_dup hx hb dX12_turns_154 rfl ?_
                  refine W.eq (g2 := F0 m 155 ls [.ref b_o, .ref b_o]) rfl ?_
                  refine va_get (D := G.1) (ci := 12) (v := .int u_tg) (C := RX12) (T := TX12) (N := 52) hx hb hts inG_X12 hown hK hP 0 rfl rfl 39 (by decide +kernel) (hts _ fl_X12_368) (fun _ h9 => h9) rfl dX12_turns_155 ?_
                  refine lv_iconst (v := 1) hx hb dX12_turns_158 (by decide +kernel) ?_
                  refine lv_iload_n hx hb dX12_turns_159 rfl (lv_at hl 3 rfl) ?_
                  refine lv_ishl hx hb dX12_turns_160 ?_
                  refine lv_ior hx hb dX12_turns_161 ?_
                  refine W.eq (g2 := F0 m 162 ls [.int (u_tg ||| (1 <<< (p_1 &&& 31))), .ref b_o]) rfl ?_
                  refine va_put (D := G.1) (ci := 12) (v := .int (u_tg ||| (1 <<< (p_1 &&& 31)))) (ty := .int) (C := RX12) (T := TX12) (N := 52) hx hb hts inG_X12 tyX12 tyX12_ok nmX12 hown hK hP hD hS 0 rfl rfl 39 (by decide +kernel) (hts _ fl_X12_368) (fun _ h9 => h9) rfl (by decide +kernel) rfl rfl (Nat.le_of_ble_eq_true rfl) dX12_turns_162 ?_
                  clear hP hD hS
                  intro H locs hP hD hS
                  refine g5_rs [(b_o, (oc12 u_th u_sa b_rf b_ro b_im b_ke u_fd b_tp u_td u_fr u_to u_so u_wo u_fa u_bd u_nc b_nl u_co b_op b_ar u_le b_pi b_pa u_pd u_od b_ws b_hw z73 b_se b_re z74 z75 z76 u_ce (u_ho - z59) ((u_wy + 2) - (u_wy + 2) / 4 * 4) ((u_bt * (10 - z72)) / 10) u_ps b_pt (u_tg ||| (1 <<< (p_1 &&& 31))) u_sn b_ip u_ic b_ah b_be b_me u_wd b_tr b_ld u_st b_wn u_id)), (b_ro, (arI G 5740 v_ro)), (b_se, (arJ G 13 z77)), (b_re, (arJ G 400 z78))] hP hD ?_
                  clear hP hD
                  intro hP hD
                  refine lv_iconst (v := 1) hx hb dX12_turns_165 (by decide +kernel) ?_
                  exact W.zret (v := 1) hx hb hr rfl (fun t ht hW => ⟨⟨1, [(b_o, (oc12 u_th u_sa b_rf b_ro b_im b_ke u_fd b_tp u_td u_fr u_to u_so u_wo u_fa u_bd u_nc b_nl u_co b_op b_ar u_le b_pi b_pa u_pd u_od b_ws b_hw z73 b_se b_re z74 z75 z76 u_ce (u_ho - z59) ((u_wy + 2) - (u_wy + 2) / 4 * 4) ((u_bt * (10 - z72)) / 10) u_ps b_pt (u_tg ||| (1 <<< (p_1 &&& 31))) u_sn b_ip u_ic b_ah b_be b_me u_wd b_tr b_ld u_st b_wn u_id)), (b_ro, (arI G 5740 v_ro)), (b_se, (arJ G 13 z77)), (b_re, (arJ G 400 z78))], rfl, ⟨1, z73, z74, z75, z76, (u_ho - z59), ((u_wy + 2) - (u_wy + 2) / 4 * 4), ((u_bt * (10 - z72)) / 10), (u_tg ||| (1 <<< (p_1 &&& 31))), z77, z78, ⟨by have zc_o_r : (1 : Int32).toInt = 1 := (by decide +kernel); omega, by have zc_o_r : (1 : Int32).toInt = 1 := (by decide +kernel); omega⟩, i_69, i_70, ⟨by omega, by omega⟩, ⟨by omega, by omega⟩, ⟨by omega, by omega⟩, Or.inr ⟨by decide, by rw [tn_3 hNS hV0 (by omega) hV1 rfl (by omega), nw_2 (so := p_2) (by first | omega | (unfold gNe at *; omega)) (by first | omega | (unfold gNe at *; omega)), ← wm_of (wy := u_wy) ⟨by omega, by omega⟩]⟩, rfl, rfl⟩, by rw [ht]; exact hP.sub [0, 1, 2, 3] rfl, hD.sub [0, 1, 2, 3] (by decide +kernel) rfl⟩, hS.F ht⟩) hS.2.2 dX12_turns_166
                ·
                  have i_86 : p_2.toInt = 1 := g5_neN (a := p_2.toInt) (b := 1) rfl (by decide +kernel) c_86
                  omega
              ·
                have i_85 : p_2.toInt = 0 := g5_neN (a := p_2.toInt) (b := 0) rfl (by decide +kernel) c_85
                omega
            ·
              have i_84 : ((u_bt * (10 - z72)) / 10).toInt < (v_ro 4).toInt := g5_geN (a := ((u_bt * (10 - z72)) / 10).toInt) (b := (v_ro 4).toInt) rfl rfl c_84
              refine lv_iconst (v := 0) hx hb dX12_turns_112 (by decide +kernel) ?_
              exact W.zret (v := 0) hx hb hr rfl (fun t ht hW => ⟨⟨0, [(b_o, (oc12 u_th u_sa b_rf b_ro b_im b_ke u_fd b_tp u_td u_fr u_to u_so u_wo u_fa u_bd u_nc b_nl u_co b_op b_ar u_le b_pi b_pa u_pd u_od b_ws b_hw z73 b_se b_re z74 z75 z76 u_ce (u_ho - z59) u_wy ((u_bt * (10 - z72)) / 10) u_ps b_pt u_tg u_sn b_ip u_ic b_ah b_be b_me u_wd b_tr b_ld u_st b_wn u_id)), (b_ro, (arI G 5740 v_ro)), (b_se, (arJ G 13 z77)), (b_re, (arJ G 400 z78))], rfl, ⟨0, z73, z74, z75, z76, (u_ho - z59), u_wy, ((u_bt * (10 - z72)) / 10), u_tg, z77, z78, ⟨by have zc_o_r : (0 : Int32).toInt = 0 := (by decide +kernel); omega, by have zc_o_r : (0 : Int32).toInt = 0 := (by decide +kernel); omega⟩, i_69, i_70, ⟨by omega, by omega⟩, h_u_wy, ⟨by omega, by omega⟩, Or.inl ⟨by decide, by rw [tn_2 hNS hV0 (by omega) hV1 rfl (by omega)]; exact ⟨rfl, rfl, rfl⟩⟩, rfl, rfl⟩, by rw [ht]; exact hP.sub [0, 1, 2, 3] rfl, hD.sub [0, 1, 2, 3] (by decide +kernel) rfl⟩, hS.F ht⟩) hS.2.2 dX12_turns_113
          ·
            have i_80 : u_ho.toInt < z59.toInt := g5_geN (a := u_ho.toInt) (b := z59.toInt) rfl rfl c_80
            refine lv_iconst (v := 0) hx hb dX12_turns_69 (by decide +kernel) ?_
            exact W.zret (v := 0) hx hb hr rfl (fun t ht hW => ⟨⟨0, [(b_o, (oc12 u_th u_sa b_rf b_ro b_im b_ke u_fd b_tp u_td u_fr u_to u_so u_wo u_fa u_bd u_nc b_nl u_co b_op b_ar u_le b_pi b_pa u_pd u_od b_ws b_hw z73 b_se b_re z74 z75 z76 u_ce u_ho u_wy u_bt u_ps b_pt u_tg u_sn b_ip u_ic b_ah b_be b_me u_wd b_tr b_ld u_st b_wn u_id)), (b_ro, (arI G 5740 v_ro)), (b_se, (arJ G 13 z77)), (b_re, (arJ G 400 z78))], rfl, ⟨0, z73, z74, z75, z76, u_ho, u_wy, u_bt, u_tg, z77, z78, ⟨by have zc_o_r : (0 : Int32).toInt = 0 := (by decide +kernel); omega, by have zc_o_r : (0 : Int32).toInt = 0 := (by decide +kernel); omega⟩, i_69, i_70, h_u_ho, h_u_wy, h_u_bt, Or.inl ⟨by decide, by rw [tn_1 hNS hV0 (by omega)]; exact ⟨rfl, rfl, rfl⟩⟩, rfl, rfl⟩, by rw [ht]; exact hP.sub [0, 1, 2, 3] rfl, hD.sub [0, 1, 2, 3] (by decide +kernel) rfl⟩, hS.F ht⟩) hS.2.2 dX12_turns_70
        ·
          have n_53 : gNe (u_wy.toInt) ((p_2.toInt % 4)) := by have z := g5_eqN (a := u_wy.toInt) (b := (p_2 - p_2 / 4 * 4).toInt) (by rfl) (by rfl) c_53; unfold gNe; omega
          refine lv_iconst (v := 0) hx hb dX12_turns_33 (by decide +kernel) ?_
          exact W.zret (v := 0) hx hb hr rfl (fun t ht hW => ⟨⟨0, [(b_o, (oc12 u_th u_sa b_rf b_ro b_im b_ke u_fd b_tp u_td u_fr u_to u_so u_wo u_fa u_bd u_nc b_nl u_co b_op b_ar u_le b_pi b_pa u_pd u_od b_ws b_hw z8 b_se b_re z9 z10 z11 u_ce u_ho u_wy u_bt u_ps b_pt u_tg u_sn b_ip u_ic b_ah b_be b_me u_wd b_tr b_ld u_st b_wn u_id)), (b_ro, (arI G 5740 v_ro)), (b_se, (arJ G 13 z12)), (b_re, (arJ G 400 z13))], rfl, ⟨0, z8, z9, z10, z11, u_ho, u_wy, u_bt, u_tg, z12, z13, ⟨by have zc_o_r : (0 : Int32).toInt = 0 := (by decide +kernel); omega, by have zc_o_r : (0 : Int32).toInt = 0 := (by decide +kernel); omega⟩, i_4, i_5, h_u_ho, h_u_wy, h_u_bt, Or.inl ⟨by decide, by rw [tn_0 (Or.inr (Or.inr ⟨by omega, (fun q9 => by first | omega | (unfold gNe at *; omega))⟩))]; exact ⟨rfl, rfl, rfl⟩⟩, rfl, rfl⟩, by rw [ht]; exact hP.sub [0, 1, 2, 3] rfl, hD.sub [0, 1, 2, 3] (by decide +kernel) rfl⟩, hS.F ht⟩) hS.2.2 dX12_turns_34
set_option maxHeartbeats 4000000 in
set_option maxRecDepth 100000 in
theorem n_isFreeX (l : Launch) (G : g5_G) (b_o b_ro b_se b_re b_rf b_im b_ke b_tp b_nl b_op b_ar b_pi b_pa b_ws b_hw b_pt b_ip b_ah b_be b_me b_tr b_ld b_wn : Nat) (sz : Nat) (u_th : Int32) (u_sa : Int32) (u_fd : Int32) (u_td : Int32) (u_fr : Int32) (u_to : Int32) (u_so : Int32) (u_fa : Int32) (u_bd : Int32) (u_nc : Int32) (u_co : Int32) (u_le : Int32) (u_pd : Int32) (u_od : Int32) (u_la : Int32) (u_bk : Int32) (u_ce : Int32) (u_ho : Int32) (u_wy : Int32) (u_bt : Int32) (u_ps : Int32) (u_tg : Int32) (u_sn : Int32) (u_ic : Int32) (u_wd : Int32) (u_id : Int32) (u_wo : Int64) (u_va : Int64) (u_su : Int64) (u_st : Int64) (v_ro : Nat → Int32) (v_se : Nat → Int64) (v_re : Nat → Int64) (g_w : Option (List CLT)) (h_u_td : 0 ≤ u_td.toInt ∧ u_td.toInt ≤ 400) (h_u_fr : 0 ≤ u_fr.toInt ∧ u_fr.toInt ≤ 400) (h_u_to : 0 ≤ u_to.toInt ∧ u_to.toInt ≤ 400) (h_u_bd : 0 ≤ u_bd.toInt ∧ u_bd.toInt ≤ 1) (h_u_nc : 0 ≤ u_nc.toInt ∧ u_nc.toInt ≤ 12) (h_u_co : 0 ≤ u_co.toInt ∧ u_co.toInt ≤ 400) (h_u_pd : 0 ≤ u_pd.toInt ∧ u_pd.toInt ≤ 400) (h_u_la : 0 ≤ u_la.toInt ∧ u_la.toInt ≤ 4840) (h_u_bk : 0 ≤ u_bk.toInt ∧ u_bk.toInt ≤ 1) (h_u_ce : 0 ≤ u_ce.toInt ∧ u_ce.toInt ≤ 63) (h_u_ho : 0 ≤ u_ho.toInt ∧ u_ho.toInt ≤ 23) (h_u_wy : 0 ≤ u_wy.toInt ∧ u_wy.toInt ≤ 3) (h_u_bt : 0 ≤ u_bt.toInt ∧ u_bt.toInt ≤ 1000000) (h_u_ps : 0 ≤ u_ps.toInt ∧ u_ps.toInt ≤ 200) (h_u_ic : 0 ≤ u_ic.toInt ∧ u_ic.toInt ≤ 1) (h_u_id : 0 ≤ u_id.toInt ∧ u_id.toInt ≤ 1) (r_ro : MI v_ro) (e_mf : MLF v_ro g_w) : Met l yX12_isFree (wsG yX12_isFree cX12_isFree 2 (some .boolean)) ({ frames := 4, cells := 0, slots := 0, locals := 101 }) (va_Pc [.ref b_o] (g5_P G [(b_o, (oc12 u_th u_sa b_rf b_ro b_im b_ke u_fd b_tp u_td u_fr u_to u_so u_wo u_fa u_bd u_nc b_nl u_co b_op b_ar u_le b_pi b_pa u_pd u_od b_ws b_hw u_la b_se b_re u_bk u_va u_su u_ce u_ho u_wy u_bt u_ps b_pt u_tg u_sn b_ip u_ic b_ah b_be b_me u_wd b_tr b_ld u_st b_wn u_id)), (b_ro, (arI G 5740 v_ro)), (b_se, (arJ G 13 v_se)), (b_re, (arJ G 400 v_re))] sz)) (va_Qi (fun (r : Int32) (u : va_W) => (∃ (o_r : Int32) (o_la : Int32) (o_bk : Int32) (o_va : Int64) (o_su : Int64) (o_sn : Int32) (o_se : Nat → Int64) (o_re : Nat → Int64), (0 ≤ o_r.toInt ∧ o_r.toInt ≤ 1) ∧ (0 ≤ o_la.toInt ∧ o_la.toInt ≤ 4840) ∧ (0 ≤ o_bk.toInt ∧ o_bk.toInt ≤ 1) ∧ ((o_r.toInt = 0 ∧ o_sn = seenF v_ro g_w u_ce u_ho u_wy u_ps u_bt ∧ 0 ≤ o_sn.toInt) ∨ (o_r.toInt = 1 ∧ o_sn = u_sn ∧ seenF v_ro g_w u_ce u_ho u_wy u_ps u_bt = -1)) ∧ (r = o_r) ∧ (u = [(b_o, (oc12 u_th u_sa b_rf b_ro b_im b_ke u_fd b_tp u_td u_fr u_to u_so u_wo u_fa u_bd u_nc b_nl u_co b_op b_ar u_le b_pi b_pa u_pd u_od b_ws b_hw o_la b_se b_re o_bk o_va o_su u_ce u_ho u_wy u_bt u_ps b_pt u_tg o_sn b_ip u_ic b_ah b_be b_me u_wd b_tr b_ld u_st b_wn u_id)), (b_ro, (arI G 5740 v_ro)), (b_se, (arJ G 13 o_se)), (b_re, (arJ G 400 o_re))]))) (g5_B G (va_A [(b_o, (oc12 u_th u_sa b_rf b_ro b_im b_ke u_fd b_tp u_td u_fr u_to u_so u_wo u_fa u_bd u_nc b_nl u_co b_op b_ar u_le b_pi b_pa u_pd u_od b_ws b_hw u_la b_se b_re u_bk u_va u_su u_ce u_ho u_wy u_bt u_ps b_pt u_tg u_sn b_ip u_ic b_ah b_be b_me u_wd b_tr b_ld u_st b_wn u_id)), (b_ro, (arI G 5740 v_ro)), (b_se, (arJ G 13 v_se)), (b_re, (arJ G 400 v_re))] sz)) (va_A [(b_o, (oc12 u_th u_sa b_rf b_ro b_im b_ke u_fd b_tp u_td u_fr u_to u_so u_wo u_fa u_bd u_nc b_nl u_co b_op b_ar u_le b_pi b_pa u_pd u_od b_ws b_hw u_la b_se b_re u_bk u_va u_su u_ce u_ho u_wy u_bt u_ps b_pt u_tg u_sn b_ip u_ic b_ah b_be b_me u_wd b_tr b_ld u_st b_wn u_id)), (b_ro, (arI G 5740 v_ro)), (b_se, (arJ G 13 v_se)), (b_re, (arJ G 400 v_re))] sz)) 0 0 (va_A [(b_o, (oc12 u_th u_sa b_rf b_ro b_im b_ke u_fd b_tp u_td u_fr u_to u_so u_wo u_fa u_bd u_nc b_nl u_co b_op b_ar u_le b_pi b_pa u_pd u_od b_ws b_hw u_la b_se b_re u_bk u_va u_su u_ce u_ho u_wy u_bt u_ps b_pt u_tg u_sn b_ip u_ic b_ah b_be b_me u_wd b_tr b_ld u_st b_wn u_id)), (b_ro, (arI G 5740 v_ro)), (b_se, (arJ G 13 v_se)), (b_re, (arJ G 400 v_re))] sz) := by
  refine Met.ofW (cc := cX12_isFree) (maxL := 2) (ret := (some .boolean)) (by decide +kernel) rfl ?_
  intro p e s m args below meth c s₁ B hml hv
  obtain ⟨rfl, hsz, hP, hK, hD0, hN, hT⟩ := hv
  have hx := B.exec
  have hb := B.bytes
  have hr := B.returns
  have hts : ∀ w ∈ tblG, w.before _ s = true := fun w h => atoms_spec (ws := (wsG yX12_isFree cX12_isFree 2 (some .boolean))) B.pre w (List.mem_cons_of_mem _ h)
  have hown : s.vm.findClass RX12 = some m.cls := findClass_of_methodNamed B.named
  have hlocks := B.notSynchronized
  subst hsz
  have hD := hD0.self (sz := s.heap.size)
  generalize hAe : va_A [(b_o, (oc12 u_th u_sa b_rf b_ro b_im b_ke u_fd b_tp u_td u_fr u_to u_so u_wo u_fa u_bd u_nc b_nl u_co b_op b_ar u_le b_pi b_pa u_pd u_od b_ws b_hw u_la b_se b_re u_bk u_va u_su u_ce u_ho u_wy u_bt u_ps b_pt u_tg u_sn b_ip u_ic b_ah b_be b_me u_wd b_tr b_ld u_st b_wn u_id)), (b_ro, (arI G 5740 v_ro)), (b_se, (arJ G 13 v_se)), (b_re, (arJ G 400 v_re))] s.heap.size = A at hD hT ⊢
  have hA : ∀ q : Nat, s.heap.size ≤ q → A q := fun q h => by rw [← hAe]; exact Or.inr h
  have hS : va_S A s.heap s.heap [] := va_S.rf
  replace hP : va_P G.1 vwCl [(b_o, (oc12 u_th u_sa b_rf b_ro b_im b_ke u_fd b_tp u_td u_fr u_to u_so u_wo u_fa u_bd u_nc b_nl u_co b_op b_ar u_le b_pi b_pa u_pd u_od b_ws b_hw u_la b_se b_re u_bk u_va u_su u_ce u_ho u_wy u_bt u_ps b_pt u_tg u_sn b_ip u_ic b_ah b_be b_me u_wd b_tr b_ld u_st b_wn u_id)), (b_ro, (arI G 5740 v_ro)), (b_se, (arJ G 13 v_se)), (b_re, (arJ G 400 v_re))] s.heap := hP
  have hl := lv_entry ([.ref b_o]) (n := 2) (Nat.le_of_ble_eq_true rfl)
  rw [lg_entry_eq]
  generalize (lg_sl ([.ref b_o]) ++ List.replicate (2 - (lg_sl ([.ref b_o])).length) Slot.unset).toArray = ls at hl ⊢
  replace hl : lv_has ls 2 [(0, .ref b_o)] := hl
  have hm1 := mi_1 r_ro
  refine lv_iconst (v := 0) hx hb dX12_isFree_0 (by decide +kernel) ?_
  refine lv_istore_n (lv' := [(1, .int 0), (0, .ref b_o)]) hx hb dX12_isFree_1 rfl hl (by decide +kernel) rfl ?_
  clear hl
  intro ls hl
  refine g5_loop (α := (Int32) × (Int32) × (Int32) × (Int64) × (Int64) × (Int32) × (Nat → Int64) × (Nat → Int64)) (fun (q : (Int32) × (Int32) × (Int32) × (Int64) × (Int64) × (Int32) × (Nat → Int64) × (Nat → Int64)) (ls : Array Slot) (H : Heap) (locs : List Loc) => match q with | (k2_1, k2_la, k2_bk, k2_va, k2_su, k2_sn, k2_se, k2_re) => lv_has ls 2 [(1, .int k2_1), (0, .ref b_o)] ∧ va_P G.1 vwCl [(b_o, (oc12 u_th u_sa b_rf b_ro b_im b_ke u_fd b_tp u_td u_fr u_to u_so u_wo u_fa u_bd u_nc b_nl u_co b_op b_ar u_le b_pi b_pa u_pd u_od b_ws b_hw k2_la b_se b_re k2_bk k2_va k2_su u_ce u_ho u_wy u_bt u_ps b_pt u_tg k2_sn b_ip u_ic b_ah b_be b_me u_wd b_tr b_ld u_st b_wn u_id)), (b_ro, (arI G 5740 v_ro)), (b_se, (arJ G 13 k2_se)), (b_re, (arJ G 400 k2_re))] H ∧ va_D A [(b_o, (oc12 u_th u_sa b_rf b_ro b_im b_ke u_fd b_tp u_td u_fr u_to u_so u_wo u_fa u_bd u_nc b_nl u_co b_op b_ar u_le b_pi b_pa u_pd u_od b_ws b_hw k2_la b_se b_re k2_bk k2_va k2_su u_ce u_ho u_wy u_bt u_ps b_pt u_tg k2_sn b_ip u_ic b_ah b_be b_me u_wd b_tr b_ld u_st b_wn u_id)), (b_ro, (arI G 5740 v_ro)), (b_se, (arJ G 13 k2_se)), (b_re, (arJ G 400 k2_re))] ∧ va_S A s.heap H locs ∧ (0 ≤ k2_1.toInt ∧ k2_1.toInt ≤ 5) ∧ (0 ≤ k2_la.toInt ∧ k2_la.toInt ≤ 4840) ∧ (0 ≤ k2_bk.toInt ∧ k2_bk.toInt ≤ 1) ∧ (k2_1.toInt ≤ (v_ro 1).toInt) ∧ (BDA v_ro g_w u_ce u_ho u_wy u_ps u_bt k2_1) ∧ (k2_sn = u_sn)) (fun (q : (Int32) × (Int32) × (Int32) × (Int64) × (Int64) × (Int32) × (Nat → Int64) × (Nat → Int64)) => match q with | (k2_1, k2_la, k2_bk, k2_va, k2_su, k2_sn, k2_se, k2_re) => Int.toNat (5 - k2_1.toInt)) (0, u_la, u_bk, u_va, u_su, u_sn, v_se, v_re) ⟨lv_sub hl [0, 1] rfl, hP, hD, hS, ⟨by decide, by decide⟩, h_u_la, h_u_bk, by have z9 : (0 : Int32).toInt = 0 := (by decide +kernel); omega, bda_0 (by decide +kernel), rfl⟩ ?_
  rintro ⟨k2_1, k2_la, k2_bk, k2_va, k2_su, k2_sn, k2_se, k2_re⟩ ls H locs ⟨hl, hP, hD, hS, (i_1 : 0 ≤ k2_1.toInt ∧ k2_1.toInt ≤ 5), (i_2 : 0 ≤ k2_la.toInt ∧ k2_la.toInt ≤ 4840), (i_3 : 0 ≤ k2_bk.toInt ∧ k2_bk.toInt ≤ 1), (i_4 : k2_1.toInt ≤ (v_ro 1).toInt), (i_5 : BDA v_ro g_w u_ce u_ho u_wy u_ps u_bt k2_1), (i_6 : k2_sn = u_sn)⟩ ih_2_7
  replace hl : lv_has ls 2 [(1, .int k2_1), (0, .ref b_o)] := hl
  refine g5_rs [(b_o, (oc12 u_th u_sa b_rf b_ro b_im b_ke u_fd b_tp u_td u_fr u_to u_so u_wo u_fa u_bd u_nc b_nl u_co b_op b_ar u_le b_pi b_pa u_pd u_od b_ws b_hw k2_la b_se b_re k2_bk k2_va k2_su u_ce u_ho u_wy u_bt u_ps b_pt u_tg k2_sn b_ip u_ic b_ah b_be b_me u_wd b_tr b_ld u_st b_wn u_id)), (b_ro, (arI G 5740 v_ro)), (b_se, (arJ G 13 k2_se)), (b_re, (arJ G 400 k2_re))] hP hD ?_
  clear hP hD
  intro hP hD
  refine lv_iload_n hx hb dX12_isFree_2 rfl (lv_at hl 0 rfl) ?_
  refine lv_aload_n hx hb dX12_isFree_3 rfl (lv_at hl 1 rfl) ?_
  refine va_get (D := G.1) (ci := 12) (v := .ref b_ro) (C := RX12) (T := TX12) (N := 52) hx hb hts inG_X12 hown hK hP 0 rfl rfl 3 (by decide +kernel) (hts _ fl_X12_13) (fun _ h9 => h9) rfl dX12_isFree_4 ?_
  refine lv_iconst (v := 1) hx hb dX12_isFree_7 (by decide +kernel) ?_
  refine W.eq (g2 := F0 m 8 ls [.int 1, .ref b_ro, .int k2_1]) rfl ?_
  refine va_iald hx hb hK hP 1 0 rfl rfl (i := 1) (by unfold vp_in; decide) dX12_isFree_8 ?_
  refine g5_ti (v := (v_ro 1)) rfl ?_
  have hr_8 : 0 ≤ (v_ro 1).toInt ∧ (v_ro 1).toInt ≤ 5 := mi_1 r_ro
  refine lv_icmp_ge (tgt := 53) hx hb dX12_isFree_9 (by decide +kernel) (fun c_9 => ?_) (fun c_9 => ?_)
  ·
    have i_9 : k2_1.toInt ≥ (v_ro 1).toInt := g5_ge (a := k2_1.toInt) (b := (v_ro 1).toInt) rfl rfl c_9
    refine lv_iconst (v := 1) hx hb dX12_isFree_53 (by decide +kernel) ?_
    exact W.zret (v := 1) hx hb hr rfl (fun t ht hW => ⟨⟨1, [(b_o, (oc12 u_th u_sa b_rf b_ro b_im b_ke u_fd b_tp u_td u_fr u_to u_so u_wo u_fa u_bd u_nc b_nl u_co b_op b_ar u_le b_pi b_pa u_pd u_od b_ws b_hw k2_la b_se b_re k2_bk k2_va k2_su u_ce u_ho u_wy u_bt u_ps b_pt u_tg k2_sn b_ip u_ic b_ah b_be b_me u_wd b_tr b_ld u_st b_wn u_id)), (b_ro, (arI G 5740 v_ro)), (b_se, (arJ G 13 k2_se)), (b_re, (arJ G 400 k2_re))], rfl, ⟨1, k2_la, k2_bk, k2_va, k2_su, k2_sn, k2_se, k2_re, ⟨by have zc_o_r : (1 : Int32).toInt = 1 := (by decide +kernel); omega, by have zc_o_r : (1 : Int32).toInt = 1 := (by decide +kernel); omega⟩, i_2, i_3, Or.inr ⟨by decide, by first | rfl | assumption, bda_e i_5 (by omega)⟩, rfl, rfl⟩, by rw [ht]; exact hP.sub [0, 1, 2, 3] rfl, hD.sub [0, 1, 2, 3] (by decide +kernel) rfl⟩, hS.F ht⟩) hS.2.2 dX12_isFree_54
  ·
    have i_9 : k2_1.toInt < (v_ro 1).toInt := g5_geN (a := k2_1.toInt) (b := (v_ro 1).toInt) rfl rfl c_9
    refine lv_aload_n hx hb dX12_isFree_12 rfl (lv_at hl 1 rfl) ?_
    refine lv_iload_n hx hb dX12_isFree_13 rfl (lv_at hl 0 rfl) ?_
    refine lv_aload_n hx hb dX12_isFree_14 rfl (lv_at hl 1 rfl) ?_
    refine va_get (D := G.1) (ci := 12) (v := .int u_ho) (C := RX12) (T := TX12) (N := 52) hx hb hts inG_X12 hown hK hP 0 rfl rfl 34 (by decide +kernel) (hts _ fl_X12_352) (fun _ h9 => h9) rfl dX12_isFree_15 ?_
    refine W.eq (g2 := F0 m 18 ls [.int u_ho, .int k2_1, .ref b_o]) rfl ?_
    obtain ⟨hPc, hDc, hFc⟩ := g5_sub3 (wc := [(b_o, (oc12 u_th u_sa b_rf b_ro b_im b_ke u_fd b_tp u_td u_fr u_to u_so u_wo u_fa u_bd u_nc b_nl u_co b_op b_ar u_le b_pi b_pa u_pd u_od b_ws b_hw k2_la b_se b_re k2_bk k2_va k2_su u_ce u_ho u_wy u_bt u_ps b_pt u_tg k2_sn b_ip u_ic b_ah b_be b_me u_wd b_tr b_ld u_st b_wn u_id)), (b_ro, (arI G 5740 v_ro))]) hP hD hS hA [0, 1] (by decide +kernel) rfl
    refine va_calli (va_runV (As := [.int k2_1, .int u_ho]) (rest := []) ⟨hx, hb, hml, hown, hts⟩ (n_whereIsE l G b_o b_ro b_rf b_im b_ke b_tp b_nl b_op b_ar b_pi b_pa b_ws b_hw b_se b_re b_pt b_ip b_ah b_be b_me b_tr b_ld b_wn H.size u_th u_sa u_fd u_td u_fr u_to u_so u_fa u_bd u_nc u_co u_le u_pd u_od k2_la k2_bk u_ce u_ho u_wy u_bt u_ps u_tg k2_sn u_ic u_wd u_id k2_1 u_ho u_wo k2_va k2_su u_st v_ro h_u_td h_u_fr h_u_to h_u_bd h_u_nc h_u_co h_u_pd i_2 i_3 h_u_ce h_u_ho h_u_wy h_u_bt h_u_ps h_u_ic h_u_id ⟨by omega, by omega⟩ h_u_ho (r_ro)) (cwV 2 hts gV_X12_187 rfl rfl rfl hv_X12_whereIs ⟨Nat.le_of_ble_eq_true rfl, Nat.le_of_ble_eq_true rfl⟩) (g5_preV hPc hK hDc hN hT hS hFc (ci := 12) (q0 := 0) rfl rfl) rfl rfl hl.1 rfl (lv_room (Nat.le_of_ble_eq_true rfl)) dX12_isFree_18 ⟨Nat.le_of_ble_eq_true rfl, Nat.le_of_ble_eq_true rfl⟩) hS (fun q _ h => hFc q h) hFc (fun r u t H locs ht hvm hw hB hz1 hk1 hS => ?_)
    obtain ⟨hP1, hD1⟩ := hB
    have hP1 := g5_ht ht hP1
    obtain ⟨z11, (i_10 : z11 = v_ro (110 + 24 * k2_1.toInt.toNat + u_ho.toInt.toNat)), y12, rfl⟩ := hw
    have hJ9 := va_join (wr := [(b_se, (arJ G 13 k2_se)), (b_re, (arJ G 400 k2_re))]) hP hD [0, 1] [2, 3] rfl rfl (by decide +kernel) (by decide +kernel) hk1 hFc hP1 hD1
    clear hP hD hPc hDc hFc ht hvm hz1 hk1 hP1 hD1
    obtain ⟨hP, hD⟩ := hJ9
    refine g5_rs [(b_se, (arJ G 13 k2_se)), (b_re, (arJ G 400 k2_re)), (b_o, (oc12 u_th u_sa b_rf b_ro b_im b_ke u_fd b_tp u_td u_fr u_to u_so u_wo u_fa u_bd u_nc b_nl u_co b_op b_ar u_le b_pi b_pa u_pd u_od b_ws b_hw k2_la b_se b_re k2_bk k2_va k2_su u_ce u_ho u_wy u_bt u_ps b_pt u_tg k2_sn b_ip u_ic b_ah b_be b_me u_wd b_tr b_ld u_st b_wn u_id)), (b_ro, (arI G 5740 v_ro))] hP hD ?_
    clear hP hD
    intro hP hD
    refine g5_ti (v := z11) y12 ?_
    refine lv_aload_n hx hb dX12_isFree_21 rfl (lv_at hl 1 rfl) ?_
    refine va_get (D := G.1) (ci := 12) (v := .int u_ce) (C := RX12) (T := TX12) (N := 52) hx hb hts inG_X12 hown hK hP 2 rfl rfl 33 (by decide +kernel) (hts _ fl_X12_349) (fun _ h9 => h9) rfl dX12_isFree_22 ?_
    refine lv_icmp_ne (tgt := 47) hx hb dX12_isFree_25 (by decide +kernel) (fun c_13 => ?_) (fun c_13 => ?_)
    ·
      have n_13 : gNe (z11.toInt) (u_ce.toInt) := g5_ne (a := z11.toInt) (b := u_ce.toInt) rfl rfl c_13
      refine lv_iinc (v := (k2_1 + 1)) (lv' := [(1, .int (k2_1 + 1)), (0, .ref b_o)]) hx hb dX12_isFree_47 hl (k := 0) rfl rfl (by decide +kernel) rfl ?_
      clear hl
      intro ls hl
      have t_14 : (k2_1 + 1).toInt = k2_1.toInt + 1 := g5_iadd (a := k2_1.toInt) (b := 1) rfl (by decide +kernel) (by omega) (by omega)
      refine lv_goto (tgt := 2) hx hb dX12_isFree_50 (by decide +kernel) ?_
      exact ih_2_7 ((k2_1 + 1), k2_la, k2_bk, k2_va, k2_su, k2_sn, k2_se, k2_re) ls H locs (show Int.toNat (5 - (k2_1 + 1).toInt) < Int.toNat (5 - k2_1.toInt) from g_up (show k2_1.toInt < (k2_1 + 1).toInt by omega) (show k2_1.toInt < 5 by omega)) ⟨lv_sub hl [0, 1] rfl, hP.sub [2, 3, 0, 1] rfl, hD.sub [2, 3, 0, 1] (by decide +kernel) rfl, hS, ⟨by omega, by omega⟩, i_2, i_3, by omega, bda_n i_5 (by omega) (by omega) (Or.inl (by rw [← i_10]; exact fun q9 => by have q8 := congrArg Int32.toInt q9; unfold gNe at *; omega)), by assumption⟩
    ·
      have i_13 : z11.toInt = u_ce.toInt := g5_neN (a := z11.toInt) (b := u_ce.toInt) rfl rfl c_13
      refine lv_aload_n hx hb dX12_isFree_28 rfl (lv_at hl 1 rfl) ?_
      refine lv_iconst (v := 3) hx hb dX12_isFree_29 (by decide +kernel) ?_
      refine lv_iconst (v := (-1)) hx hb dX12_isFree_30 (by decide +kernel) ?_
      refine lv_iload_n hx hb dX12_isFree_31 rfl (lv_at hl 0 rfl) ?_
      refine W.eq (g2 := F0 m 32 ls [.int k2_1, .int (-1), .int 3, .ref b_o]) rfl ?_
      refine lv_iconst (v := 0) hx hb dX12_isFree_32 (by decide +kernel) ?_
      refine lv_iconst (v := 1) hx hb dX12_isFree_33 (by decide +kernel) ?_
      obtain ⟨hPc, hDc, hFc⟩ := g5_sub3 (wc := [(b_o, (oc12 u_th u_sa b_rf b_ro b_im b_ke u_fd b_tp u_td u_fr u_to u_so u_wo u_fa u_bd u_nc b_nl u_co b_op b_ar u_le b_pi b_pa u_pd u_od b_ws b_hw k2_la b_se b_re k2_bk k2_va k2_su u_ce u_ho u_wy u_bt u_ps b_pt u_tg k2_sn b_ip u_ic b_ah b_be b_me u_wd b_tr b_ld u_st b_wn u_id)), (b_ro, (arI G 5740 v_ro)), (b_se, (arJ G 13 k2_se)), (b_re, (arJ G 400 k2_re))]) hP hD hS hA [2, 3, 0, 1] (by decide +kernel) rfl
      refine va_calli (va_runV (As := [.int 3, .int (-1), .int k2_1, .int 0, .int 1]) (rest := []) ⟨hx, hb, hml, hown, hts⟩ (n_asksX l G b_o b_ro b_se b_re b_rf b_im b_ke b_tp b_nl b_op b_ar b_pi b_pa b_ws b_hw b_pt b_ip b_ah b_be b_me b_tr b_ld b_wn H.size u_th u_sa u_fd u_td u_fr u_to u_so u_fa u_bd u_nc u_co u_le u_pd u_od k2_la k2_bk u_ce u_ho u_wy u_bt u_ps u_tg k2_sn u_ic u_wd u_id 3 (-1) k2_1 0 1 u_wo k2_va k2_su u_st v_ro k2_se k2_re g_w h_u_td h_u_fr h_u_to h_u_bd h_u_nc h_u_co h_u_pd i_2 i_3 h_u_ce h_u_ho h_u_wy h_u_bt h_u_ps h_u_ic h_u_id ⟨by decide, by decide⟩ ⟨by decide, by decide⟩ (r_ro) (by decide +kernel) (e_mf) (Or.inr (by decide +kernel))) (cwV 5 hts gV_X12_383 rfl rfl rfl hv_X12_asks ⟨Nat.le_of_ble_eq_true rfl, Nat.le_of_ble_eq_true rfl⟩) (g5_preV hPc hK hDc hN hT hS hFc (ci := 12) (q0 := 0) rfl rfl) rfl rfl hl.1 rfl (lv_room (Nat.le_of_ble_eq_true rfl)) dX12_isFree_34 ⟨Nat.le_of_ble_eq_true rfl, Nat.le_of_ble_eq_true rfl⟩) hS (fun q _ h => hFc q h) hFc (fun r u t H locs ht hvm hw hB hz1 hk1 hS => ?_)
      obtain ⟨hP1, hD1⟩ := hB
      have hP1 := g5_ht ht hP1
      obtain ⟨z20, z21, z22, z23, z24, z25, z26, (i_15 : 0 ≤ z20.toInt ∧ z20.toInt ≤ 23), (i_16 : 0 ≤ z20.toInt ∧ z20.toInt ≤ (1 : Int32).toInt), (i_17 : 0 ≤ z21.toInt ∧ z21.toInt ≤ 4840), (i_18 : 0 ≤ z22.toInt ∧ z22.toInt ≤ 1), (i_19 : z20 = askA (toldW g_w (3 : Int32).toInt (askQ ((-1) : Int32) u_ce u_ho u_wy k2_1 u_ps u_bt)) (3 : Int32).toInt (0 : Int32) (1 : Int32)), y27, rfl⟩ := hw
      have hJ9 := va_join (wr := []) hP hD [2, 3, 0, 1] [] rfl rfl (by decide +kernel) (by decide +kernel) hk1 hFc hP1 hD1
      clear hP hD hPc hDc hFc ht hvm hz1 hk1 hP1 hD1
      obtain ⟨hP, hD⟩ := hJ9
      refine g5_rs [(b_o, (oc12 u_th u_sa b_rf b_ro b_im b_ke u_fd b_tp u_td u_fr u_to u_so u_wo u_fa u_bd u_nc b_nl u_co b_op b_ar u_le b_pi b_pa u_pd u_od b_ws b_hw z21 b_se b_re z22 z23 z24 u_ce u_ho u_wy u_bt u_ps b_pt u_tg k2_sn b_ip u_ic b_ah b_be b_me u_wd b_tr b_ld u_st b_wn u_id)), (b_ro, (arI G 5740 v_ro)), (b_se, (arJ G 13 z25)), (b_re, (arJ G 400 z26))] hP hD ?_
      clear hP hD
      intro hP hD
      refine g5_ti (v := z20) y27 ?_
      refine lv_if_ne (tgt := 47) hx hb dX12_isFree_37 (by decide +kernel) (fun c_28 => ?_) (fun c_28 => ?_)
      ·
        have n_28 : gNe (z20.toInt) (0) := g5_ne (a := z20.toInt) (b := 0) rfl (by decide +kernel) c_28
        have i_28 : z20.toInt ≥ 1 := by have z := g5_ne (a := z20.toInt) (b := 0) (by rfl) (by decide +kernel) c_28; omega
        refine lv_iinc (v := (k2_1 + 1)) (lv' := [(1, .int (k2_1 + 1)), (0, .ref b_o)]) hx hb dX12_isFree_47 hl (k := 0) rfl rfl (by decide +kernel) rfl ?_
        clear hl
        intro ls hl
        have t_29 : (k2_1 + 1).toInt = k2_1.toInt + 1 := g5_iadd (a := k2_1.toInt) (b := 1) rfl (by decide +kernel) (by omega) (by omega)
        refine lv_goto (tgt := 2) hx hb dX12_isFree_50 (by decide +kernel) ?_
        exact ih_2_7 ((k2_1 + 1), z21, z22, z23, z24, k2_sn, z25, z26) ls H locs (show Int.toNat (5 - (k2_1 + 1).toInt) < Int.toNat (5 - k2_1.toInt) from g_up (show k2_1.toInt < (k2_1 + 1).toInt by omega) (show k2_1.toInt < 5 by omega)) ⟨lv_sub hl [0, 1] rfl, hP, hD, hS, ⟨by omega, by omega⟩, i_17, i_18, by omega, bda_n i_5 (by omega) (by omega) (Or.inr ((as_2 (h := 3) (by decide +kernel) (by decide +kernel) i_19).elim (fun q9 => q9.2) (fun q9 => absurd q9.1 (by first | omega | (unfold gNe at *; omega))))), by assumption⟩
      ·
        have i_28 : z20.toInt = 0 := g5_neN (a := z20.toInt) (b := 0) rfl (by decide +kernel) c_28
        refine lv_aload_n hx hb dX12_isFree_40 rfl (lv_at hl 1 rfl) ?_
        refine lv_iload_n hx hb dX12_isFree_41 rfl (lv_at hl 0 rfl) ?_
        refine va_put (D := G.1) (ci := 12) (v := .int k2_1) (ty := .int) (C := RX12) (T := TX12) (N := 52) hx hb hts inG_X12 tyX12 tyX12_ok nmX12 hown hK hP hD hS 0 rfl rfl 40 (by decide +kernel) (hts _ fl_X12_371) (fun _ h9 => h9) rfl (by decide +kernel) rfl rfl (Nat.le_of_ble_eq_true rfl) dX12_isFree_42 ?_
        clear hP hD hS
        intro H locs hP hD hS
        refine g5_rs [(b_o, (oc12 u_th u_sa b_rf b_ro b_im b_ke u_fd b_tp u_td u_fr u_to u_so u_wo u_fa u_bd u_nc b_nl u_co b_op b_ar u_le b_pi b_pa u_pd u_od b_ws b_hw z21 b_se b_re z22 z23 z24 u_ce u_ho u_wy u_bt u_ps b_pt u_tg k2_1 b_ip u_ic b_ah b_be b_me u_wd b_tr b_ld u_st b_wn u_id)), (b_ro, (arI G 5740 v_ro)), (b_se, (arJ G 13 z25)), (b_re, (arJ G 400 z26))] hP hD ?_
        clear hP hD
        intro hP hD
        refine lv_iconst (v := 0) hx hb dX12_isFree_45 (by decide +kernel) ?_
        refine W.eq (g2 := F0 m 46 ls [.int 0]) rfl ?_
        exact W.zret (v := 0) hx hb hr rfl (fun t ht hW => ⟨⟨0, [(b_o, (oc12 u_th u_sa b_rf b_ro b_im b_ke u_fd b_tp u_td u_fr u_to u_so u_wo u_fa u_bd u_nc b_nl u_co b_op b_ar u_le b_pi b_pa u_pd u_od b_ws b_hw z21 b_se b_re z22 z23 z24 u_ce u_ho u_wy u_bt u_ps b_pt u_tg k2_1 b_ip u_ic b_ah b_be b_me u_wd b_tr b_ld u_st b_wn u_id)), (b_ro, (arI G 5740 v_ro)), (b_se, (arJ G 13 z25)), (b_re, (arJ G 400 z26))], rfl, ⟨0, z21, z22, z23, z24, k2_1, z25, z26, ⟨by have zc_o_r : (0 : Int32).toInt = 0 := (by decide +kernel); omega, by have zc_o_r : (0 : Int32).toInt = 0 := (by decide +kernel); omega⟩, i_17, i_18, Or.inl ⟨by decide, (bda_y i_5 (by omega) (by rw [← i_10]; exact Int32.toInt_inj.mp (by omega)) ((as_2 (h := 3) (by decide +kernel) (by decide +kernel) i_19).elim (fun q9 => absurd q9.1 (by omega)) (fun q9 => q9.2))).symm, by omega⟩, rfl, rfl⟩, by rw [ht]; exact hP.sub [0, 1, 2, 3] rfl, hD.sub [0, 1, 2, 3] (by decide +kernel) rfl⟩, hS.F ht⟩) hS.2.2 dX12_isFree_46
set_option maxHeartbeats 4000000 in
set_option maxRecDepth 100000 in
theorem n_passesX (l : Launch) (G : g5_G) (b_o b_ro b_se b_re b_rf b_im b_ke b_tp b_nl b_op b_ar b_pi b_pa b_ws b_hw b_pt b_ip b_ah b_be b_me b_tr b_ld b_wn : Nat) (sz : Nat) (u_th : Int32) (u_sa : Int32) (u_fd : Int32) (u_td : Int32) (u_fr : Int32) (u_to : Int32) (u_so : Int32) (u_fa : Int32) (u_bd : Int32) (u_nc : Int32) (u_co : Int32) (u_le : Int32) (u_pd : Int32) (u_od : Int32) (u_la : Int32) (u_bk : Int32) (u_ce : Int32) (u_ho : Int32) (u_wy : Int32) (u_bt : Int32) (u_ps : Int32) (u_tg : Int32) (u_sn : Int32) (u_ic : Int32) (u_wd : Int32) (u_id : Int32) (p_1 : Int32) (u_wo : Int64) (u_va : Int64) (u_su : Int64) (u_st : Int64) (v_ro : Nat → Int32) (v_se : Nat → Int64) (v_re : Nat → Int64) (g_w : Option (List CLT)) (h_u_td : 0 ≤ u_td.toInt ∧ u_td.toInt ≤ 400) (h_u_fr : 0 ≤ u_fr.toInt ∧ u_fr.toInt ≤ 400) (h_u_to : 0 ≤ u_to.toInt ∧ u_to.toInt ≤ 400) (h_u_bd : 0 ≤ u_bd.toInt ∧ u_bd.toInt ≤ 1) (h_u_nc : 0 ≤ u_nc.toInt ∧ u_nc.toInt ≤ 12) (h_u_co : 0 ≤ u_co.toInt ∧ u_co.toInt ≤ 400) (h_u_pd : 0 ≤ u_pd.toInt ∧ u_pd.toInt ≤ 400) (h_u_la : 0 ≤ u_la.toInt ∧ u_la.toInt ≤ 4840) (h_u_bk : 0 ≤ u_bk.toInt ∧ u_bk.toInt ≤ 1) (h_u_ce : 0 ≤ u_ce.toInt ∧ u_ce.toInt ≤ 63) (h_u_ho : 0 ≤ u_ho.toInt ∧ u_ho.toInt ≤ 23) (h_u_wy : 0 ≤ u_wy.toInt ∧ u_wy.toInt ≤ 3) (h_u_bt : 0 ≤ u_bt.toInt ∧ u_bt.toInt ≤ 1000000) (h_u_ps : 0 ≤ u_ps.toInt ∧ u_ps.toInt ≤ 200) (h_u_ic : 0 ≤ u_ic.toInt ∧ u_ic.toInt ≤ 1) (h_u_id : 0 ≤ u_id.toInt ∧ u_id.toInt ≤ 1) (r_ro : MI v_ro) (e_mf : MLF v_ro g_w) : Met l yX12_passes (wsG yX12_passes cX12_passes 3 (some .boolean)) ({ frames := 5, cells := 0, slots := 0, locals := 128 }) (va_Pc [.ref b_o, .int p_1] (g5_P G [(b_o, (oc12 u_th u_sa b_rf b_ro b_im b_ke u_fd b_tp u_td u_fr u_to u_so u_wo u_fa u_bd u_nc b_nl u_co b_op b_ar u_le b_pi b_pa u_pd u_od b_ws b_hw u_la b_se b_re u_bk u_va u_su u_ce u_ho u_wy u_bt u_ps b_pt u_tg u_sn b_ip u_ic b_ah b_be b_me u_wd b_tr b_ld u_st b_wn u_id)), (b_ro, (arI G 5740 v_ro)), (b_se, (arJ G 13 v_se)), (b_re, (arJ G 400 v_re))] sz)) (va_Qi (fun (r : Int32) (u : va_W) => (∃ (o_r : Int32) (o_la : Int32) (o_bk : Int32) (o_va : Int64) (o_su : Int64) (o_ho : Int32) (o_wy : Int32) (o_bt : Int32) (o_tg : Int32) (o_se : Nat → Int64) (o_re : Nat → Int64), (0 ≤ o_r.toInt ∧ o_r.toInt ≤ 1) ∧ (0 ≤ o_la.toInt ∧ o_la.toInt ≤ 4840) ∧ (0 ≤ o_bk.toInt ∧ o_bk.toInt ≤ 1) ∧ (0 ≤ o_ho.toInt ∧ o_ho.toInt ≤ 23) ∧ (0 ≤ o_wy.toInt ∧ o_wy.toInt ≤ 3) ∧ (0 ≤ o_bt.toInt ∧ o_bt.toInt ≤ 1000000) ∧ ((o_r.toInt = 0 ∧ (meetF v_ro g_w p_1 u_ce u_wy u_ho u_bt u_tg u_ps).1 = false ∧ (meetF v_ro g_w p_1 u_ce u_wy u_ho u_bt u_tg u_ps).2.2.2.1 = o_bt ∧ (meetF v_ro g_w p_1 u_ce u_wy u_ho u_bt u_tg u_ps).2.2.2.2 = o_tg) ∨ (o_r.toInt = 1 ∧ meetF v_ro g_w p_1 u_ce u_wy u_ho u_bt u_tg u_ps = (true, o_wy, o_ho, o_bt, o_tg))) ∧ (r = o_r) ∧ (u = [(b_o, (oc12 u_th u_sa b_rf b_ro b_im b_ke u_fd b_tp u_td u_fr u_to u_so u_wo u_fa u_bd u_nc b_nl u_co b_op b_ar u_le b_pi b_pa u_pd u_od b_ws b_hw o_la b_se b_re o_bk o_va o_su u_ce o_ho o_wy o_bt u_ps b_pt o_tg u_sn b_ip u_ic b_ah b_be b_me u_wd b_tr b_ld u_st b_wn u_id)), (b_ro, (arI G 5740 v_ro)), (b_se, (arJ G 13 o_se)), (b_re, (arJ G 400 o_re))]))) (g5_B G (va_A [(b_o, (oc12 u_th u_sa b_rf b_ro b_im b_ke u_fd b_tp u_td u_fr u_to u_so u_wo u_fa u_bd u_nc b_nl u_co b_op b_ar u_le b_pi b_pa u_pd u_od b_ws b_hw u_la b_se b_re u_bk u_va u_su u_ce u_ho u_wy u_bt u_ps b_pt u_tg u_sn b_ip u_ic b_ah b_be b_me u_wd b_tr b_ld u_st b_wn u_id)), (b_ro, (arI G 5740 v_ro)), (b_se, (arJ G 13 v_se)), (b_re, (arJ G 400 v_re))] sz)) (va_A [(b_o, (oc12 u_th u_sa b_rf b_ro b_im b_ke u_fd b_tp u_td u_fr u_to u_so u_wo u_fa u_bd u_nc b_nl u_co b_op b_ar u_le b_pi b_pa u_pd u_od b_ws b_hw u_la b_se b_re u_bk u_va u_su u_ce u_ho u_wy u_bt u_ps b_pt u_tg u_sn b_ip u_ic b_ah b_be b_me u_wd b_tr b_ld u_st b_wn u_id)), (b_ro, (arI G 5740 v_ro)), (b_se, (arJ G 13 v_se)), (b_re, (arJ G 400 v_re))] sz)) 0 0 (va_A [(b_o, (oc12 u_th u_sa b_rf b_ro b_im b_ke u_fd b_tp u_td u_fr u_to u_so u_wo u_fa u_bd u_nc b_nl u_co b_op b_ar u_le b_pi b_pa u_pd u_od b_ws b_hw u_la b_se b_re u_bk u_va u_su u_ce u_ho u_wy u_bt u_ps b_pt u_tg u_sn b_ip u_ic b_ah b_be b_me u_wd b_tr b_ld u_st b_wn u_id)), (b_ro, (arI G 5740 v_ro)), (b_se, (arJ G 13 v_se)), (b_re, (arJ G 400 v_re))] sz) := by
  refine Met.ofW (cc := cX12_passes) (maxL := 3) (ret := (some .boolean)) (by decide +kernel) rfl ?_
  intro p e s m args below meth c s₁ B hml hv
  obtain ⟨rfl, hsz, hP, hK, hD0, hN, hT⟩ := hv
  have hx := B.exec
  have hb := B.bytes
  have hr := B.returns
  have hts : ∀ w ∈ tblG, w.before _ s = true := fun w h => atoms_spec (ws := (wsG yX12_passes cX12_passes 3 (some .boolean))) B.pre w (List.mem_cons_of_mem _ h)
  have hown : s.vm.findClass RX12 = some m.cls := findClass_of_methodNamed B.named
  have hlocks := B.notSynchronized
  subst hsz
  have hD := hD0.self (sz := s.heap.size)
  generalize hAe : va_A [(b_o, (oc12 u_th u_sa b_rf b_ro b_im b_ke u_fd b_tp u_td u_fr u_to u_so u_wo u_fa u_bd u_nc b_nl u_co b_op b_ar u_le b_pi b_pa u_pd u_od b_ws b_hw u_la b_se b_re u_bk u_va u_su u_ce u_ho u_wy u_bt u_ps b_pt u_tg u_sn b_ip u_ic b_ah b_be b_me u_wd b_tr b_ld u_st b_wn u_id)), (b_ro, (arI G 5740 v_ro)), (b_se, (arJ G 13 v_se)), (b_re, (arJ G 400 v_re))] s.heap.size = A at hD hT ⊢
  have hA : ∀ q : Nat, s.heap.size ≤ q → A q := fun q h => by rw [← hAe]; exact Or.inr h
  have hS : va_S A s.heap s.heap [] := va_S.rf
  replace hP : va_P G.1 vwCl [(b_o, (oc12 u_th u_sa b_rf b_ro b_im b_ke u_fd b_tp u_td u_fr u_to u_so u_wo u_fa u_bd u_nc b_nl u_co b_op b_ar u_le b_pi b_pa u_pd u_od b_ws b_hw u_la b_se b_re u_bk u_va u_su u_ce u_ho u_wy u_bt u_ps b_pt u_tg u_sn b_ip u_ic b_ah b_be b_me u_wd b_tr b_ld u_st b_wn u_id)), (b_ro, (arI G 5740 v_ro)), (b_se, (arJ G 13 v_se)), (b_re, (arJ G 400 v_re))] s.heap := hP
  have hl := lv_entry ([.ref b_o, .int p_1]) (n := 3) (Nat.le_of_ble_eq_true rfl)
  rw [lg_entry_eq]
  generalize (lg_sl ([.ref b_o, .int p_1]) ++ List.replicate (3 - (lg_sl ([.ref b_o, .int p_1])).length) Slot.unset).toArray = ls at hl ⊢
  replace hl : lv_has ls 3 [(0, .ref b_o), (1, .int p_1)] := hl
  have hm0 := mi_0 r_ro
  have hm7 := mi_7 r_ro
  refine lv_iconst (v := 0) hx hb dX12_passes_0 (by decide +kernel) ?_
  refine lv_istore_n (lv' := [(2, .int 0), (0, .ref b_o), (1, .int p_1)]) hx hb dX12_passes_1 rfl hl (by decide +kernel) rfl ?_
  clear hl
  intro ls hl
  refine g5_loop (α := (Int32)) (fun (k2_2 : (Int32)) (ls : Array Slot) (H : Heap) (locs : List Loc) => lv_has ls 3 [(2, .int k2_2), (0, .ref b_o), (1, .int p_1)] ∧ va_P G.1 vwCl [(b_o, (oc12 u_th u_sa b_rf b_ro b_im b_ke u_fd b_tp u_td u_fr u_to u_so u_wo u_fa u_bd u_nc b_nl u_co b_op b_ar u_le b_pi b_pa u_pd u_od b_ws b_hw u_la b_se b_re u_bk u_va u_su u_ce u_ho u_wy u_bt u_ps b_pt u_tg u_sn b_ip u_ic b_ah b_be b_me u_wd b_tr b_ld u_st b_wn u_id)), (b_ro, (arI G 5740 v_ro)), (b_se, (arJ G 13 v_se)), (b_re, (arJ G 400 v_re))] H ∧ va_D A [(b_o, (oc12 u_th u_sa b_rf b_ro b_im b_ke u_fd b_tp u_td u_fr u_to u_so u_wo u_fa u_bd u_nc b_nl u_co b_op b_ar u_le b_pi b_pa u_pd u_od b_ws b_hw u_la b_se b_re u_bk u_va u_su u_ce u_ho u_wy u_bt u_ps b_pt u_tg u_sn b_ip u_ic b_ah b_be b_me u_wd b_tr b_ld u_st b_wn u_id)), (b_ro, (arI G 5740 v_ro)), (b_se, (arJ G 13 v_se)), (b_re, (arJ G 400 v_re))] ∧ va_S A s.heap H locs ∧ (0 ≤ k2_2.toInt ∧ k2_2.toInt ≤ 6) ∧ (k2_2.toInt ≤ (v_ro 0).toInt) ∧ (GLA v_ro u_ce k2_2)) (fun (k2_2 : (Int32)) => Int.toNat (6 - k2_2.toInt)) 0 ⟨lv_sub hl [0, 1, 2] rfl, hP, hD, hS, ⟨by decide, by decide⟩, by have z9 : (0 : Int32).toInt = 0 := (by decide +kernel); omega, gla_0 (by decide +kernel)⟩ ?_
  rintro k2_2 ls H locs ⟨hl, hP, hD, hS, (i_1 : 0 ≤ k2_2.toInt ∧ k2_2.toInt ≤ 6), (i_2 : k2_2.toInt ≤ (v_ro 0).toInt), (i_3 : GLA v_ro u_ce k2_2)⟩ ih_2_4
  replace hl : lv_has ls 3 [(2, .int k2_2), (0, .ref b_o), (1, .int p_1)] := hl
  refine g5_rs [(b_o, (oc12 u_th u_sa b_rf b_ro b_im b_ke u_fd b_tp u_td u_fr u_to u_so u_wo u_fa u_bd u_nc b_nl u_co b_op b_ar u_le b_pi b_pa u_pd u_od b_ws b_hw u_la b_se b_re u_bk u_va u_su u_ce u_ho u_wy u_bt u_ps b_pt u_tg u_sn b_ip u_ic b_ah b_be b_me u_wd b_tr b_ld u_st b_wn u_id)), (b_ro, (arI G 5740 v_ro)), (b_se, (arJ G 13 v_se)), (b_re, (arJ G 400 v_re))] hP hD ?_
  clear hP hD
  intro hP hD
  refine lv_iload_n hx hb dX12_passes_2 rfl (lv_at hl 0 rfl) ?_
  refine lv_aload_n hx hb dX12_passes_3 rfl (lv_at hl 1 rfl) ?_
  refine va_get (D := G.1) (ci := 12) (v := .ref b_ro) (C := RX12) (T := TX12) (N := 52) hx hb hts inG_X12 hown hK hP 0 rfl rfl 3 (by decide +kernel) (hts _ fl_X12_13) (fun _ h9 => h9) rfl dX12_passes_4 ?_
  refine lv_iconst (v := 0) hx hb dX12_passes_7 (by decide +kernel) ?_
  refine W.eq (g2 := F0 m 8 ls [.int 0, .ref b_ro, .int k2_2]) rfl ?_
  refine va_iald hx hb hK hP 1 0 rfl rfl (i := 0) (by unfold vp_in; decide) dX12_passes_8 ?_
  refine g5_ti (v := (v_ro 0)) rfl ?_
  have hr_5 : 0 ≤ (v_ro 0).toInt ∧ (v_ro 0).toInt ≤ 6 := mi_0 r_ro
  refine lv_icmp_ge (tgt := 68) hx hb dX12_passes_9 (by decide +kernel) (fun c_6 => ?_) (fun c_6 => ?_)
  ·
    have i_6 : k2_2.toInt ≥ (v_ro 0).toInt := g5_ge (a := k2_2.toInt) (b := (v_ro 0).toInt) rfl rfl c_6
    have hGN : glassF v_ro u_ce = -1 := gla_e i_3 (by omega)
    refine lv_iconst (v := 0) hx hb dX12_passes_68 (by decide +kernel) ?_
    refine lv_istore_n (lv' := [(2, .int 0), (0, .ref b_o), (1, .int p_1)]) hx hb dX12_passes_69 rfl hl (by decide +kernel) rfl ?_
    clear hl
    intro ls hl
    refine g5_loop (α := (Int32)) (fun (k70_2 : (Int32)) (ls : Array Slot) (H : Heap) (locs : List Loc) => lv_has ls 3 [(2, .int k70_2), (0, .ref b_o), (1, .int p_1)] ∧ va_P G.1 vwCl [(b_o, (oc12 u_th u_sa b_rf b_ro b_im b_ke u_fd b_tp u_td u_fr u_to u_so u_wo u_fa u_bd u_nc b_nl u_co b_op b_ar u_le b_pi b_pa u_pd u_od b_ws b_hw u_la b_se b_re u_bk u_va u_su u_ce u_ho u_wy u_bt u_ps b_pt u_tg u_sn b_ip u_ic b_ah b_be b_me u_wd b_tr b_ld u_st b_wn u_id)), (b_ro, (arI G 5740 v_ro)), (b_se, (arJ G 13 v_se)), (b_re, (arJ G 400 v_re))] H ∧ va_D A [(b_o, (oc12 u_th u_sa b_rf b_ro b_im b_ke u_fd b_tp u_td u_fr u_to u_so u_wo u_fa u_bd u_nc b_nl u_co b_op b_ar u_le b_pi b_pa u_pd u_od b_ws b_hw u_la b_se b_re u_bk u_va u_su u_ce u_ho u_wy u_bt u_ps b_pt u_tg u_sn b_ip u_ic b_ah b_be b_me u_wd b_tr b_ld u_st b_wn u_id)), (b_ro, (arI G 5740 v_ro)), (b_se, (arJ G 13 v_se)), (b_re, (arJ G 400 v_re))] ∧ va_S A s.heap H locs ∧ (0 ≤ k70_2.toInt ∧ k70_2.toInt ≤ 8) ∧ (k70_2.toInt ≤ (v_ro 7).toInt) ∧ (SPA v_ro p_1 u_ce k70_2)) (fun (k70_2 : (Int32)) => Int.toNat (8 - k70_2.toInt)) 0 ⟨lv_sub hl [0, 1, 2] rfl, hP, hD, hS, ⟨by decide, by decide⟩, by have z9 : (0 : Int32).toInt = 0 := (by decide +kernel); omega, spa_0 (by decide +kernel)⟩ ?_
    rintro k70_2 ls H locs ⟨hl, hP, hD, hS, (i_7 : 0 ≤ k70_2.toInt ∧ k70_2.toInt ≤ 8), (i_8 : k70_2.toInt ≤ (v_ro 7).toInt), (i_9 : SPA v_ro p_1 u_ce k70_2)⟩ ih_70_10
    replace hl : lv_has ls 3 [(2, .int k70_2), (0, .ref b_o), (1, .int p_1)] := hl
    refine g5_rs [(b_o, (oc12 u_th u_sa b_rf b_ro b_im b_ke u_fd b_tp u_td u_fr u_to u_so u_wo u_fa u_bd u_nc b_nl u_co b_op b_ar u_le b_pi b_pa u_pd u_od b_ws b_hw u_la b_se b_re u_bk u_va u_su u_ce u_ho u_wy u_bt u_ps b_pt u_tg u_sn b_ip u_ic b_ah b_be b_me u_wd b_tr b_ld u_st b_wn u_id)), (b_ro, (arI G 5740 v_ro)), (b_se, (arJ G 13 v_se)), (b_re, (arJ G 400 v_re))] hP hD ?_
    clear hP hD
    intro hP hD
    refine lv_iload_n hx hb dX12_passes_70 rfl (lv_at hl 0 rfl) ?_
    refine lv_aload_n hx hb dX12_passes_71 rfl (lv_at hl 1 rfl) ?_
    refine va_get (D := G.1) (ci := 12) (v := .ref b_ro) (C := RX12) (T := TX12) (N := 52) hx hb hts inG_X12 hown hK hP 0 rfl rfl 3 (by decide +kernel) (hts _ fl_X12_13) (fun _ h9 => h9) rfl dX12_passes_72 ?_
    refine lv_bipush (v := 7) hx hb dX12_passes_75 (by decide +kernel) ?_
    refine W.eq (g2 := F0 m 77 ls [.int 7, .ref b_ro, .int k70_2]) rfl ?_
    refine va_iald hx hb hK hP 1 0 rfl rfl (i := 7) (by unfold vp_in; decide) dX12_passes_77 ?_
    refine g5_ti (v := (v_ro 7)) rfl ?_
    have hr_11 : 0 ≤ (v_ro 7).toInt ∧ (v_ro 7).toInt ≤ 8 := mi_7 r_ro
    refine lv_icmp_ge (tgt := 153) hx hb dX12_passes_78 (by decide +kernel) (fun c_12 => ?_) (fun c_12 => ?_)
    ·
      have i_12 : k70_2.toInt ≥ (v_ro 7).toInt := g5_ge (a := k70_2.toInt) (b := (v_ro 7).toInt) rfl rfl c_12
      refine lv_iconst (v := 1) hx hb dX12_passes_153 (by decide +kernel) ?_
      exact W.zret (v := 1) hx hb hr rfl (fun t ht hW => ⟨⟨1, [(b_o, (oc12 u_th u_sa b_rf b_ro b_im b_ke u_fd b_tp u_td u_fr u_to u_so u_wo u_fa u_bd u_nc b_nl u_co b_op b_ar u_le b_pi b_pa u_pd u_od b_ws b_hw u_la b_se b_re u_bk u_va u_su u_ce u_ho u_wy u_bt u_ps b_pt u_tg u_sn b_ip u_ic b_ah b_be b_me u_wd b_tr b_ld u_st b_wn u_id)), (b_ro, (arI G 5740 v_ro)), (b_se, (arJ G 13 v_se)), (b_re, (arJ G 400 v_re))], rfl, ⟨1, u_la, u_bk, u_va, u_su, u_ho, u_wy, u_bt, u_tg, v_se, v_re, ⟨by have zc_o_r : (1 : Int32).toInt = 1 := (by decide +kernel); omega, by have zc_o_r : (1 : Int32).toInt = 1 := (by decide +kernel); omega⟩, h_u_la, h_u_bk, h_u_ho, h_u_wy, h_u_bt, Or.inr ⟨by decide, met_n hGN (spa_e i_9 (by omega))⟩, rfl, rfl⟩, by rw [ht]; exact hP.sub [0, 1, 2, 3] rfl, hD.sub [0, 1, 2, 3] (by decide +kernel) rfl⟩, hS.F ht⟩) hS.2.2 dX12_passes_154
    ·
      have i_12 : k70_2.toInt < (v_ro 7).toInt := g5_geN (a := k70_2.toInt) (b := (v_ro 7).toInt) rfl rfl c_12
      refine lv_iload_n hx hb dX12_passes_81 rfl (lv_at hl 2 rfl) ?_
      refine lv_iload_n hx hb dX12_passes_82 rfl (lv_at hl 0 rfl) ?_
      obtain ⟨hPc, hDc, hFc⟩ := g5_sub3 (wc := []) hP hD hS hA [] (by decide +kernel) rfl
      refine va_calli (va_runS (As := [.int p_1, .int k70_2]) (rest := []) ⟨hx, hb, hml, hown, hts⟩ (n_isX l G H.size p_1 k70_2) (va_cwS 2 hts gS_X12_387 rfl rfl rfl hs_X12_is ⟨Nat.le_of_ble_eq_true rfl, Nat.le_of_ble_eq_true rfl⟩) (g5_preS hPc hK hDc hN hT hS hFc) rfl rfl hl.1 rfl (lv_room (Nat.le_of_ble_eq_true rfl)) dX12_passes_83 ⟨Nat.le_of_ble_eq_true rfl, Nat.le_of_ble_eq_true rfl⟩) hS (fun q _ h => hFc q h) hFc (fun r u t H locs ht hvm hw hB hz1 hk1 hS => ?_)
      obtain ⟨hP1, hD1⟩ := hB
      have hP1 := g5_ht ht hP1
      rcases hw with ⟨(i_13 : isQ p_1 k70_2), rfl, rfl⟩ | ⟨(i_14 : ¬ isQ p_1 k70_2), rfl, rfl⟩
      ·
        have hJ9 := g5_same hP hk1
        clear hP hPc hDc hFc ht hvm hz1 hk1 hP1 hD1
        have hP := hJ9
        clear hJ9
        refine lv_if_eq (tgt := 147) hx hb dX12_passes_86 (by decide +kernel) (fun c_15 => ?_) (fun c_15 => ?_)
        ·
          exact absurd c_15 (by decide +kernel)
        ·
          refine lv_aload_n hx hb dX12_passes_89 rfl (lv_at hl 1 rfl) ?_
          refine va_get (D := G.1) (ci := 12) (v := .ref b_ro) (C := RX12) (T := TX12) (N := 52) hx hb hts inG_X12 hown hK hP 0 rfl rfl 3 (by decide +kernel) (hts _ fl_X12_13) (fun _ h9 => h9) rfl dX12_passes_90 ?_
          refine lv_sipush (v := 270) hx hb dX12_passes_93 (by decide +kernel) ?_
          refine lv_iconst (v := 3) hx hb dX12_passes_96 (by decide +kernel) ?_
          refine W.eq (g2 := F0 m 97 ls [.int 3, .int 270, .ref b_ro]) rfl ?_
          refine lv_iload_n hx hb dX12_passes_97 rfl (lv_at hl 0 rfl) ?_
          refine lv_imul hx hb dX12_passes_98 ?_
          have t_16 : (3 * k70_2).toInt = 3 * k70_2.toInt := g5_imul (a := 3) (b := k70_2.toInt) (by decide +kernel) (by rfl) (by omega) (by omega)
          refine lv_iadd hx hb dX12_passes_99 ?_
          have t_17 : (270 + (3 * k70_2)).toInt = 270 + (3 * k70_2).toInt := g5_iadd (a := 270) (b := (3 * k70_2).toInt) (by decide +kernel) (by rfl) (by omega) (by omega)
          refine va_iald hx hb hK hP 1 0 rfl rfl (i := (270 + (3 * k70_2))) (vp_in_iff.mpr ⟨by omega, by omega⟩) dX12_passes_100 ?_
          refine lv_aload_n hx hb dX12_passes_101 rfl (lv_at hl 1 rfl) ?_
          refine W.eq (g2 := F0 m 102 ls [.ref b_o, .int (v_ro (270 + (3 * k70_2)).toNatClampNeg)]) rfl ?_
          refine va_get (D := G.1) (ci := 12) (v := .int u_ce) (C := RX12) (T := TX12) (N := 52) hx hb hts inG_X12 hown hK hP 0 rfl rfl 33 (by decide +kernel) (hts _ fl_X12_349) (fun _ h9 => h9) rfl dX12_passes_102 ?_
          refine lv_icmp_ne (tgt := 147) hx hb dX12_passes_105 (by decide +kernel) (fun c_18 => ?_) (fun c_18 => ?_)
          ·
            have n_18 : gNe ((v_ro (270 + (3 * k70_2)).toNatClampNeg).toInt) (u_ce.toInt) := g5_ne (a := (v_ro (270 + (3 * k70_2)).toNatClampNeg).toInt) (b := u_ce.toInt) rfl rfl c_18
            refine lv_iinc (v := (k70_2 + 1)) (lv' := [(2, .int (k70_2 + 1)), (0, .ref b_o), (1, .int p_1)]) hx hb dX12_passes_147 hl (k := 0) rfl rfl (by decide +kernel) rfl ?_
            clear hl
            intro ls hl
            have t_19 : (k70_2 + 1).toInt = k70_2.toInt + 1 := g5_iadd (a := k70_2.toInt) (b := 1) rfl (by decide +kernel) (by omega) (by omega)
            refine lv_goto (tgt := 70) hx hb dX12_passes_150 (by decide +kernel) ?_
            exact ih_70_10 (k70_2 + 1) ls H locs (show Int.toNat (8 - (k70_2 + 1).toInt) < Int.toNat (8 - k70_2.toInt) from g_up (show k70_2.toInt < (k70_2 + 1).toInt by omega) (show k70_2.toInt < 8 by omega)) ⟨lv_sub hl [0, 1, 2] rfl, hP, hD, hS, ⟨by omega, by omega⟩, by omega, spa_n i_9 (by omega) (by omega) (Or.inr (by rw [show 270 + 3 * k70_2.toInt.toNat = (270 + (3 * k70_2)).toNatClampNeg by have zz := g5_clamp (270 + (3 * k70_2)); omega]; exact fun q9 => by have q8 := congrArg Int32.toInt q9; unfold gNe at *; omega))⟩
          ·
            have i_18 : (v_ro (270 + (3 * k70_2)).toNatClampNeg).toInt = u_ce.toInt := g5_neN (a := (v_ro (270 + (3 * k70_2)).toNatClampNeg).toInt) (b := u_ce.toInt) rfl rfl c_18
            have hSF : spotF v_ro p_1 u_ce = k70_2 := spa_y i_9 (by omega) i_13 (by rw [show 270 + 3 * k70_2.toInt.toNat = (270 + (3 * k70_2)).toNatClampNeg by have zz := g5_clamp (270 + (3 * k70_2)); omega]; exact Int32.toInt_inj.mp (by omega))
            refine lv_aload_n hx hb dX12_passes_108 rfl (lv_at hl 1 rfl) ?_
            refine lv_bipush (v := 6) hx hb dX12_passes_109 (by decide +kernel) ?_
            refine lv_iload_n hx hb dX12_passes_111 rfl (lv_at hl 0 rfl) ?_
            refine lv_iadd hx hb dX12_passes_112 ?_
            have t_20 : (6 + k70_2).toInt = 6 + k70_2.toInt := g5_iadd (a := 6) (b := k70_2.toInt) (by decide +kernel) (by rfl) (by omega) (by omega)
            refine W.eq (g2 := F0 m 113 ls [.int (6 + k70_2), .ref b_o]) rfl ?_
            refine lv_aload_n hx hb dX12_passes_113 rfl (lv_at hl 1 rfl) ?_
            refine va_get (D := G.1) (ci := 12) (v := .ref b_ro) (C := RX12) (T := TX12) (N := 52) hx hb hts inG_X12 hown hK hP 0 rfl rfl 3 (by decide +kernel) (hts _ fl_X12_13) (fun _ h9 => h9) rfl dX12_passes_114 ?_
            refine lv_sipush (v := 270) hx hb dX12_passes_117 (by decide +kernel) ?_
            refine lv_iconst (v := 3) hx hb dX12_passes_120 (by decide +kernel) ?_
            refine lv_iload_n hx hb dX12_passes_121 rfl (lv_at hl 0 rfl) ?_
            refine W.eq (g2 := F0 m 122 ls [.int k70_2, .int 3, .int 270, .ref b_ro, .int (6 + k70_2), .ref b_o]) rfl ?_
            refine lv_imul hx hb dX12_passes_122 ?_
            have t_21 : (3 * k70_2).toInt = 3 * k70_2.toInt := g5_imul (a := 3) (b := k70_2.toInt) (by decide +kernel) (by rfl) (by omega) (by omega)
            refine lv_iadd hx hb dX12_passes_123 ?_
            have t_22 : (270 + (3 * k70_2)).toInt = 270 + (3 * k70_2).toInt := g5_iadd (a := 270) (b := (3 * k70_2).toInt) (by decide +kernel) (by rfl) (by omega) (by omega)
            refine lv_iconst (v := 1) hx hb dX12_passes_124 (by decide +kernel) ?_
            refine lv_iadd hx hb dX12_passes_125 ?_
            have t_23 : ((270 + (3 * k70_2)) + 1).toInt = (270 + (3 * k70_2)).toInt + 1 := g5_iadd (a := (270 + (3 * k70_2)).toInt) (b := 1) (by rfl) (by decide +kernel) (by omega) (by omega)
            refine va_iald hx hb hK hP 1 0 rfl rfl (i := ((270 + (3 * k70_2)) + 1)) (vp_in_iff.mpr ⟨by omega, by omega⟩) dX12_passes_126 ?_
            have hv_24 : 0 ≤ (v_ro ((270 + (3 * k70_2)) + 1).toNatClampNeg).toInt ∧ (v_ro ((270 + (3 * k70_2)) + 1).toNatClampNeg).toInt ≤ 5 := mi_270_1 r_ro (by have zz := g5_clamp ((270 + (3 * k70_2)) + 1); omega) (by have zz := g5_clamp ((270 + (3 * k70_2)) + 1); omega) (by have zz := g5_clamp ((270 + (3 * k70_2)) + 1); omega)
            refine W.eq (g2 := F0 m 127 ls [.int (v_ro ((270 + (3 * k70_2)) + 1).toNatClampNeg), .int (6 + k70_2), .ref b_o]) rfl ?_
            refine lv_aload_n hx hb dX12_passes_127 rfl (lv_at hl 1 rfl) ?_
            refine va_get (D := G.1) (ci := 12) (v := .ref b_ro) (C := RX12) (T := TX12) (N := 52) hx hb hts inG_X12 hown hK hP 0 rfl rfl 3 (by decide +kernel) (hts _ fl_X12_13) (fun _ h9 => h9) rfl dX12_passes_128 ?_
            refine lv_sipush (v := 270) hx hb dX12_passes_131 (by decide +kernel) ?_
            refine lv_iconst (v := 3) hx hb dX12_passes_134 (by decide +kernel) ?_
            refine lv_iload_n hx hb dX12_passes_135 rfl (lv_at hl 0 rfl) ?_
            refine W.eq (g2 := F0 m 136 ls [.int k70_2, .int 3, .int 270, .ref b_ro, .int (v_ro ((270 + (3 * k70_2)) + 1).toNatClampNeg), .int (6 + k70_2), .ref b_o]) rfl ?_
            refine lv_imul hx hb dX12_passes_136 ?_
            have t_25 : (3 * k70_2).toInt = 3 * k70_2.toInt := g5_imul (a := 3) (b := k70_2.toInt) (by decide +kernel) (by rfl) (by omega) (by omega)
            refine lv_iadd hx hb dX12_passes_137 ?_
            have t_26 : (270 + (3 * k70_2)).toInt = 270 + (3 * k70_2).toInt := g5_iadd (a := 270) (b := (3 * k70_2).toInt) (by decide +kernel) (by rfl) (by omega) (by omega)
            refine lv_iconst (v := 2) hx hb dX12_passes_138 (by decide +kernel) ?_
            refine lv_iadd hx hb dX12_passes_139 ?_
            have t_27 : ((270 + (3 * k70_2)) + 2).toInt = (270 + (3 * k70_2)).toInt + 2 := g5_iadd (a := (270 + (3 * k70_2)).toInt) (b := 2) (by rfl) (by decide +kernel) (by omega) (by omega)
            refine va_iald hx hb hK hP 1 0 rfl rfl (i := ((270 + (3 * k70_2)) + 2)) (vp_in_iff.mpr ⟨by omega, by omega⟩) dX12_passes_140 ?_
            have hv_28 : 0 ≤ (v_ro ((270 + (3 * k70_2)) + 2).toNatClampNeg).toInt ∧ (v_ro ((270 + (3 * k70_2)) + 2).toNatClampNeg).toInt ≤ 23 := mi_270_2 r_ro (by have zz := g5_clamp ((270 + (3 * k70_2)) + 2); omega) (by have zz := g5_clamp ((270 + (3 * k70_2)) + 2); omega) (by have zz := g5_clamp ((270 + (3 * k70_2)) + 2); omega)
            refine W.eq (g2 := F0 m 141 ls [.int (v_ro ((270 + (3 * k70_2)) + 2).toNatClampNeg), .int (v_ro ((270 + (3 * k70_2)) + 1).toNatClampNeg), .int (6 + k70_2), .ref b_o]) rfl ?_
            refine lv_iconst (v := 0) hx hb dX12_passes_141 (by decide +kernel) ?_
            refine lv_iconst (v := 0) hx hb dX12_passes_142 (by decide +kernel) ?_
            obtain ⟨hPc, hDc, hFc⟩ := g5_sub3 (wc := [(b_o, (oc12 u_th u_sa b_rf b_ro b_im b_ke u_fd b_tp u_td u_fr u_to u_so u_wo u_fa u_bd u_nc b_nl u_co b_op b_ar u_le b_pi b_pa u_pd u_od b_ws b_hw u_la b_se b_re u_bk u_va u_su u_ce u_ho u_wy u_bt u_ps b_pt u_tg u_sn b_ip u_ic b_ah b_be b_me u_wd b_tr b_ld u_st b_wn u_id)), (b_ro, (arI G 5740 v_ro)), (b_se, (arJ G 13 v_se)), (b_re, (arJ G 400 v_re))]) hP hD hS hA [0, 1, 2, 3] (by decide +kernel) rfl
            refine va_calli (va_runV (As := [.int (6 + k70_2), .int (v_ro ((270 + (3 * k70_2)) + 1).toNatClampNeg), .int (v_ro ((270 + (3 * k70_2)) + 2).toNatClampNeg), .int 0, .int 0]) (rest := []) ⟨hx, hb, hml, hown, hts⟩ (n_turnsX l G b_o b_ro b_se b_re b_rf b_im b_ke b_tp b_nl b_op b_ar b_pi b_pa b_ws b_hw b_pt b_ip b_ah b_be b_me b_tr b_ld b_wn H.size u_th u_sa u_fd u_td u_fr u_to u_so u_fa u_bd u_nc u_co u_le u_pd u_od u_la u_bk u_ce u_ho u_wy u_bt u_ps u_tg u_sn u_ic u_wd u_id (6 + k70_2) (v_ro ((270 + (3 * k70_2)) + 1).toNatClampNeg) (v_ro ((270 + (3 * k70_2)) + 2).toNatClampNeg) 0 0 u_wo u_va u_su u_st v_ro v_se v_re g_w h_u_td h_u_fr h_u_to h_u_bd h_u_nc h_u_co h_u_pd h_u_la h_u_bk h_u_ce h_u_ho h_u_wy h_u_bt h_u_ps h_u_ic h_u_id ⟨by omega, by omega⟩ ⟨by omega, by omega⟩ ⟨by decide, by decide⟩ ⟨by decide, by decide⟩ (r_ro) (e_mf)) (cwV 5 hts gV_X12_390 rfl rfl rfl hv_X12_turns ⟨Nat.le_of_ble_eq_true rfl, Nat.le_of_ble_eq_true rfl⟩) (g5_preV hPc hK hDc hN hT hS hFc (ci := 12) (q0 := 0) rfl rfl) rfl rfl hl.1 rfl (lv_room (Nat.le_of_ble_eq_true rfl)) dX12_passes_143 ⟨Nat.le_of_ble_eq_true rfl, Nat.le_of_ble_eq_true rfl⟩) hS (fun q _ h => hFc q h) hFc (fun r u t H locs ht hvm hw hB hz1 hk1 hS => ?_)
            obtain ⟨hP1, hD1⟩ := hB
            have hP1 := g5_ht ht hP1
            obtain ⟨z36, z37, z38, z39, z40, z41, z42, z43, z44, z45, z46, (i_29 : 0 ≤ z36.toInt ∧ z36.toInt ≤ 1), (i_30 : 0 ≤ z37.toInt ∧ z37.toInt ≤ 4840), (i_31 : 0 ≤ z38.toInt ∧ z38.toInt ≤ 1), (i_32 : 0 ≤ z41.toInt ∧ z41.toInt ≤ 23), (i_33 : 0 ≤ z42.toInt ∧ z42.toInt ≤ 3), (i_34 : 0 ≤ z43.toInt ∧ z43.toInt ≤ 1000000), (i_35 : (z36.toInt = 0 ∧ (turnF g_w (6 + k70_2) (v_ro ((270 + (3 * k70_2)) + 1).toNatClampNeg) (v_ro ((270 + (3 * k70_2)) + 2).toNatClampNeg) (0 : Int32) ((0 : Int32).toInt ≠ 0) (v_ro 4) u_ce u_wy u_ho u_bt u_tg u_ps).1 = false ∧ (turnF g_w (6 + k70_2) (v_ro ((270 + (3 * k70_2)) + 1).toNatClampNeg) (v_ro ((270 + (3 * k70_2)) + 2).toNatClampNeg) (0 : Int32) ((0 : Int32).toInt ≠ 0) (v_ro 4) u_ce u_wy u_ho u_bt u_tg u_ps).2.2.2.1 = z43 ∧ (turnF g_w (6 + k70_2) (v_ro ((270 + (3 * k70_2)) + 1).toNatClampNeg) (v_ro ((270 + (3 * k70_2)) + 2).toNatClampNeg) (0 : Int32) ((0 : Int32).toInt ≠ 0) (v_ro 4) u_ce u_wy u_ho u_bt u_tg u_ps).2.2.2.2 = z44) ∨ (z36.toInt = 1 ∧ turnF g_w (6 + k70_2) (v_ro ((270 + (3 * k70_2)) + 1).toNatClampNeg) (v_ro ((270 + (3 * k70_2)) + 2).toNatClampNeg) (0 : Int32) ((0 : Int32).toInt ≠ 0) (v_ro 4) u_ce u_wy u_ho u_bt u_tg u_ps = (true, z42, z41, z43, z44))), y47, rfl⟩ := hw
            have hJ9 := va_join (wr := []) hP hD [0, 1, 2, 3] [] rfl rfl (by decide +kernel) (by decide +kernel) hk1 hFc hP1 hD1
            clear hP hD hPc hDc hFc ht hvm hz1 hk1 hP1 hD1
            obtain ⟨hP, hD⟩ := hJ9
            refine g5_rs [(b_o, (oc12 u_th u_sa b_rf b_ro b_im b_ke u_fd b_tp u_td u_fr u_to u_so u_wo u_fa u_bd u_nc b_nl u_co b_op b_ar u_le b_pi b_pa u_pd u_od b_ws b_hw z37 b_se b_re z38 z39 z40 u_ce z41 z42 z43 u_ps b_pt z44 u_sn b_ip u_ic b_ah b_be b_me u_wd b_tr b_ld u_st b_wn u_id)), (b_ro, (arI G 5740 v_ro)), (b_se, (arJ G 13 z45)), (b_re, (arJ G 400 z46))] hP hD ?_
            clear hP hD
            intro hP hD
            refine g5_ti (v := z36) y47 ?_
            exact W.zret (v := z36) hx hb hr (g_nb (by omega) (by omega)) (fun t ht hW => ⟨⟨z36, [(b_o, (oc12 u_th u_sa b_rf b_ro b_im b_ke u_fd b_tp u_td u_fr u_to u_so u_wo u_fa u_bd u_nc b_nl u_co b_op b_ar u_le b_pi b_pa u_pd u_od b_ws b_hw z37 b_se b_re z38 z39 z40 u_ce z41 z42 z43 u_ps b_pt z44 u_sn b_ip u_ic b_ah b_be b_me u_wd b_tr b_ld u_st b_wn u_id)), (b_ro, (arI G 5740 v_ro)), (b_se, (arJ G 13 z45)), (b_re, (arJ G 400 z46))], rfl, ⟨z36, z37, z38, z39, z40, z41, z42, z43, z44, z45, z46, i_29, i_30, i_31, i_32, i_33, i_34, by have hM9 : meetF v_ro g_w p_1 u_ce u_wy u_ho u_bt u_tg u_ps = (turnF g_w (6 + k70_2) (v_ro ((270 + (3 * k70_2)) + 1).toNatClampNeg) (v_ro ((270 + (3 * k70_2)) + 2).toNatClampNeg) (0 : Int32) ((0 : Int32).toInt ≠ 0) (v_ro 4) u_ce u_wy u_ho u_bt u_tg u_ps) := (met_s hGN hSF (by omega)).trans (by rw [show 270 + 3 * k70_2.toInt.toNat + 1 = ((270 + (3 * k70_2)) + 1).toNatClampNeg by have zz := g5_clamp ((270 + (3 * k70_2)) + 1); omega, show 270 + 3 * k70_2.toInt.toNat + 2 = ((270 + (3 * k70_2)) + 2).toNatClampNeg by have zz := g5_clamp ((270 + (3 * k70_2)) + 2); omega]; exact turn_cov ⟨fun q9 => absurd q9 (fun q8 => q8), fun q9 => absurd (by decide +kernel) q9⟩); rw [hM9]; exact i_35, rfl, rfl⟩, by rw [ht]; exact hP.sub [0, 1, 2, 3] rfl, hD.sub [0, 1, 2, 3] (by decide +kernel) rfl⟩, hS.F ht⟩) hS.2.2 dX12_passes_146
      ·
        have hJ9 := g5_same hP hk1
        clear hP hPc hDc hFc ht hvm hz1 hk1 hP1 hD1
        have hP := hJ9
        clear hJ9
        refine lv_if_eq (tgt := 147) hx hb dX12_passes_86 (by decide +kernel) (fun c_48 => ?_) (fun c_48 => ?_)
        ·
          refine lv_iinc (v := (k70_2 + 1)) (lv' := [(2, .int (k70_2 + 1)), (0, .ref b_o), (1, .int p_1)]) hx hb dX12_passes_147 hl (k := 0) rfl rfl (by decide +kernel) rfl ?_
          clear hl
          intro ls hl
          have t_49 : (k70_2 + 1).toInt = k70_2.toInt + 1 := g5_iadd (a := k70_2.toInt) (b := 1) rfl (by decide +kernel) (by omega) (by omega)
          refine lv_goto (tgt := 70) hx hb dX12_passes_150 (by decide +kernel) ?_
          exact ih_70_10 (k70_2 + 1) ls H locs (show Int.toNat (8 - (k70_2 + 1).toInt) < Int.toNat (8 - k70_2.toInt) from g_up (show k70_2.toInt < (k70_2 + 1).toInt by omega) (show k70_2.toInt < 8 by omega)) ⟨lv_sub hl [0, 1, 2] rfl, hP, hD, hS, ⟨by omega, by omega⟩, by omega, spa_n i_9 (by omega) (by omega) (Or.inl i_14)⟩
        ·
          exact absurd c_48 (by decide +kernel)
  ·
    have i_6 : k2_2.toInt < (v_ro 0).toInt := g5_geN (a := k2_2.toInt) (b := (v_ro 0).toInt) rfl rfl c_6
    refine lv_aload_n hx hb dX12_passes_12 rfl (lv_at hl 1 rfl) ?_
    refine lv_iload_n hx hb dX12_passes_13 rfl (lv_at hl 0 rfl) ?_
    refine lv_iconst (v := 0) hx hb dX12_passes_14 (by decide +kernel) ?_
    obtain ⟨hPc, hDc, hFc⟩ := g5_sub3 (wc := [(b_o, (oc12 u_th u_sa b_rf b_ro b_im b_ke u_fd b_tp u_td u_fr u_to u_so u_wo u_fa u_bd u_nc b_nl u_co b_op b_ar u_le b_pi b_pa u_pd u_od b_ws b_hw u_la b_se b_re u_bk u_va u_su u_ce u_ho u_wy u_bt u_ps b_pt u_tg u_sn b_ip u_ic b_ah b_be b_me u_wd b_tr b_ld u_st b_wn u_id)), (b_ro, (arI G 5740 v_ro))]) hP hD hS hA [0, 1] (by decide +kernel) rfl
    refine va_calli (va_runV (As := [.int k2_2, .int 0]) (rest := []) ⟨hx, hb, hml, hown, hts⟩ (n_glX0 l G b_o b_ro b_rf b_im b_ke b_tp b_nl b_op b_ar b_pi b_pa b_ws b_hw b_se b_re b_pt b_ip b_ah b_be b_me b_tr b_ld b_wn H.size u_th u_sa u_fd u_td u_fr u_to u_so u_fa u_bd u_nc u_co u_le u_pd u_od u_la u_bk u_ce u_ho u_wy u_bt u_ps u_tg u_sn u_ic u_wd u_id k2_2 u_wo u_va u_su u_st v_ro h_u_td h_u_fr h_u_to h_u_bd h_u_nc h_u_co h_u_pd h_u_la h_u_bk h_u_ce h_u_ho h_u_wy h_u_bt h_u_ps h_u_ic h_u_id ⟨by omega, by omega⟩ (r_ro)) (cwV 2 hts gV_X12_134 rfl rfl rfl hv_X12_ofGlass ⟨Nat.le_of_ble_eq_true rfl, Nat.le_of_ble_eq_true rfl⟩) (g5_preV hPc hK hDc hN hT hS hFc (ci := 12) (q0 := 0) rfl rfl) rfl rfl hl.1 rfl (lv_room (Nat.le_of_ble_eq_true rfl)) dX12_passes_15 ⟨Nat.le_of_ble_eq_true rfl, Nat.le_of_ble_eq_true rfl⟩) hS (fun q _ h => hFc q h) hFc (fun r u t H locs ht hvm hw hB hz1 hk1 hS => ?_)
    obtain ⟨hP1, hD1⟩ := hB
    have hP1 := g5_ht ht hP1
    obtain ⟨z52, (i_50 : 0 ≤ z52.toInt ∧ z52.toInt ≤ 63), (i_51 : z52 = v_ro (80 + 5 * k2_2.toInt.toNat + 0)), y53, rfl⟩ := hw
    have hJ9 := va_join (wr := [(b_se, (arJ G 13 v_se)), (b_re, (arJ G 400 v_re))]) hP hD [0, 1] [2, 3] rfl rfl (by decide +kernel) (by decide +kernel) hk1 hFc hP1 hD1
    clear hP hD hPc hDc hFc ht hvm hz1 hk1 hP1 hD1
    obtain ⟨hP, hD⟩ := hJ9
    refine g5_rs [(b_se, (arJ G 13 v_se)), (b_re, (arJ G 400 v_re)), (b_o, (oc12 u_th u_sa b_rf b_ro b_im b_ke u_fd b_tp u_td u_fr u_to u_so u_wo u_fa u_bd u_nc b_nl u_co b_op b_ar u_le b_pi b_pa u_pd u_od b_ws b_hw u_la b_se b_re u_bk u_va u_su u_ce u_ho u_wy u_bt u_ps b_pt u_tg u_sn b_ip u_ic b_ah b_be b_me u_wd b_tr b_ld u_st b_wn u_id)), (b_ro, (arI G 5740 v_ro))] hP hD ?_
    clear hP hD
    intro hP hD
    refine g5_ti (v := z52) y53 ?_
    refine W.eq (g2 := F0 m 18 ls [.int z52]) rfl ?_
    refine lv_aload_n hx hb dX12_passes_18 rfl (lv_at hl 1 rfl) ?_
    refine va_get (D := G.1) (ci := 12) (v := .int u_ce) (C := RX12) (T := TX12) (N := 52) hx hb hts inG_X12 hown hK hP 2 rfl rfl 33 (by decide +kernel) (hts _ fl_X12_349) (fun _ h9 => h9) rfl dX12_passes_19 ?_
    refine lv_icmp_ne (tgt := 62) hx hb dX12_passes_22 (by decide +kernel) (fun c_54 => ?_) (fun c_54 => ?_)
    ·
      have n_54 : gNe (z52.toInt) (u_ce.toInt) := g5_ne (a := z52.toInt) (b := u_ce.toInt) rfl rfl c_54
      refine lv_iinc (v := (k2_2 + 1)) (lv' := [(2, .int (k2_2 + 1)), (0, .ref b_o), (1, .int p_1)]) hx hb dX12_passes_62 hl (k := 0) rfl rfl (by decide +kernel) rfl ?_
      clear hl
      intro ls hl
      have t_55 : (k2_2 + 1).toInt = k2_2.toInt + 1 := g5_iadd (a := k2_2.toInt) (b := 1) rfl (by decide +kernel) (by omega) (by omega)
      refine lv_goto (tgt := 2) hx hb dX12_passes_65 (by decide +kernel) ?_
      exact ih_2_4 (k2_2 + 1) ls H locs (show Int.toNat (6 - (k2_2 + 1).toInt) < Int.toNat (6 - k2_2.toInt) from g_up (show k2_2.toInt < (k2_2 + 1).toInt by omega) (show k2_2.toInt < 6 by omega)) ⟨lv_sub hl [0, 1, 2] rfl, hP.sub [2, 3, 0, 1] rfl, hD.sub [2, 3, 0, 1] (by decide +kernel) rfl, hS, ⟨by omega, by omega⟩, by omega, gla_n i_3 (by omega) (by omega) (by rw [show 80 + 5 * k2_2.toInt.toNat = 80 + 5 * k2_2.toInt.toNat + 0 by omega, ← i_51]; exact fun q9 => by have q8 := congrArg Int32.toInt q9; unfold gNe at *; omega)⟩
    ·
      have i_54 : z52.toInt = u_ce.toInt := g5_neN (a := z52.toInt) (b := u_ce.toInt) rfl rfl c_54
      have hGF : glassF v_ro u_ce = k2_2 := gla_y i_3 (by omega) (by rw [show 80 + 5 * k2_2.toInt.toNat = 80 + 5 * k2_2.toInt.toNat + 0 by omega, ← i_51]; exact Int32.toInt_inj.mp (by omega))
      refine lv_aload_n hx hb dX12_passes_25 rfl (lv_at hl 1 rfl) ?_
      refine lv_iload_n hx hb dX12_passes_26 rfl (lv_at hl 0 rfl) ?_
      refine lv_aload_n hx hb dX12_passes_27 rfl (lv_at hl 1 rfl) ?_
      refine lv_iload_n hx hb dX12_passes_28 rfl (lv_at hl 0 rfl) ?_
      refine W.eq (g2 := F0 m 29 ls [.int k2_2, .ref b_o, .int k2_2, .ref b_o]) rfl ?_
      refine lv_iconst (v := 1) hx hb dX12_passes_29 (by decide +kernel) ?_
      obtain ⟨hPc, hDc, hFc⟩ := g5_sub3 (wc := [(b_o, (oc12 u_th u_sa b_rf b_ro b_im b_ke u_fd b_tp u_td u_fr u_to u_so u_wo u_fa u_bd u_nc b_nl u_co b_op b_ar u_le b_pi b_pa u_pd u_od b_ws b_hw u_la b_se b_re u_bk u_va u_su u_ce u_ho u_wy u_bt u_ps b_pt u_tg u_sn b_ip u_ic b_ah b_be b_me u_wd b_tr b_ld u_st b_wn u_id)), (b_ro, (arI G 5740 v_ro))]) hP hD hS hA [2, 3] (by decide +kernel) rfl
      refine va_calli (va_runV (As := [.int k2_2, .int 1]) (rest := [.int k2_2, .ref b_o]) ⟨hx, hb, hml, hown, hts⟩ (n_glX1 l G b_o b_ro b_rf b_im b_ke b_tp b_nl b_op b_ar b_pi b_pa b_ws b_hw b_se b_re b_pt b_ip b_ah b_be b_me b_tr b_ld b_wn H.size u_th u_sa u_fd u_td u_fr u_to u_so u_fa u_bd u_nc u_co u_le u_pd u_od u_la u_bk u_ce u_ho u_wy u_bt u_ps u_tg u_sn u_ic u_wd u_id k2_2 u_wo u_va u_su u_st v_ro h_u_td h_u_fr h_u_to h_u_bd h_u_nc h_u_co h_u_pd h_u_la h_u_bk h_u_ce h_u_ho h_u_wy h_u_bt h_u_ps h_u_ic h_u_id ⟨by omega, by omega⟩ (r_ro)) (cwV 2 hts gV_X12_134 rfl rfl rfl hv_X12_ofGlass ⟨Nat.le_of_ble_eq_true rfl, Nat.le_of_ble_eq_true rfl⟩) (g5_preV hPc hK hDc hN hT hS hFc (ci := 12) (q0 := 0) rfl rfl) rfl rfl hl.1 rfl (lv_room (Nat.le_of_ble_eq_true rfl)) dX12_passes_30 ⟨Nat.le_of_ble_eq_true rfl, Nat.le_of_ble_eq_true rfl⟩) hS (fun q _ h => hFc q h) hFc (fun r u t H locs ht hvm hw hB hz1 hk1 hS => ?_)
      obtain ⟨hP1, hD1⟩ := hB
      have hP1 := g5_ht ht hP1
      obtain ⟨z58, (i_56 : 0 ≤ z58.toInt ∧ z58.toInt ≤ 5), (i_57 : z58 = v_ro (80 + 5 * k2_2.toInt.toNat + 1)), y59, rfl⟩ := hw
      have hJ9 := va_join (wr := [(b_se, (arJ G 13 v_se)), (b_re, (arJ G 400 v_re))]) hP hD [2, 3] [0, 1] rfl rfl (by decide +kernel) (by decide +kernel) hk1 hFc hP1 hD1
      clear hP hD hPc hDc hFc ht hvm hz1 hk1 hP1 hD1
      obtain ⟨hP, hD⟩ := hJ9
      refine g5_rs [(b_se, (arJ G 13 v_se)), (b_re, (arJ G 400 v_re)), (b_o, (oc12 u_th u_sa b_rf b_ro b_im b_ke u_fd b_tp u_td u_fr u_to u_so u_wo u_fa u_bd u_nc b_nl u_co b_op b_ar u_le b_pi b_pa u_pd u_od b_ws b_hw u_la b_se b_re u_bk u_va u_su u_ce u_ho u_wy u_bt u_ps b_pt u_tg u_sn b_ip u_ic b_ah b_be b_me u_wd b_tr b_ld u_st b_wn u_id)), (b_ro, (arI G 5740 v_ro))] hP hD ?_
      clear hP hD
      intro hP hD
      refine g5_ti (v := z58) y59 ?_
      refine lv_aload_n hx hb dX12_passes_33 rfl (lv_at hl 1 rfl) ?_
      refine lv_iload_n hx hb dX12_passes_34 rfl (lv_at hl 0 rfl) ?_
      refine lv_iconst (v := 2) hx hb dX12_passes_35 (by decide +kernel) ?_
      refine W.eq (g2 := F0 m 36 ls [.int 2, .int k2_2, .ref b_o, .int z58, .int k2_2, .ref b_o]) rfl ?_
      obtain ⟨hPc, hDc, hFc⟩ := g5_sub3 (wc := [(b_o, (oc12 u_th u_sa b_rf b_ro b_im b_ke u_fd b_tp u_td u_fr u_to u_so u_wo u_fa u_bd u_nc b_nl u_co b_op b_ar u_le b_pi b_pa u_pd u_od b_ws b_hw u_la b_se b_re u_bk u_va u_su u_ce u_ho u_wy u_bt u_ps b_pt u_tg u_sn b_ip u_ic b_ah b_be b_me u_wd b_tr b_ld u_st b_wn u_id)), (b_ro, (arI G 5740 v_ro))]) hP hD hS hA [2, 3] (by decide +kernel) rfl
      refine va_calli (va_runV (As := [.int k2_2, .int 2]) (rest := [.int z58, .int k2_2, .ref b_o]) ⟨hx, hb, hml, hown, hts⟩ (n_glX2 l G b_o b_ro b_rf b_im b_ke b_tp b_nl b_op b_ar b_pi b_pa b_ws b_hw b_se b_re b_pt b_ip b_ah b_be b_me b_tr b_ld b_wn H.size u_th u_sa u_fd u_td u_fr u_to u_so u_fa u_bd u_nc u_co u_le u_pd u_od u_la u_bk u_ce u_ho u_wy u_bt u_ps u_tg u_sn u_ic u_wd u_id k2_2 u_wo u_va u_su u_st v_ro h_u_td h_u_fr h_u_to h_u_bd h_u_nc h_u_co h_u_pd h_u_la h_u_bk h_u_ce h_u_ho h_u_wy h_u_bt h_u_ps h_u_ic h_u_id ⟨by omega, by omega⟩ (r_ro)) (cwV 2 hts gV_X12_134 rfl rfl rfl hv_X12_ofGlass ⟨Nat.le_of_ble_eq_true rfl, Nat.le_of_ble_eq_true rfl⟩) (g5_preV hPc hK hDc hN hT hS hFc (ci := 12) (q0 := 0) rfl rfl) rfl rfl hl.1 rfl (lv_room (Nat.le_of_ble_eq_true rfl)) dX12_passes_36 ⟨Nat.le_of_ble_eq_true rfl, Nat.le_of_ble_eq_true rfl⟩) hS (fun q _ h => hFc q h) hFc (fun r u t H locs ht hvm hw hB hz1 hk1 hS => ?_)
      obtain ⟨hP1, hD1⟩ := hB
      have hP1 := g5_ht ht hP1
      obtain ⟨z62, (i_60 : 0 ≤ z62.toInt ∧ z62.toInt ≤ 23), (i_61 : z62 = v_ro (80 + 5 * k2_2.toInt.toNat + 2)), y63, rfl⟩ := hw
      have hJ9 := va_join (wr := [(b_se, (arJ G 13 v_se)), (b_re, (arJ G 400 v_re))]) hP hD [2, 3] [0, 1] rfl rfl (by decide +kernel) (by decide +kernel) hk1 hFc hP1 hD1
      clear hP hD hPc hDc hFc ht hvm hz1 hk1 hP1 hD1
      obtain ⟨hP, hD⟩ := hJ9
      refine g5_rs [(b_se, (arJ G 13 v_se)), (b_re, (arJ G 400 v_re)), (b_o, (oc12 u_th u_sa b_rf b_ro b_im b_ke u_fd b_tp u_td u_fr u_to u_so u_wo u_fa u_bd u_nc b_nl u_co b_op b_ar u_le b_pi b_pa u_pd u_od b_ws b_hw u_la b_se b_re u_bk u_va u_su u_ce u_ho u_wy u_bt u_ps b_pt u_tg u_sn b_ip u_ic b_ah b_be b_me u_wd b_tr b_ld u_st b_wn u_id)), (b_ro, (arI G 5740 v_ro))] hP hD ?_
      clear hP hD
      intro hP hD
      refine g5_ti (v := z62) y63 ?_
      refine lv_aload_n hx hb dX12_passes_39 rfl (lv_at hl 1 rfl) ?_
      refine lv_iload_n hx hb dX12_passes_40 rfl (lv_at hl 0 rfl) ?_
      refine lv_iconst (v := 3) hx hb dX12_passes_41 (by decide +kernel) ?_
      obtain ⟨hPc, hDc, hFc⟩ := g5_sub3 (wc := [(b_o, (oc12 u_th u_sa b_rf b_ro b_im b_ke u_fd b_tp u_td u_fr u_to u_so u_wo u_fa u_bd u_nc b_nl u_co b_op b_ar u_le b_pi b_pa u_pd u_od b_ws b_hw u_la b_se b_re u_bk u_va u_su u_ce u_ho u_wy u_bt u_ps b_pt u_tg u_sn b_ip u_ic b_ah b_be b_me u_wd b_tr b_ld u_st b_wn u_id)), (b_ro, (arI G 5740 v_ro))]) hP hD hS hA [2, 3] (by decide +kernel) rfl
      refine va_calli (va_runV (As := [.int k2_2, .int 3]) (rest := [.int z62, .int z58, .int k2_2, .ref b_o]) ⟨hx, hb, hml, hown, hts⟩ (n_glX3 l G b_o b_ro b_rf b_im b_ke b_tp b_nl b_op b_ar b_pi b_pa b_ws b_hw b_se b_re b_pt b_ip b_ah b_be b_me b_tr b_ld b_wn H.size u_th u_sa u_fd u_td u_fr u_to u_so u_fa u_bd u_nc u_co u_le u_pd u_od u_la u_bk u_ce u_ho u_wy u_bt u_ps u_tg u_sn u_ic u_wd u_id k2_2 u_wo u_va u_su u_st v_ro h_u_td h_u_fr h_u_to h_u_bd h_u_nc h_u_co h_u_pd h_u_la h_u_bk h_u_ce h_u_ho h_u_wy h_u_bt h_u_ps h_u_ic h_u_id ⟨by omega, by omega⟩ (r_ro)) (cwV 2 hts gV_X12_134 rfl rfl rfl hv_X12_ofGlass ⟨Nat.le_of_ble_eq_true rfl, Nat.le_of_ble_eq_true rfl⟩) (g5_preV hPc hK hDc hN hT hS hFc (ci := 12) (q0 := 0) rfl rfl) rfl rfl hl.1 rfl (lv_room (Nat.le_of_ble_eq_true rfl)) dX12_passes_42 ⟨Nat.le_of_ble_eq_true rfl, Nat.le_of_ble_eq_true rfl⟩) hS (fun q _ h => hFc q h) hFc (fun r u t H locs ht hvm hw hB hz1 hk1 hS => ?_)
      obtain ⟨hP1, hD1⟩ := hB
      have hP1 := g5_ht ht hP1
      obtain ⟨z66, (i_64 : 0 ≤ z66.toInt ∧ z66.toInt ≤ 10), (i_65 : z66 = v_ro (80 + 5 * k2_2.toInt.toNat + 3)), y67, rfl⟩ := hw
      have hJ9 := va_join (wr := [(b_se, (arJ G 13 v_se)), (b_re, (arJ G 400 v_re))]) hP hD [2, 3] [0, 1] rfl rfl (by decide +kernel) (by decide +kernel) hk1 hFc hP1 hD1
      clear hP hD hPc hDc hFc ht hvm hz1 hk1 hP1 hD1
      obtain ⟨hP, hD⟩ := hJ9
      refine g5_rs [(b_se, (arJ G 13 v_se)), (b_re, (arJ G 400 v_re)), (b_o, (oc12 u_th u_sa b_rf b_ro b_im b_ke u_fd b_tp u_td u_fr u_to u_so u_wo u_fa u_bd u_nc b_nl u_co b_op b_ar u_le b_pi b_pa u_pd u_od b_ws b_hw u_la b_se b_re u_bk u_va u_su u_ce u_ho u_wy u_bt u_ps b_pt u_tg u_sn b_ip u_ic b_ah b_be b_me u_wd b_tr b_ld u_st b_wn u_id)), (b_ro, (arI G 5740 v_ro))] hP hD ?_
      clear hP hD
      intro hP hD
      refine g5_ti (v := z66) y67 ?_
      refine W.eq (g2 := F0 m 45 ls [.int z66, .int z62, .int z58, .int k2_2, .ref b_o]) rfl ?_
      refine lv_aload_n hx hb dX12_passes_45 rfl (lv_at hl 1 rfl) ?_
      refine lv_iload_n hx hb dX12_passes_46 rfl (lv_at hl 0 rfl) ?_
      refine lv_iconst (v := 4) hx hb dX12_passes_47 (by decide +kernel) ?_
      obtain ⟨hPc, hDc, hFc⟩ := g5_sub3 (wc := [(b_o, (oc12 u_th u_sa b_rf b_ro b_im b_ke u_fd b_tp u_td u_fr u_to u_so u_wo u_fa u_bd u_nc b_nl u_co b_op b_ar u_le b_pi b_pa u_pd u_od b_ws b_hw u_la b_se b_re u_bk u_va u_su u_ce u_ho u_wy u_bt u_ps b_pt u_tg u_sn b_ip u_ic b_ah b_be b_me u_wd b_tr b_ld u_st b_wn u_id)), (b_ro, (arI G 5740 v_ro))]) hP hD hS hA [2, 3] (by decide +kernel) rfl
      refine va_calli (va_runV (As := [.int k2_2, .int 4]) (rest := [.int z66, .int z62, .int z58, .int k2_2, .ref b_o]) ⟨hx, hb, hml, hown, hts⟩ (n_glX4 l G b_o b_ro b_rf b_im b_ke b_tp b_nl b_op b_ar b_pi b_pa b_ws b_hw b_se b_re b_pt b_ip b_ah b_be b_me b_tr b_ld b_wn H.size u_th u_sa u_fd u_td u_fr u_to u_so u_fa u_bd u_nc u_co u_le u_pd u_od u_la u_bk u_ce u_ho u_wy u_bt u_ps u_tg u_sn u_ic u_wd u_id k2_2 u_wo u_va u_su u_st v_ro h_u_td h_u_fr h_u_to h_u_bd h_u_nc h_u_co h_u_pd h_u_la h_u_bk h_u_ce h_u_ho h_u_wy h_u_bt h_u_ps h_u_ic h_u_id ⟨by omega, by omega⟩ (r_ro)) (cwV 2 hts gV_X12_134 rfl rfl rfl hv_X12_ofGlass ⟨Nat.le_of_ble_eq_true rfl, Nat.le_of_ble_eq_true rfl⟩) (g5_preV hPc hK hDc hN hT hS hFc (ci := 12) (q0 := 0) rfl rfl) rfl rfl hl.1 rfl (lv_room (Nat.le_of_ble_eq_true rfl)) dX12_passes_48 ⟨Nat.le_of_ble_eq_true rfl, Nat.le_of_ble_eq_true rfl⟩) hS (fun q _ h => hFc q h) hFc (fun r u t H locs ht hvm hw hB hz1 hk1 hS => ?_)
      obtain ⟨hP1, hD1⟩ := hB
      have hP1 := g5_ht ht hP1
      obtain ⟨z69, (i_68 : z69 = v_ro (80 + 5 * k2_2.toInt.toNat + 4)), y70, rfl⟩ := hw
      have hJ9 := va_join (wr := [(b_se, (arJ G 13 v_se)), (b_re, (arJ G 400 v_re))]) hP hD [2, 3] [0, 1] rfl rfl (by decide +kernel) (by decide +kernel) hk1 hFc hP1 hD1
      clear hP hD hPc hDc hFc ht hvm hz1 hk1 hP1 hD1
      obtain ⟨hP, hD⟩ := hJ9
      refine g5_rs [(b_se, (arJ G 13 v_se)), (b_re, (arJ G 400 v_re)), (b_o, (oc12 u_th u_sa b_rf b_ro b_im b_ke u_fd b_tp u_td u_fr u_to u_so u_wo u_fa u_bd u_nc b_nl u_co b_op b_ar u_le b_pi b_pa u_pd u_od b_ws b_hw u_la b_se b_re u_bk u_va u_su u_ce u_ho u_wy u_bt u_ps b_pt u_tg u_sn b_ip u_ic b_ah b_be b_me u_wd b_tr b_ld u_st b_wn u_id)), (b_ro, (arI G 5740 v_ro))] hP hD ?_
      clear hP hD
      intro hP hD
      refine g5_ti (v := z69) y70 ?_
      refine lv_aload_n hx hb dX12_passes_51 rfl (lv_at hl 1 rfl) ?_
      refine W.eq (g2 := F0 m 52 ls [.ref b_o, .int z69, .int z66, .int z62, .int z58, .int k2_2, .ref b_o]) rfl ?_
      refine va_get (D := G.1) (ci := 12) (v := .int u_ho) (C := RX12) (T := TX12) (N := 52) hx hb hts inG_X12 hown hK hP 2 rfl rfl 34 (by decide +kernel) (hts _ fl_X12_352) (fun _ h9 => h9) rfl dX12_passes_52 ?_
      obtain ⟨hPc, hDc, hFc⟩ := g5_sub3 (wc := []) hP hD hS hA [] (by decide +kernel) rfl
      refine va_calli (va_runS (As := [.int z69, .int u_ho]) (rest := [.int z66, .int z62, .int z58, .int k2_2, .ref b_o]) ⟨hx, hb, hml, hown, hts⟩ (n_isX l G H.size z69 u_ho) (va_cwS 2 hts gS_X12_387 rfl rfl rfl hs_X12_is ⟨Nat.le_of_ble_eq_true rfl, Nat.le_of_ble_eq_true rfl⟩) (g5_preS hPc hK hDc hN hT hS hFc) rfl rfl hl.1 rfl (lv_room (Nat.le_of_ble_eq_true rfl)) dX12_passes_55 ⟨Nat.le_of_ble_eq_true rfl, Nat.le_of_ble_eq_true rfl⟩) hS (fun q _ h => hFc q h) hFc (fun r u t H locs ht hvm hw hB hz1 hk1 hS => ?_)
      obtain ⟨hP1, hD1⟩ := hB
      have hP1 := g5_ht ht hP1
      rcases hw with ⟨(i_71 : isQ z69 u_ho), rfl, rfl⟩ | ⟨(i_72 : ¬ isQ z69 u_ho), rfl, rfl⟩
      ·
        have hJ9 := g5_same hP hk1
        clear hP hPc hDc hFc ht hvm hz1 hk1 hP1 hD1
        have hP := hJ9
        clear hJ9
        have hcv : ((1 : Int32).toInt ≠ 0) ↔ isQ z69 u_ho := ⟨fun _ => i_71, fun _ => by decide⟩
        obtain ⟨hPc, hDc, hFc⟩ := g5_sub3 (wc := [(b_o, (oc12 u_th u_sa b_rf b_ro b_im b_ke u_fd b_tp u_td u_fr u_to u_so u_wo u_fa u_bd u_nc b_nl u_co b_op b_ar u_le b_pi b_pa u_pd u_od b_ws b_hw u_la b_se b_re u_bk u_va u_su u_ce u_ho u_wy u_bt u_ps b_pt u_tg u_sn b_ip u_ic b_ah b_be b_me u_wd b_tr b_ld u_st b_wn u_id)), (b_ro, (arI G 5740 v_ro)), (b_se, (arJ G 13 v_se)), (b_re, (arJ G 400 v_re))]) hP hD hS hA [2, 3, 0, 1] (by decide +kernel) rfl
        refine va_calli (va_runV (As := [.int k2_2, .int z58, .int z62, .int z66, .int 1]) (rest := []) ⟨hx, hb, hml, hown, hts⟩ (n_turnsX l G b_o b_ro b_se b_re b_rf b_im b_ke b_tp b_nl b_op b_ar b_pi b_pa b_ws b_hw b_pt b_ip b_ah b_be b_me b_tr b_ld b_wn H.size u_th u_sa u_fd u_td u_fr u_to u_so u_fa u_bd u_nc u_co u_le u_pd u_od u_la u_bk u_ce u_ho u_wy u_bt u_ps u_tg u_sn u_ic u_wd u_id k2_2 z58 z62 z66 1 u_wo u_va u_su u_st v_ro v_se v_re g_w h_u_td h_u_fr h_u_to h_u_bd h_u_nc h_u_co h_u_pd h_u_la h_u_bk h_u_ce h_u_ho h_u_wy h_u_bt h_u_ps h_u_ic h_u_id i_56 i_60 i_64 ⟨by decide, by decide⟩ (r_ro) (e_mf)) (cwV 5 hts gV_X12_390 rfl rfl rfl hv_X12_turns ⟨Nat.le_of_ble_eq_true rfl, Nat.le_of_ble_eq_true rfl⟩) (g5_preV hPc hK hDc hN hT hS hFc (ci := 12) (q0 := 0) rfl rfl) rfl rfl hl.1 rfl (lv_room (Nat.le_of_ble_eq_true rfl)) dX12_passes_58 ⟨Nat.le_of_ble_eq_true rfl, Nat.le_of_ble_eq_true rfl⟩) hS (fun q _ h => hFc q h) hFc (fun r u t H locs ht hvm hw hB hz1 hk1 hS => ?_)
        obtain ⟨hP1, hD1⟩ := hB
        have hP1 := g5_ht ht hP1
        obtain ⟨z80, z81, z82, z83, z84, z85, z86, z87, z88, z89, z90, (i_73 : 0 ≤ z80.toInt ∧ z80.toInt ≤ 1), (i_74 : 0 ≤ z81.toInt ∧ z81.toInt ≤ 4840), (i_75 : 0 ≤ z82.toInt ∧ z82.toInt ≤ 1), (i_76 : 0 ≤ z85.toInt ∧ z85.toInt ≤ 23), (i_77 : 0 ≤ z86.toInt ∧ z86.toInt ≤ 3), (i_78 : 0 ≤ z87.toInt ∧ z87.toInt ≤ 1000000), (i_79 : (z80.toInt = 0 ∧ (turnF g_w k2_2 z58 z62 z66 ((1 : Int32).toInt ≠ 0) (v_ro 4) u_ce u_wy u_ho u_bt u_tg u_ps).1 = false ∧ (turnF g_w k2_2 z58 z62 z66 ((1 : Int32).toInt ≠ 0) (v_ro 4) u_ce u_wy u_ho u_bt u_tg u_ps).2.2.2.1 = z87 ∧ (turnF g_w k2_2 z58 z62 z66 ((1 : Int32).toInt ≠ 0) (v_ro 4) u_ce u_wy u_ho u_bt u_tg u_ps).2.2.2.2 = z88) ∨ (z80.toInt = 1 ∧ turnF g_w k2_2 z58 z62 z66 ((1 : Int32).toInt ≠ 0) (v_ro 4) u_ce u_wy u_ho u_bt u_tg u_ps = (true, z86, z85, z87, z88))), y91, rfl⟩ := hw
        have hJ9 := va_join (wr := []) hP hD [2, 3, 0, 1] [] rfl rfl (by decide +kernel) (by decide +kernel) hk1 hFc hP1 hD1
        clear hP hD hPc hDc hFc ht hvm hz1 hk1 hP1 hD1
        obtain ⟨hP, hD⟩ := hJ9
        refine g5_rs [(b_o, (oc12 u_th u_sa b_rf b_ro b_im b_ke u_fd b_tp u_td u_fr u_to u_so u_wo u_fa u_bd u_nc b_nl u_co b_op b_ar u_le b_pi b_pa u_pd u_od b_ws b_hw z81 b_se b_re z82 z83 z84 u_ce z85 z86 z87 u_ps b_pt z88 u_sn b_ip u_ic b_ah b_be b_me u_wd b_tr b_ld u_st b_wn u_id)), (b_ro, (arI G 5740 v_ro)), (b_se, (arJ G 13 z89)), (b_re, (arJ G 400 z90))] hP hD ?_
        clear hP hD
        intro hP hD
        refine g5_ti (v := z80) y91 ?_
        exact W.zret (v := z80) hx hb hr (g_nb (by omega) (by omega)) (fun t ht hW => ⟨⟨z80, [(b_o, (oc12 u_th u_sa b_rf b_ro b_im b_ke u_fd b_tp u_td u_fr u_to u_so u_wo u_fa u_bd u_nc b_nl u_co b_op b_ar u_le b_pi b_pa u_pd u_od b_ws b_hw z81 b_se b_re z82 z83 z84 u_ce z85 z86 z87 u_ps b_pt z88 u_sn b_ip u_ic b_ah b_be b_me u_wd b_tr b_ld u_st b_wn u_id)), (b_ro, (arI G 5740 v_ro)), (b_se, (arJ G 13 z89)), (b_re, (arJ G 400 z90))], rfl, ⟨z80, z81, z82, z83, z84, z85, z86, z87, z88, z89, z90, i_73, i_74, i_75, i_76, i_77, i_78, by have hM9 : meetF v_ro g_w p_1 u_ce u_wy u_ho u_bt u_tg u_ps = (turnF g_w k2_2 z58 z62 z66 ((1 : Int32).toInt ≠ 0) (v_ro 4) u_ce u_wy u_ho u_bt u_tg u_ps) := (met_c hGF (by omega) i_57.symm i_61.symm i_65.symm i_68.symm rfl).trans (turn_cov hcv).symm; rw [hM9]; exact i_79, rfl, rfl⟩, by rw [ht]; exact hP.sub [0, 1, 2, 3] rfl, hD.sub [0, 1, 2, 3] (by decide +kernel) rfl⟩, hS.F ht⟩) hS.2.2 dX12_passes_61
      ·
        have hJ9 := g5_same hP hk1
        clear hP hPc hDc hFc ht hvm hz1 hk1 hP1 hD1
        have hP := hJ9
        clear hJ9
        have hcv : ((0 : Int32).toInt ≠ 0) ↔ isQ z69 u_ho := ⟨fun q9 => absurd (by decide +kernel) q9, fun q9 => absurd q9 i_72⟩
        obtain ⟨hPc, hDc, hFc⟩ := g5_sub3 (wc := [(b_o, (oc12 u_th u_sa b_rf b_ro b_im b_ke u_fd b_tp u_td u_fr u_to u_so u_wo u_fa u_bd u_nc b_nl u_co b_op b_ar u_le b_pi b_pa u_pd u_od b_ws b_hw u_la b_se b_re u_bk u_va u_su u_ce u_ho u_wy u_bt u_ps b_pt u_tg u_sn b_ip u_ic b_ah b_be b_me u_wd b_tr b_ld u_st b_wn u_id)), (b_ro, (arI G 5740 v_ro)), (b_se, (arJ G 13 v_se)), (b_re, (arJ G 400 v_re))]) hP hD hS hA [2, 3, 0, 1] (by decide +kernel) rfl
        refine va_calli (va_runV (As := [.int k2_2, .int z58, .int z62, .int z66, .int 0]) (rest := []) ⟨hx, hb, hml, hown, hts⟩ (n_turnsX l G b_o b_ro b_se b_re b_rf b_im b_ke b_tp b_nl b_op b_ar b_pi b_pa b_ws b_hw b_pt b_ip b_ah b_be b_me b_tr b_ld b_wn H.size u_th u_sa u_fd u_td u_fr u_to u_so u_fa u_bd u_nc u_co u_le u_pd u_od u_la u_bk u_ce u_ho u_wy u_bt u_ps u_tg u_sn u_ic u_wd u_id k2_2 z58 z62 z66 0 u_wo u_va u_su u_st v_ro v_se v_re g_w h_u_td h_u_fr h_u_to h_u_bd h_u_nc h_u_co h_u_pd h_u_la h_u_bk h_u_ce h_u_ho h_u_wy h_u_bt h_u_ps h_u_ic h_u_id i_56 i_60 i_64 ⟨by decide, by decide⟩ (r_ro) (e_mf)) (cwV 5 hts gV_X12_390 rfl rfl rfl hv_X12_turns ⟨Nat.le_of_ble_eq_true rfl, Nat.le_of_ble_eq_true rfl⟩) (g5_preV hPc hK hDc hN hT hS hFc (ci := 12) (q0 := 0) rfl rfl) rfl rfl hl.1 rfl (lv_room (Nat.le_of_ble_eq_true rfl)) dX12_passes_58 ⟨Nat.le_of_ble_eq_true rfl, Nat.le_of_ble_eq_true rfl⟩) hS (fun q _ h => hFc q h) hFc (fun r u t H locs ht hvm hw hB hz1 hk1 hS => ?_)
        obtain ⟨hP1, hD1⟩ := hB
        have hP1 := g5_ht ht hP1
        obtain ⟨z99, z100, z101, z102, z103, z104, z105, z106, z107, z108, z109, (i_92 : 0 ≤ z99.toInt ∧ z99.toInt ≤ 1), (i_93 : 0 ≤ z100.toInt ∧ z100.toInt ≤ 4840), (i_94 : 0 ≤ z101.toInt ∧ z101.toInt ≤ 1), (i_95 : 0 ≤ z104.toInt ∧ z104.toInt ≤ 23), (i_96 : 0 ≤ z105.toInt ∧ z105.toInt ≤ 3), (i_97 : 0 ≤ z106.toInt ∧ z106.toInt ≤ 1000000), (i_98 : (z99.toInt = 0 ∧ (turnF g_w k2_2 z58 z62 z66 ((0 : Int32).toInt ≠ 0) (v_ro 4) u_ce u_wy u_ho u_bt u_tg u_ps).1 = false ∧ (turnF g_w k2_2 z58 z62 z66 ((0 : Int32).toInt ≠ 0) (v_ro 4) u_ce u_wy u_ho u_bt u_tg u_ps).2.2.2.1 = z106 ∧ (turnF g_w k2_2 z58 z62 z66 ((0 : Int32).toInt ≠ 0) (v_ro 4) u_ce u_wy u_ho u_bt u_tg u_ps).2.2.2.2 = z107) ∨ (z99.toInt = 1 ∧ turnF g_w k2_2 z58 z62 z66 ((0 : Int32).toInt ≠ 0) (v_ro 4) u_ce u_wy u_ho u_bt u_tg u_ps = (true, z105, z104, z106, z107))), y110, rfl⟩ := hw
        have hJ9 := va_join (wr := []) hP hD [2, 3, 0, 1] [] rfl rfl (by decide +kernel) (by decide +kernel) hk1 hFc hP1 hD1
        clear hP hD hPc hDc hFc ht hvm hz1 hk1 hP1 hD1
        obtain ⟨hP, hD⟩ := hJ9
        refine g5_rs [(b_o, (oc12 u_th u_sa b_rf b_ro b_im b_ke u_fd b_tp u_td u_fr u_to u_so u_wo u_fa u_bd u_nc b_nl u_co b_op b_ar u_le b_pi b_pa u_pd u_od b_ws b_hw z100 b_se b_re z101 z102 z103 u_ce z104 z105 z106 u_ps b_pt z107 u_sn b_ip u_ic b_ah b_be b_me u_wd b_tr b_ld u_st b_wn u_id)), (b_ro, (arI G 5740 v_ro)), (b_se, (arJ G 13 z108)), (b_re, (arJ G 400 z109))] hP hD ?_
        clear hP hD
        intro hP hD
        refine g5_ti (v := z99) y110 ?_
        exact W.zret (v := z99) hx hb hr (g_nb (by omega) (by omega)) (fun t ht hW => ⟨⟨z99, [(b_o, (oc12 u_th u_sa b_rf b_ro b_im b_ke u_fd b_tp u_td u_fr u_to u_so u_wo u_fa u_bd u_nc b_nl u_co b_op b_ar u_le b_pi b_pa u_pd u_od b_ws b_hw z100 b_se b_re z101 z102 z103 u_ce z104 z105 z106 u_ps b_pt z107 u_sn b_ip u_ic b_ah b_be b_me u_wd b_tr b_ld u_st b_wn u_id)), (b_ro, (arI G 5740 v_ro)), (b_se, (arJ G 13 z108)), (b_re, (arJ G 400 z109))], rfl, ⟨z99, z100, z101, z102, z103, z104, z105, z106, z107, z108, z109, i_92, i_93, i_94, i_95, i_96, i_97, by have hM9 : meetF v_ro g_w p_1 u_ce u_wy u_ho u_bt u_tg u_ps = (turnF g_w k2_2 z58 z62 z66 ((0 : Int32).toInt ≠ 0) (v_ro 4) u_ce u_wy u_ho u_bt u_tg u_ps) := (met_c hGF (by omega) i_57.symm i_61.symm i_65.symm i_68.symm rfl).trans (turn_cov hcv).symm; rw [hM9]; exact i_98, rfl, rfl⟩, by rw [ht]; exact hP.sub [0, 1, 2, 3] rfl, hD.sub [0, 1, 2, 3] (by decide +kernel) rfl⟩, hS.F ht⟩) hS.2.2 dX12_passes_61
set_option maxHeartbeats 4000000 in
set_option maxRecDepth 100000 in
theorem n_goX (l : Launch) (G : g5_G) (b_o b_ro b_se b_re b_pt b_rf b_im b_ke b_tp b_nl b_op b_ar b_pi b_pa b_ws b_hw b_ip b_ah b_be b_me b_tr b_ld b_wn : Nat) (sz : Nat) (u_th : Int32) (u_sa : Int32) (u_fd : Int32) (u_td : Int32) (u_fr : Int32) (u_to : Int32) (u_so : Int32) (u_fa : Int32) (u_bd : Int32) (u_nc : Int32) (u_co : Int32) (u_le : Int32) (u_pd : Int32) (u_od : Int32) (u_la : Int32) (u_bk : Int32) (u_ce : Int32) (u_ho : Int32) (u_wy : Int32) (u_bt : Int32) (u_ps : Int32) (u_tg : Int32) (u_sn : Int32) (u_ic : Int32) (u_wd : Int32) (u_id : Int32) (p_1 : Int32) (p_2 : Int32) (p_3 : Int32) (p_4 : Int32) (u_wo : Int64) (u_va : Int64) (u_su : Int64) (u_st : Int64) (v_ro : Nat → Int32) (v_se : Nat → Int64) (v_re : Nat → Int64) (v_pt : Nat → Int32) (g_w : Option (List CLT)) (h_u_td : 0 ≤ u_td.toInt ∧ u_td.toInt ≤ 400) (h_u_fr : 0 ≤ u_fr.toInt ∧ u_fr.toInt ≤ 400) (h_u_to : 0 ≤ u_to.toInt ∧ u_to.toInt ≤ 400) (h_u_bd : 0 ≤ u_bd.toInt ∧ u_bd.toInt ≤ 1) (h_u_nc : 0 ≤ u_nc.toInt ∧ u_nc.toInt ≤ 12) (h_u_co : 0 ≤ u_co.toInt ∧ u_co.toInt ≤ 400) (h_u_pd : 0 ≤ u_pd.toInt ∧ u_pd.toInt ≤ 400) (h_u_la : 0 ≤ u_la.toInt ∧ u_la.toInt ≤ 4840) (h_u_bk : 0 ≤ u_bk.toInt ∧ u_bk.toInt ≤ 1) (h_u_ce : 0 ≤ u_ce.toInt ∧ u_ce.toInt ≤ 63) (h_u_ho : 0 ≤ u_ho.toInt ∧ u_ho.toInt ≤ 23) (h_u_wy : 0 ≤ u_wy.toInt ∧ u_wy.toInt ≤ 3) (h_u_bt : 0 ≤ u_bt.toInt ∧ u_bt.toInt ≤ 1000000) (h_u_ps : 0 ≤ u_ps.toInt ∧ u_ps.toInt ≤ 200) (h_u_ic : 0 ≤ u_ic.toInt ∧ u_ic.toInt ≤ 1) (h_u_id : 0 ≤ u_id.toInt ∧ u_id.toInt ≤ 1) (h_p_1 : 0 ≤ p_1.toInt ∧ p_1.toInt ≤ 63) (h_p_2 : 0 ≤ p_2.toInt ∧ p_2.toInt ≤ 3) (h_p_3 : 0 ≤ p_3.toInt ∧ p_3.toInt ≤ 23) (r_ro : MI v_ro) (r_pt : PTI v_pt) (e_mf : MLF v_ro g_w) : Met l yX12_go (wsG yX12_go cX12_go 7 none) ({ frames := 6, cells := 0, slots := 0, locals := 150 }) (va_Pc [.ref b_o, .int p_1, .int p_2, .int p_3, .int p_4] (g5_P G [(b_o, (oc12 u_th u_sa b_rf b_ro b_im b_ke u_fd b_tp u_td u_fr u_to u_so u_wo u_fa u_bd u_nc b_nl u_co b_op b_ar u_le b_pi b_pa u_pd u_od b_ws b_hw u_la b_se b_re u_bk u_va u_su u_ce u_ho u_wy u_bt u_ps b_pt u_tg u_sn b_ip u_ic b_ah b_be b_me u_wd b_tr b_ld u_st b_wn u_id)), (b_ro, (arI G 5740 v_ro)), (b_se, (arJ G 13 v_se)), (b_re, (arJ G 400 v_re)), (b_pt, (arI G 200 v_pt))] sz)) (va_Qv (fun (u : va_W) => (∃ (o_la : Int32) (o_bk : Int32) (o_va : Int64) (o_su : Int64) (o_ce : Int32) (o_ho : Int32) (o_wy : Int32) (o_bt : Int32) (o_ps : Int32) (o_tg : Int32) (o_sn : Int32) (o_se : Nat → Int64) (o_re : Nat → Int64) (o_pt : Nat → Int32), (0 ≤ o_la.toInt ∧ o_la.toInt ≤ 4840) ∧ (0 ≤ o_bk.toInt ∧ o_bk.toInt ≤ 1) ∧ (0 ≤ o_ce.toInt ∧ o_ce.toInt ≤ 63) ∧ (0 ≤ o_ho.toInt ∧ o_ho.toInt ≤ 23) ∧ (0 ≤ o_wy.toInt ∧ o_wy.toInt ≤ 3) ∧ (0 ≤ o_bt.toInt ∧ o_bt.toInt ≤ 1000000) ∧ (0 ≤ o_ps.toInt ∧ o_ps.toInt ≤ 200) ∧ (PTI o_pt) ∧ (LKR v_ro g_w p_4 p_1 p_2 p_3 o_sn o_ps o_bt o_tg o_pt) ∧ (u = [(b_o, (oc12 u_th u_sa b_rf b_ro b_im b_ke u_fd b_tp u_td u_fr u_to u_so u_wo u_fa u_bd u_nc b_nl u_co b_op b_ar u_le b_pi b_pa u_pd u_od b_ws b_hw o_la b_se b_re o_bk o_va o_su o_ce o_ho o_wy o_bt o_ps b_pt o_tg o_sn b_ip u_ic b_ah b_be b_me u_wd b_tr b_ld u_st b_wn u_id)), (b_ro, (arI G 5740 v_ro)), (b_se, (arJ G 13 o_se)), (b_re, (arJ G 400 o_re)), (b_pt, (arI G 200 o_pt))]))) (g5_B G (va_A [(b_o, (oc12 u_th u_sa b_rf b_ro b_im b_ke u_fd b_tp u_td u_fr u_to u_so u_wo u_fa u_bd u_nc b_nl u_co b_op b_ar u_le b_pi b_pa u_pd u_od b_ws b_hw u_la b_se b_re u_bk u_va u_su u_ce u_ho u_wy u_bt u_ps b_pt u_tg u_sn b_ip u_ic b_ah b_be b_me u_wd b_tr b_ld u_st b_wn u_id)), (b_ro, (arI G 5740 v_ro)), (b_se, (arJ G 13 v_se)), (b_re, (arJ G 400 v_re)), (b_pt, (arI G 200 v_pt))] sz)) (va_A [(b_o, (oc12 u_th u_sa b_rf b_ro b_im b_ke u_fd b_tp u_td u_fr u_to u_so u_wo u_fa u_bd u_nc b_nl u_co b_op b_ar u_le b_pi b_pa u_pd u_od b_ws b_hw u_la b_se b_re u_bk u_va u_su u_ce u_ho u_wy u_bt u_ps b_pt u_tg u_sn b_ip u_ic b_ah b_be b_me u_wd b_tr b_ld u_st b_wn u_id)), (b_ro, (arI G 5740 v_ro)), (b_se, (arJ G 13 v_se)), (b_re, (arJ G 400 v_re)), (b_pt, (arI G 200 v_pt))] sz)) 0 0 (va_A [(b_o, (oc12 u_th u_sa b_rf b_ro b_im b_ke u_fd b_tp u_td u_fr u_to u_so u_wo u_fa u_bd u_nc b_nl u_co b_op b_ar u_le b_pi b_pa u_pd u_od b_ws b_hw u_la b_se b_re u_bk u_va u_su u_ce u_ho u_wy u_bt u_ps b_pt u_tg u_sn b_ip u_ic b_ah b_be b_me u_wd b_tr b_ld u_st b_wn u_id)), (b_ro, (arI G 5740 v_ro)), (b_se, (arJ G 13 v_se)), (b_re, (arJ G 400 v_re)), (b_pt, (arI G 200 v_pt))] sz) := by
  refine Met.ofW (cc := cX12_go) (maxL := 7) (ret := none) (by decide +kernel) rfl ?_
  intro p e s m args below meth c s₁ B hml hv
  obtain ⟨rfl, hsz, hP, hK, hD0, hN, hT⟩ := hv
  have hx := B.exec
  have hb := B.bytes
  have hr := B.returns
  have hts : ∀ w ∈ tblG, w.before _ s = true := fun w h => atoms_spec (ws := (wsG yX12_go cX12_go 7 none)) B.pre w (List.mem_cons_of_mem _ h)
  have hown : s.vm.findClass RX12 = some m.cls := findClass_of_methodNamed B.named
  have hlocks := B.notSynchronized
  subst hsz
  have hD := hD0.self (sz := s.heap.size)
  generalize hAe : va_A [(b_o, (oc12 u_th u_sa b_rf b_ro b_im b_ke u_fd b_tp u_td u_fr u_to u_so u_wo u_fa u_bd u_nc b_nl u_co b_op b_ar u_le b_pi b_pa u_pd u_od b_ws b_hw u_la b_se b_re u_bk u_va u_su u_ce u_ho u_wy u_bt u_ps b_pt u_tg u_sn b_ip u_ic b_ah b_be b_me u_wd b_tr b_ld u_st b_wn u_id)), (b_ro, (arI G 5740 v_ro)), (b_se, (arJ G 13 v_se)), (b_re, (arJ G 400 v_re)), (b_pt, (arI G 200 v_pt))] s.heap.size = A at hD hT ⊢
  have hA : ∀ q : Nat, s.heap.size ≤ q → A q := fun q h => by rw [← hAe]; exact Or.inr h
  have hS : va_S A s.heap s.heap [] := va_S.rf
  replace hP : va_P G.1 vwCl [(b_o, (oc12 u_th u_sa b_rf b_ro b_im b_ke u_fd b_tp u_td u_fr u_to u_so u_wo u_fa u_bd u_nc b_nl u_co b_op b_ar u_le b_pi b_pa u_pd u_od b_ws b_hw u_la b_se b_re u_bk u_va u_su u_ce u_ho u_wy u_bt u_ps b_pt u_tg u_sn b_ip u_ic b_ah b_be b_me u_wd b_tr b_ld u_st b_wn u_id)), (b_ro, (arI G 5740 v_ro)), (b_se, (arJ G 13 v_se)), (b_re, (arJ G 400 v_re)), (b_pt, (arI G 200 v_pt))] s.heap := hP
  have hl := lv_entry ([.ref b_o, .int p_1, .int p_2, .int p_3, .int p_4]) (n := 7) (Nat.le_of_ble_eq_true rfl)
  rw [lg_entry_eq]
  generalize (lg_sl ([.ref b_o, .int p_1, .int p_2, .int p_3, .int p_4]) ++ List.replicate (7 - (lg_sl ([.ref b_o, .int p_1, .int p_2, .int p_3, .int p_4])).length) Slot.unset).toArray = ls at hl ⊢
  replace hl : lv_has ls 7 [(0, .ref b_o), (1, .int p_1), (2, .int p_2), (3, .int p_3), (4, .int p_4)] := hl
  refine lv_aload_n hx hb dX12_go_0 rfl (lv_at hl 0 rfl) ?_
  refine lv_iload_n hx hb dX12_go_1 rfl (lv_at hl 1 rfl) ?_
  refine va_put (D := G.1) (ci := 12) (v := .int p_1) (ty := .int) (C := RX12) (T := TX12) (N := 52) hx hb hts inG_X12 tyX12 tyX12_ok nmX12 hown hK hP hD hS 0 rfl rfl 33 (by decide +kernel) (hts _ fl_X12_349) (fun _ h9 => h9) rfl (by decide +kernel) rfl rfl (Nat.le_of_ble_eq_true rfl) dX12_go_2 ?_
  clear hP hD hS
  intro H locs hP hD hS
  refine g5_rs [(b_o, (oc12 u_th u_sa b_rf b_ro b_im b_ke u_fd b_tp u_td u_fr u_to u_so u_wo u_fa u_bd u_nc b_nl u_co b_op b_ar u_le b_pi b_pa u_pd u_od b_ws b_hw u_la b_se b_re u_bk u_va u_su p_1 u_ho u_wy u_bt u_ps b_pt u_tg u_sn b_ip u_ic b_ah b_be b_me u_wd b_tr b_ld u_st b_wn u_id)), (b_ro, (arI G 5740 v_ro)), (b_se, (arJ G 13 v_se)), (b_re, (arJ G 400 v_re)), (b_pt, (arI G 200 v_pt))] hP hD ?_
  clear hP hD
  intro hP hD
  refine lv_aload_n hx hb dX12_go_5 rfl (lv_at hl 0 rfl) ?_
  refine W.eq (g2 := F0 m 6 ls [.ref b_o]) rfl ?_
  refine lv_iload_n hx hb dX12_go_6 rfl (lv_at hl 2 rfl) ?_
  refine va_put (D := G.1) (ci := 12) (v := .int p_2) (ty := .int) (C := RX12) (T := TX12) (N := 52) hx hb hts inG_X12 tyX12 tyX12_ok nmX12 hown hK hP hD hS 0 rfl rfl 35 (by decide +kernel) (hts _ fl_X12_355) (fun _ h9 => h9) rfl (by decide +kernel) rfl rfl (Nat.le_of_ble_eq_true rfl) dX12_go_7 ?_
  clear hP hD hS
  intro H locs hP hD hS
  refine g5_rs [(b_o, (oc12 u_th u_sa b_rf b_ro b_im b_ke u_fd b_tp u_td u_fr u_to u_so u_wo u_fa u_bd u_nc b_nl u_co b_op b_ar u_le b_pi b_pa u_pd u_od b_ws b_hw u_la b_se b_re u_bk u_va u_su p_1 u_ho p_2 u_bt u_ps b_pt u_tg u_sn b_ip u_ic b_ah b_be b_me u_wd b_tr b_ld u_st b_wn u_id)), (b_ro, (arI G 5740 v_ro)), (b_se, (arJ G 13 v_se)), (b_re, (arJ G 400 v_re)), (b_pt, (arI G 200 v_pt))] hP hD ?_
  clear hP hD
  intro hP hD
  refine lv_aload_n hx hb dX12_go_10 rfl (lv_at hl 0 rfl) ?_
  refine lv_iload_n hx hb dX12_go_11 rfl (lv_at hl 3 rfl) ?_
  refine va_put (D := G.1) (ci := 12) (v := .int p_3) (ty := .int) (C := RX12) (T := TX12) (N := 52) hx hb hts inG_X12 tyX12 tyX12_ok nmX12 hown hK hP hD hS 0 rfl rfl 34 (by decide +kernel) (hts _ fl_X12_352) (fun _ h9 => h9) rfl (by decide +kernel) rfl rfl (Nat.le_of_ble_eq_true rfl) dX12_go_12 ?_
  clear hP hD hS
  intro H locs hP hD hS
  refine g5_rs [(b_o, (oc12 u_th u_sa b_rf b_ro b_im b_ke u_fd b_tp u_td u_fr u_to u_so u_wo u_fa u_bd u_nc b_nl u_co b_op b_ar u_le b_pi b_pa u_pd u_od b_ws b_hw u_la b_se b_re u_bk u_va u_su p_1 p_3 p_2 u_bt u_ps b_pt u_tg u_sn b_ip u_ic b_ah b_be b_me u_wd b_tr b_ld u_st b_wn u_id)), (b_ro, (arI G 5740 v_ro)), (b_se, (arJ G 13 v_se)), (b_re, (arJ G 400 v_re)), (b_pt, (arI G 200 v_pt))] hP hD ?_
  clear hP hD
  intro hP hD
  refine W.eq (g2 := F0 m 15 ls []) rfl ?_
  refine lv_aload_n hx hb dX12_go_15 rfl (lv_at hl 0 rfl) ?_
  refine lv_ldcw (v := 1000000) hx hb hown (hts _ ki_X12_367) dX12_go_16 ?_
  refine va_put (D := G.1) (ci := 12) (v := .int 1000000) (ty := .int) (C := RX12) (T := TX12) (N := 52) hx hb hts inG_X12 tyX12 tyX12_ok nmX12 hown hK hP hD hS 0 rfl rfl 36 (by decide +kernel) (hts _ fl_X12_361) (fun _ h9 => h9) rfl (by decide +kernel) rfl rfl (Nat.le_of_ble_eq_true rfl) dX12_go_19 ?_
  clear hP hD hS
  intro H locs hP hD hS
  refine g5_rs [(b_o, (oc12 u_th u_sa b_rf b_ro b_im b_ke u_fd b_tp u_td u_fr u_to u_so u_wo u_fa u_bd u_nc b_nl u_co b_op b_ar u_le b_pi b_pa u_pd u_od b_ws b_hw u_la b_se b_re u_bk u_va u_su p_1 p_3 p_2 1000000 u_ps b_pt u_tg u_sn b_ip u_ic b_ah b_be b_me u_wd b_tr b_ld u_st b_wn u_id)), (b_ro, (arI G 5740 v_ro)), (b_se, (arJ G 13 v_se)), (b_re, (arJ G 400 v_re)), (b_pt, (arI G 200 v_pt))] hP hD ?_
  clear hP hD
  intro hP hD
  refine lv_aload_n hx hb dX12_go_22 rfl (lv_at hl 0 rfl) ?_
  refine lv_iconst (v := 0) hx hb dX12_go_23 (by decide +kernel) ?_
  refine W.eq (g2 := F0 m 24 ls [.int 0, .ref b_o]) rfl ?_
  refine va_put (D := G.1) (ci := 12) (v := .int 0) (ty := .int) (C := RX12) (T := TX12) (N := 52) hx hb hts inG_X12 tyX12 tyX12_ok nmX12 hown hK hP hD hS 0 rfl rfl 37 (by decide +kernel) (hts _ fl_X12_358) (fun _ h9 => h9) rfl (by decide +kernel) rfl rfl (Nat.le_of_ble_eq_true rfl) dX12_go_24 ?_
  clear hP hD hS
  intro H locs hP hD hS
  refine g5_rs [(b_o, (oc12 u_th u_sa b_rf b_ro b_im b_ke u_fd b_tp u_td u_fr u_to u_so u_wo u_fa u_bd u_nc b_nl u_co b_op b_ar u_le b_pi b_pa u_pd u_od b_ws b_hw u_la b_se b_re u_bk u_va u_su p_1 p_3 p_2 1000000 0 b_pt u_tg u_sn b_ip u_ic b_ah b_be b_me u_wd b_tr b_ld u_st b_wn u_id)), (b_ro, (arI G 5740 v_ro)), (b_se, (arJ G 13 v_se)), (b_re, (arJ G 400 v_re)), (b_pt, (arI G 200 v_pt))] hP hD ?_
  clear hP hD
  intro hP hD
  refine lv_aload_n hx hb dX12_go_27 rfl (lv_at hl 0 rfl) ?_
  refine lv_iconst (v := 0) hx hb dX12_go_28 (by decide +kernel) ?_
  refine va_put (D := G.1) (ci := 12) (v := .int 0) (ty := .int) (C := RX12) (T := TX12) (N := 52) hx hb hts inG_X12 tyX12 tyX12_ok nmX12 hown hK hP hD hS 0 rfl rfl 39 (by decide +kernel) (hts _ fl_X12_368) (fun _ h9 => h9) rfl (by decide +kernel) rfl rfl (Nat.le_of_ble_eq_true rfl) dX12_go_29 ?_
  clear hP hD hS
  intro H locs hP hD hS
  refine g5_rs [(b_o, (oc12 u_th u_sa b_rf b_ro b_im b_ke u_fd b_tp u_td u_fr u_to u_so u_wo u_fa u_bd u_nc b_nl u_co b_op b_ar u_le b_pi b_pa u_pd u_od b_ws b_hw u_la b_se b_re u_bk u_va u_su p_1 p_3 p_2 1000000 0 b_pt 0 u_sn b_ip u_ic b_ah b_be b_me u_wd b_tr b_ld u_st b_wn u_id)), (b_ro, (arI G 5740 v_ro)), (b_se, (arJ G 13 v_se)), (b_re, (arJ G 400 v_re)), (b_pt, (arI G 200 v_pt))] hP hD ?_
  clear hP hD
  intro hP hD
  refine lv_aload_n hx hb dX12_go_32 rfl (lv_at hl 0 rfl) ?_
  refine W.eq (g2 := F0 m 33 ls [.ref b_o]) rfl ?_
  refine lv_iconst (v := (-1)) hx hb dX12_go_33 (by decide +kernel) ?_
  refine va_put (D := G.1) (ci := 12) (v := .int (-1)) (ty := .int) (C := RX12) (T := TX12) (N := 52) hx hb hts inG_X12 tyX12 tyX12_ok nmX12 hown hK hP hD hS 0 rfl rfl 40 (by decide +kernel) (hts _ fl_X12_371) (fun _ h9 => h9) rfl (by decide +kernel) rfl rfl (Nat.le_of_ble_eq_true rfl) dX12_go_34 ?_
  clear hP hD hS
  intro H locs hP hD hS
  refine g5_rs [(b_o, (oc12 u_th u_sa b_rf b_ro b_im b_ke u_fd b_tp u_td u_fr u_to u_so u_wo u_fa u_bd u_nc b_nl u_co b_op b_ar u_le b_pi b_pa u_pd u_od b_ws b_hw u_la b_se b_re u_bk u_va u_su p_1 p_3 p_2 1000000 0 b_pt 0 (-1) b_ip u_ic b_ah b_be b_me u_wd b_tr b_ld u_st b_wn u_id)), (b_ro, (arI G 5740 v_ro)), (b_se, (arJ G 13 v_se)), (b_re, (arJ G 400 v_re)), (b_pt, (arI G 200 v_pt))] hP hD ?_
  clear hP hD
  intro hP hD
  refine lv_iconst (v := 1) hx hb dX12_go_37 (by decide +kernel) ?_
  refine lv_istore (lv' := [(5, .int 1), (0, .ref b_o), (1, .int p_1), (2, .int p_2), (3, .int p_3), (4, .int p_4)]) hx hb dX12_go_38 hl (by decide +kernel) rfl ?_
  clear hl
  intro ls hl
  refine g5_loop (α := (Int32) × (Int32) × (Int32) × (Int64) × (Int64) × (Int32) × (Int32) × (Int32) × (Int32) × (Int32) × (Int32) × (Int32) × (Nat → Int64) × (Nat → Int64) × (Nat → Int32)) (fun (q : (Int32) × (Int32) × (Int32) × (Int64) × (Int64) × (Int32) × (Int32) × (Int32) × (Int32) × (Int32) × (Int32) × (Int32) × (Nat → Int64) × (Nat → Int64) × (Nat → Int32)) (ls : Array Slot) (H : Heap) (locs : List Loc) => match q with | (k40_5, k40_la, k40_bk, k40_va, k40_su, k40_ce, k40_ho, k40_wy, k40_bt, k40_ps, k40_tg, k40_sn, k40_se, k40_re, k40_pt) => lv_has ls 7 [(5, .int k40_5), (0, .ref b_o), (1, .int p_1), (2, .int p_2), (3, .int p_3), (4, .int p_4)] ∧ va_P G.1 vwCl [(b_o, (oc12 u_th u_sa b_rf b_ro b_im b_ke u_fd b_tp u_td u_fr u_to u_so u_wo u_fa u_bd u_nc b_nl u_co b_op b_ar u_le b_pi b_pa u_pd u_od b_ws b_hw k40_la b_se b_re k40_bk k40_va k40_su k40_ce k40_ho k40_wy k40_bt k40_ps b_pt k40_tg k40_sn b_ip u_ic b_ah b_be b_me u_wd b_tr b_ld u_st b_wn u_id)), (b_ro, (arI G 5740 v_ro)), (b_se, (arJ G 13 k40_se)), (b_re, (arJ G 400 k40_re)), (b_pt, (arI G 200 k40_pt))] H ∧ va_D A [(b_o, (oc12 u_th u_sa b_rf b_ro b_im b_ke u_fd b_tp u_td u_fr u_to u_so u_wo u_fa u_bd u_nc b_nl u_co b_op b_ar u_le b_pi b_pa u_pd u_od b_ws b_hw k40_la b_se b_re k40_bk k40_va k40_su k40_ce k40_ho k40_wy k40_bt k40_ps b_pt k40_tg k40_sn b_ip u_ic b_ah b_be b_me u_wd b_tr b_ld u_st b_wn u_id)), (b_ro, (arI G 5740 v_ro)), (b_se, (arJ G 13 k40_se)), (b_re, (arJ G 400 k40_re)), (b_pt, (arI G 200 k40_pt))] ∧ va_S A s.heap H locs ∧ (0 ≤ k40_5.toInt ∧ k40_5.toInt ≤ 1) ∧ (0 ≤ k40_la.toInt ∧ k40_la.toInt ≤ 4840) ∧ (0 ≤ k40_bk.toInt ∧ k40_bk.toInt ≤ 1) ∧ (0 ≤ k40_ce.toInt ∧ k40_ce.toInt ≤ 63) ∧ (0 ≤ k40_ho.toInt ∧ k40_ho.toInt ≤ 23) ∧ (0 ≤ k40_wy.toInt ∧ k40_wy.toInt ≤ 3) ∧ (0 ≤ k40_bt.toInt ∧ k40_bt.toInt ≤ 1000000) ∧ (0 ≤ k40_ps.toInt ∧ k40_ps.toInt ≤ 200) ∧ (PTI k40_pt) ∧ (k40_5.toInt = 1 → LKA v_ro g_w p_4 p_1 p_2 p_3 k40_ps.toInt.toNat k40_ce k40_wy k40_ho k40_bt k40_tg k40_pt ∧ k40_sn = -1) ∧ (k40_5.toInt = 0 → LKR v_ro g_w p_4 p_1 p_2 p_3 k40_sn k40_ps k40_bt k40_tg k40_pt)) (fun (q : (Int32) × (Int32) × (Int32) × (Int64) × (Int64) × (Int32) × (Int32) × (Int32) × (Int32) × (Int32) × (Int32) × (Int32) × (Nat → Int64) × (Nat → Int64) × (Nat → Int32)) => match q with | (k40_5, k40_la, k40_bk, k40_va, k40_su, k40_ce, k40_ho, k40_wy, k40_bt, k40_ps, k40_tg, k40_sn, k40_se, k40_re, k40_pt) => Int.toNat (2 * (200 - k40_ps.toInt) + k40_5.toInt)) (1, u_la, u_bk, u_va, u_su, p_1, p_3, p_2, 1000000, 0, 0, (-1), v_se, v_re, v_pt) ⟨lv_sub hl [0, 1, 2, 3, 4, 5] rfl, hP, hD, hS, ⟨by decide, by decide⟩, h_u_la, h_u_bk, h_p_1, h_p_3, h_p_2, ⟨by decide, by decide⟩, ⟨by decide, by decide⟩, r_pt, fun _ => ⟨by show LKA v_ro g_w p_4 p_1 p_2 p_3 0 _ _ _ _ _ _; exact lka_0, rfl⟩, fun q9 => absurd q9 (by decide +kernel)⟩ ?_
  rintro ⟨k40_5, k40_la, k40_bk, k40_va, k40_su, k40_ce, k40_ho, k40_wy, k40_bt, k40_ps, k40_tg, k40_sn, k40_se, k40_re, k40_pt⟩ ls H locs ⟨hl, hP, hD, hS, (i_1 : 0 ≤ k40_5.toInt ∧ k40_5.toInt ≤ 1), (i_2 : 0 ≤ k40_la.toInt ∧ k40_la.toInt ≤ 4840), (i_3 : 0 ≤ k40_bk.toInt ∧ k40_bk.toInt ≤ 1), (i_4 : 0 ≤ k40_ce.toInt ∧ k40_ce.toInt ≤ 63), (i_5 : 0 ≤ k40_ho.toInt ∧ k40_ho.toInt ≤ 23), (i_6 : 0 ≤ k40_wy.toInt ∧ k40_wy.toInt ≤ 3), (i_7 : 0 ≤ k40_bt.toInt ∧ k40_bt.toInt ≤ 1000000), (i_8 : 0 ≤ k40_ps.toInt ∧ k40_ps.toInt ≤ 200), (i_9 : PTI k40_pt), (i_10 : k40_5.toInt = 1 → LKA v_ro g_w p_4 p_1 p_2 p_3 k40_ps.toInt.toNat k40_ce k40_wy k40_ho k40_bt k40_tg k40_pt ∧ k40_sn = -1), (i_11 : k40_5.toInt = 0 → LKR v_ro g_w p_4 p_1 p_2 p_3 k40_sn k40_ps k40_bt k40_tg k40_pt)⟩ ih_40_12
  replace hl : lv_has ls 7 [(5, .int k40_5), (0, .ref b_o), (1, .int p_1), (2, .int p_2), (3, .int p_3), (4, .int p_4)] := hl
  refine g5_rs [(b_o, (oc12 u_th u_sa b_rf b_ro b_im b_ke u_fd b_tp u_td u_fr u_to u_so u_wo u_fa u_bd u_nc b_nl u_co b_op b_ar u_le b_pi b_pa u_pd u_od b_ws b_hw k40_la b_se b_re k40_bk k40_va k40_su k40_ce k40_ho k40_wy k40_bt k40_ps b_pt k40_tg k40_sn b_ip u_ic b_ah b_be b_me u_wd b_tr b_ld u_st b_wn u_id)), (b_ro, (arI G 5740 v_ro)), (b_se, (arJ G 13 k40_se)), (b_re, (arJ G 400 k40_re)), (b_pt, (arI G 200 k40_pt))] hP hD ?_
  clear hP hD
  intro hP hD
  refine lv_iload hx hb dX12_go_40 (lv_at hl 0 rfl) ?_
  refine lv_if_eq (tgt := 167) hx hb dX12_go_42 (by decide +kernel) (fun c_13 => ?_) (fun c_13 => ?_)
  ·
    have i_13 : k40_5.toInt = 0 := g5_eq (a := k40_5.toInt) (b := 0) rfl (by decide +kernel) c_13
    exact W.vret hx hb hr (fun t ht hW => ⟨⟨[(b_o, (oc12 u_th u_sa b_rf b_ro b_im b_ke u_fd b_tp u_td u_fr u_to u_so u_wo u_fa u_bd u_nc b_nl u_co b_op b_ar u_le b_pi b_pa u_pd u_od b_ws b_hw k40_la b_se b_re k40_bk k40_va k40_su k40_ce k40_ho k40_wy k40_bt k40_ps b_pt k40_tg k40_sn b_ip u_ic b_ah b_be b_me u_wd b_tr b_ld u_st b_wn u_id)), (b_ro, (arI G 5740 v_ro)), (b_se, (arJ G 13 k40_se)), (b_re, (arJ G 400 k40_re)), (b_pt, (arI G 200 k40_pt))], rfl, ⟨k40_la, k40_bk, k40_va, k40_su, k40_ce, k40_ho, k40_wy, k40_bt, k40_ps, k40_tg, k40_sn, k40_se, k40_re, k40_pt, i_2, i_3, i_4, i_5, i_6, i_7, i_8, i_9, by rcases (show k40_5.toInt = 0 ∨ k40_5.toInt = 1 by omega) with q9 | q9; exact i_11 q9; exact lka_end (i_10 q9).1 (by omega) (by omega) (i_10 q9).2, rfl⟩, by rw [ht]; exact hP.sub [0, 1, 2, 3, 4] rfl, hD.sub [0, 1, 2, 3, 4] (by decide +kernel) rfl⟩, hS.F ht⟩) hS.2.2 dX12_go_167
  ·
    have n_13 : gNe (k40_5.toInt) (0) := g5_eqN (a := k40_5.toInt) (b := 0) rfl (by decide +kernel) c_13
    have i_13 : k40_5.toInt ≥ 1 := by have z := g5_eqN (a := k40_5.toInt) (b := 0) (by rfl) (by decide +kernel) c_13; omega
    obtain ⟨hLA, hSN⟩ := i_10 (by omega)
    refine lv_aload_n hx hb dX12_go_45 rfl (lv_at hl 1 rfl) ?_
    refine va_get (D := G.1) (ci := 12) (v := .int k40_ps) (C := RX12) (T := TX12) (N := 52) hx hb hts inG_X12 hown hK hP 0 rfl rfl 37 (by decide +kernel) (hts _ fl_X12_358) (fun _ h9 => h9) rfl dX12_go_46 ?_
    refine lv_sipush (v := 200) hx hb dX12_go_49 (by decide +kernel) ?_
    refine lv_icmp_ge (tgt := 167) hx hb dX12_go_52 (by decide +kernel) (fun c_14 => ?_) (fun c_14 => ?_)
    ·
      have i_14 : k40_ps.toInt ≥ 200 := g5_ge (a := k40_ps.toInt) (b := 200) rfl (by decide +kernel) c_14
      exact W.vret hx hb hr (fun t ht hW => ⟨⟨[(b_o, (oc12 u_th u_sa b_rf b_ro b_im b_ke u_fd b_tp u_td u_fr u_to u_so u_wo u_fa u_bd u_nc b_nl u_co b_op b_ar u_le b_pi b_pa u_pd u_od b_ws b_hw k40_la b_se b_re k40_bk k40_va k40_su k40_ce k40_ho k40_wy k40_bt k40_ps b_pt k40_tg k40_sn b_ip u_ic b_ah b_be b_me u_wd b_tr b_ld u_st b_wn u_id)), (b_ro, (arI G 5740 v_ro)), (b_se, (arJ G 13 k40_se)), (b_re, (arJ G 400 k40_re)), (b_pt, (arI G 200 k40_pt))], rfl, ⟨k40_la, k40_bk, k40_va, k40_su, k40_ce, k40_ho, k40_wy, k40_bt, k40_ps, k40_tg, k40_sn, k40_se, k40_re, k40_pt, i_2, i_3, i_4, i_5, i_6, i_7, i_8, i_9, by rcases (show k40_5.toInt = 0 ∨ k40_5.toInt = 1 by omega) with q9 | q9; exact i_11 q9; exact lka_end (i_10 q9).1 (by omega) (by omega) (i_10 q9).2, rfl⟩, by rw [ht]; exact hP.sub [0, 1, 2, 3, 4] rfl, hD.sub [0, 1, 2, 3, 4] (by decide +kernel) rfl⟩, hS.F ht⟩) hS.2.2 dX12_go_167
    ·
      have i_14 : k40_ps.toInt < 200 := g5_geN (a := k40_ps.toInt) (b := 200) rfl (by decide +kernel) c_14
      refine lv_aload_n hx hb dX12_go_55 rfl (lv_at hl 1 rfl) ?_
      refine va_get (D := G.1) (ci := 12) (v := .int k40_ce) (C := RX12) (T := TX12) (N := 52) hx hb hts inG_X12 hown hK hP 0 rfl rfl 33 (by decide +kernel) (hts _ fl_X12_349) (fun _ h9 => h9) rfl dX12_go_56 ?_
      refine lv_aload_n hx hb dX12_go_59 rfl (lv_at hl 1 rfl) ?_
      refine va_get (D := G.1) (ci := 12) (v := .int k40_wy) (C := RX12) (T := TX12) (N := 52) hx hb hts inG_X12 hown hK hP 0 rfl rfl 35 (by decide +kernel) (hts _ fl_X12_355) (fun _ h9 => h9) rfl dX12_go_60 ?_
      refine W.eq (g2 := F0 m 63 ls [.int k40_wy, .int k40_ce]) rfl ?_
      obtain ⟨hPc, hDc, hFc⟩ := g5_sub3 (wc := []) hP hD hS hA [] (by decide +kernel) rfl
      refine va_calli (va_runS (As := [.int k40_ce, .int k40_wy]) (rest := []) ⟨hx, hb, hml, hown, hts⟩ (n_besideE l G H.size k40_ce k40_wy i_4 i_6) (va_cwS 2 hts gS_X12_374 rfl rfl rfl hs_X12_beside ⟨Nat.le_of_ble_eq_true rfl, Nat.le_of_ble_eq_true rfl⟩) (g5_preS hPc hK hDc hN hT hS hFc) rfl rfl hl.1 rfl (lv_room (Nat.le_of_ble_eq_true rfl)) dX12_go_63 ⟨Nat.le_of_ble_eq_true rfl, Nat.le_of_ble_eq_true rfl⟩) hS (fun q _ h => hFc q h) hFc (fun r u t H locs ht hvm hw hB hz1 hk1 hS => ?_)
      obtain ⟨hP1, hD1⟩ := hB
      have hP1 := g5_ht ht hP1
      obtain ⟨z17, (i_15 : z17.toInt = bs k40_ce.toInt k40_wy.toInt), (i_16 : -1 ≤ z17.toInt ∧ z17.toInt ≤ 63), y18, rfl⟩ := hw
      have hJ9 := g5_same hP hk1
      clear hP hPc hDc hFc ht hvm hz1 hk1 hP1 hD1
      have hP := hJ9
      clear hJ9
      refine g5_ti (v := z17) y18 ?_
      refine lv_istore (lv' := [(6, .int z17), (5, .int k40_5), (0, .ref b_o), (1, .int p_1), (2, .int p_2), (3, .int p_3), (4, .int p_4)]) hx hb dX12_go_66 hl (by decide +kernel) rfl ?_
      clear hl
      intro ls hl
      refine lv_iload hx hb dX12_go_68 (lv_at hl 0 rfl) ?_
      refine lv_iconst (v := (-1)) hx hb dX12_go_70 (by decide +kernel) ?_
      refine lv_icmp_eq (tgt := 96) hx hb dX12_go_71 (by decide +kernel) (fun c_19 => ?_) (fun c_19 => ?_)
      ·
        have i_19 : z17.toInt = (-1) := g5_eq (a := z17.toInt) (b := (-1)) rfl (by decide +kernel) c_19
        refine lv_iconst (v := 0) hx hb dX12_go_96 (by decide +kernel) ?_
        refine lv_istore (lv' := [(5, .int 0), (6, .int z17), (0, .ref b_o), (1, .int p_1), (2, .int p_2), (3, .int p_3), (4, .int p_4)]) hx hb dX12_go_97 hl (by decide +kernel) rfl ?_
        clear hl
        intro ls hl
        refine lv_iload hx hb dX12_go_99 (lv_at hl 0 rfl) ?_
        refine lv_if_eq (tgt := 164) hx hb dX12_go_101 (by decide +kernel) (fun c_20 => ?_) (fun c_20 => ?_)
        ·
          refine lv_goto (tgt := 40) hx hb dX12_go_164 (by decide +kernel) ?_
          exact ih_40_12 (0, k40_la, k40_bk, k40_va, k40_su, k40_ce, k40_ho, k40_wy, k40_bt, k40_ps, k40_tg, k40_sn, k40_se, k40_re, k40_pt) ls H locs (show Int.toNat (2 * (200 - k40_ps.toInt) + (0 : Int32).toInt) < Int.toNat (2 * (200 - k40_ps.toInt) + k40_5.toInt) by have zc_k40_5 : (0 : Int32).toInt = 0 := (by decide +kernel); omega) ⟨lv_sub hl [0, 2, 3, 4, 5, 6] rfl, hP, hD, hS, ⟨by decide, by decide⟩, i_2, i_3, i_4, i_5, i_6, i_7, i_8, i_9, fun q9 => absurd q9 (by decide +kernel), fun _ => lka_wall hLA (by omega) (by omega) hSN (Or.inl (by rw [← i_15]; omega))⟩
        ·
          exact absurd c_20 (by decide +kernel)
      ·
        have n_19 : gNe (z17.toInt) ((-1)) := g5_eqN (a := z17.toInt) (b := (-1)) rfl (by decide +kernel) c_19
        have i_19 : z17.toInt ≥ 0 := by have z := g5_eqN (a := z17.toInt) (b := (-1)) (by rfl) (by decide +kernel) c_19; omega
        refine lv_aload_n hx hb dX12_go_74 rfl (lv_at hl 2 rfl) ?_
        refine lv_iload hx hb dX12_go_75 (lv_at hl 0 rfl) ?_
        refine lv_if_ge (tgt := 84) hx hb dX12_go_77 (by decide +kernel) (fun c_21 => ?_) (fun c_21 => ?_)
        ·
          have i_21 : z17.toInt ≥ 0 := g5_ge (a := z17.toInt) (b := 0) rfl (by decide +kernel) c_21
          refine lv_iload hx hb dX12_go_84 (lv_at hl 0 rfl) ?_
          obtain ⟨hPc, hDc, hFc⟩ := g5_sub3 (wc := [(b_o, (oc12 u_th u_sa b_rf b_ro b_im b_ke u_fd b_tp u_td u_fr u_to u_so u_wo u_fa u_bd u_nc b_nl u_co b_op b_ar u_le b_pi b_pa u_pd u_od b_ws b_hw k40_la b_se b_re k40_bk k40_va k40_su k40_ce k40_ho k40_wy k40_bt k40_ps b_pt k40_tg k40_sn b_ip u_ic b_ah b_be b_me u_wd b_tr b_ld u_st b_wn u_id)), (b_ro, (arI G 5740 v_ro))]) hP hD hS hA [0, 1] (by decide +kernel) rfl
          refine va_calli (va_runV (As := [.int z17]) (rest := []) ⟨hx, hb, hml, hown, hts⟩ (n_isWallE l G b_o b_ro b_rf b_im b_ke b_tp b_nl b_op b_ar b_pi b_pa b_ws b_hw b_se b_re b_pt b_ip b_ah b_be b_me b_tr b_ld b_wn H.size u_th u_sa u_fd u_td u_fr u_to u_so u_fa u_bd u_nc u_co u_le u_pd u_od k40_la k40_bk k40_ce k40_ho k40_wy k40_bt k40_ps k40_tg k40_sn u_ic u_wd u_id z17 u_wo k40_va k40_su u_st v_ro h_u_td h_u_fr h_u_to h_u_bd h_u_nc h_u_co h_u_pd i_2 i_3 i_4 i_5 i_6 i_7 i_8 h_u_ic h_u_id ⟨by omega, by omega⟩ (r_ro)) (cwV 1 hts gV_X12_160 rfl rfl rfl hv_X12_isWall ⟨Nat.le_of_ble_eq_true rfl, Nat.le_of_ble_eq_true rfl⟩) (g5_preV hPc hK hDc hN hT hS hFc (ci := 12) (q0 := 0) rfl rfl) rfl rfl hl.1 rfl (lv_room (Nat.le_of_ble_eq_true rfl)) dX12_go_86 ⟨Nat.le_of_ble_eq_true rfl, Nat.le_of_ble_eq_true rfl⟩) hS (fun q _ h => hFc q h) hFc (fun r u t H locs ht hvm hw hB hz1 hk1 hS => ?_)
          obtain ⟨hP1, hD1⟩ := hB
          have hP1 := g5_ht ht hP1
          rcases hw with ⟨(i_22 : wallAt v_ro z17.toInt), rfl, rfl⟩ | ⟨(i_23 : ¬ wallAt v_ro z17.toInt), rfl, rfl⟩
          ·
            have hJ9 := va_join (wr := [(b_se, (arJ G 13 k40_se)), (b_re, (arJ G 400 k40_re)), (b_pt, (arI G 200 k40_pt))]) hP hD [0, 1] [2, 3, 4] rfl rfl (by decide +kernel) (by decide +kernel) hk1 hFc hP1 hD1
            clear hP hD hPc hDc hFc ht hvm hz1 hk1 hP1 hD1
            obtain ⟨hP, hD⟩ := hJ9
            refine g5_rs [(b_se, (arJ G 13 k40_se)), (b_re, (arJ G 400 k40_re)), (b_pt, (arI G 200 k40_pt)), (b_o, (oc12 u_th u_sa b_rf b_ro b_im b_ke u_fd b_tp u_td u_fr u_to u_so u_wo u_fa u_bd u_nc b_nl u_co b_op b_ar u_le b_pi b_pa u_pd u_od b_ws b_hw k40_la b_se b_re k40_bk k40_va k40_su k40_ce k40_ho k40_wy k40_bt k40_ps b_pt k40_tg k40_sn b_ip u_ic b_ah b_be b_me u_wd b_tr b_ld u_st b_wn u_id)), (b_ro, (arI G 5740 v_ro))] hP hD ?_
            clear hP hD
            intro hP hD
            refine lv_if_ne (tgt := 96) hx hb dX12_go_89 (by decide +kernel) (fun c_24 => ?_) (fun c_24 => ?_)
            ·
              refine lv_iconst (v := 0) hx hb dX12_go_96 (by decide +kernel) ?_
              refine lv_istore (lv' := [(5, .int 0), (6, .int z17), (0, .ref b_o), (1, .int p_1), (2, .int p_2), (3, .int p_3), (4, .int p_4)]) hx hb dX12_go_97 hl (by decide +kernel) rfl ?_
              clear hl
              intro ls hl
              refine lv_iload hx hb dX12_go_99 (lv_at hl 0 rfl) ?_
              refine lv_if_eq (tgt := 164) hx hb dX12_go_101 (by decide +kernel) (fun c_25 => ?_) (fun c_25 => ?_)
              ·
                refine lv_goto (tgt := 40) hx hb dX12_go_164 (by decide +kernel) ?_
                exact ih_40_12 (0, k40_la, k40_bk, k40_va, k40_su, k40_ce, k40_ho, k40_wy, k40_bt, k40_ps, k40_tg, k40_sn, k40_se, k40_re, k40_pt) ls H locs (show Int.toNat (2 * (200 - k40_ps.toInt) + (0 : Int32).toInt) < Int.toNat (2 * (200 - k40_ps.toInt) + k40_5.toInt) by have zc_k40_5 : (0 : Int32).toInt = 0 := (by decide +kernel); omega) ⟨lv_sub hl [0, 2, 3, 4, 5, 6] rfl, hP.sub [3, 4, 0, 1, 2] rfl, hD.sub [3, 4, 0, 1, 2] (by decide +kernel) rfl, hS, ⟨by decide, by decide⟩, i_2, i_3, i_4, i_5, i_6, i_7, i_8, i_9, fun q9 => absurd q9 (by decide +kernel), fun _ => lka_wall hLA (by omega) (by omega) hSN (Or.inr (by rw [← i_15]; exact i_22))⟩
              ·
                exact absurd c_25 (by decide +kernel)
            ·
              exact absurd c_24 (by decide +kernel)
          ·
            have hJ9 := va_join (wr := [(b_se, (arJ G 13 k40_se)), (b_re, (arJ G 400 k40_re)), (b_pt, (arI G 200 k40_pt))]) hP hD [0, 1] [2, 3, 4] rfl rfl (by decide +kernel) (by decide +kernel) hk1 hFc hP1 hD1
            clear hP hD hPc hDc hFc ht hvm hz1 hk1 hP1 hD1
            obtain ⟨hP, hD⟩ := hJ9
            refine g5_rs [(b_se, (arJ G 13 k40_se)), (b_re, (arJ G 400 k40_re)), (b_pt, (arI G 200 k40_pt)), (b_o, (oc12 u_th u_sa b_rf b_ro b_im b_ke u_fd b_tp u_td u_fr u_to u_so u_wo u_fa u_bd u_nc b_nl u_co b_op b_ar u_le b_pi b_pa u_pd u_od b_ws b_hw k40_la b_se b_re k40_bk k40_va k40_su k40_ce k40_ho k40_wy k40_bt k40_ps b_pt k40_tg k40_sn b_ip u_ic b_ah b_be b_me u_wd b_tr b_ld u_st b_wn u_id)), (b_ro, (arI G 5740 v_ro))] hP hD ?_
            clear hP hD
            intro hP hD
            refine lv_if_ne (tgt := 96) hx hb dX12_go_89 (by decide +kernel) (fun c_26 => ?_) (fun c_26 => ?_)
            ·
              exact absurd c_26 (by decide +kernel)
            ·
              refine lv_iconst (v := 1) hx hb dX12_go_92 (by decide +kernel) ?_
              refine lv_goto (tgt := 97) hx hb dX12_go_93 (by decide +kernel) ?_
              refine lv_istore (lv' := [(5, .int 1), (6, .int z17), (0, .ref b_o), (1, .int p_1), (2, .int p_2), (3, .int p_3), (4, .int p_4)]) hx hb dX12_go_97 hl (by decide +kernel) rfl ?_
              clear hl
              intro ls hl
              refine lv_iload hx hb dX12_go_99 (lv_at hl 0 rfl) ?_
              refine W.eq (g2 := F0 m 101 ls [.int 1]) rfl ?_
              refine lv_if_eq (tgt := 164) hx hb dX12_go_101 (by decide +kernel) (fun c_27 => ?_) (fun c_27 => ?_)
              ·
                exact absurd c_27 (by decide +kernel)
              ·
                refine lv_aload_n hx hb dX12_go_104 rfl (lv_at hl 2 rfl) ?_
                refine lv_iload hx hb dX12_go_105 (lv_at hl 1 rfl) ?_
                refine va_put (D := G.1) (ci := 12) (v := .int z17) (ty := .int) (C := RX12) (T := TX12) (N := 52) hx hb hts inG_X12 tyX12 tyX12_ok nmX12 hown hK hP hD hS 3 rfl rfl 33 (by decide +kernel) (hts _ fl_X12_349) (fun _ h9 => h9) rfl (by decide +kernel) rfl rfl (Nat.le_of_ble_eq_true rfl) dX12_go_107 ?_
                clear hP hD hS
                intro H locs hP hD hS
                refine g5_rs [(b_se, (arJ G 13 k40_se)), (b_re, (arJ G 400 k40_re)), (b_pt, (arI G 200 k40_pt)), (b_o, (oc12 u_th u_sa b_rf b_ro b_im b_ke u_fd b_tp u_td u_fr u_to u_so u_wo u_fa u_bd u_nc b_nl u_co b_op b_ar u_le b_pi b_pa u_pd u_od b_ws b_hw k40_la b_se b_re k40_bk k40_va k40_su z17 k40_ho k40_wy k40_bt k40_ps b_pt k40_tg k40_sn b_ip u_ic b_ah b_be b_me u_wd b_tr b_ld u_st b_wn u_id)), (b_ro, (arI G 5740 v_ro))] hP hD ?_
                clear hP hD
                intro hP hD
                refine lv_aload_n hx hb dX12_go_110 rfl (lv_at hl 2 rfl) ?_
                refine W.eq (g2 := F0 m 111 ls [.ref b_o]) rfl ?_
                refine va_get (D := G.1) (ci := 12) (v := .ref b_pt) (C := RX12) (T := TX12) (N := 52) hx hb hts inG_X12 hown hK hP 3 rfl rfl 38 (by decide +kernel) (hts _ fl_X12_82) (fun _ h9 => h9) rfl dX12_go_111 ?_
                refine lv_aload_n hx hb dX12_go_114 rfl (lv_at hl 2 rfl) ?_
                refine va_get (D := G.1) (ci := 12) (v := .int k40_ps) (C := RX12) (T := TX12) (N := 52) hx hb hts inG_X12 hown hK hP 3 rfl rfl 37 (by decide +kernel) (hts _ fl_X12_358) (fun _ h9 => h9) rfl dX12_go_115 ?_
                refine lv_bipush (v := 64) hx hb dX12_go_118 (by decide +kernel) ?_
                refine lv_aload_n hx hb dX12_go_120 rfl (lv_at hl 2 rfl) ?_
                refine W.eq (g2 := F0 m 121 ls [.ref b_o, .int 64, .int k40_ps, .ref b_pt]) rfl ?_
                refine va_get (D := G.1) (ci := 12) (v := .int k40_ho) (C := RX12) (T := TX12) (N := 52) hx hb hts inG_X12 hown hK hP 3 rfl rfl 34 (by decide +kernel) (hts _ fl_X12_352) (fun _ h9 => h9) rfl dX12_go_121 ?_
                refine lv_imul hx hb dX12_go_124 ?_
                have t_28 : (64 * k40_ho).toInt = 64 * k40_ho.toInt := g5_imul (a := 64) (b := k40_ho.toInt) (by decide +kernel) (by rfl) (by omega) (by omega)
                refine lv_aload_n hx hb dX12_go_125 rfl (lv_at hl 2 rfl) ?_
                refine va_get (D := G.1) (ci := 12) (v := .int z17) (C := RX12) (T := TX12) (N := 52) hx hb hts inG_X12 hown hK hP 3 rfl rfl 33 (by decide +kernel) (hts _ fl_X12_349) (fun _ h9 => h9) rfl dX12_go_126 ?_
                refine lv_iadd hx hb dX12_go_129 ?_
                have t_29 : ((64 * k40_ho) + z17).toInt = (64 * k40_ho).toInt + z17.toInt := g5_iadd (a := (64 * k40_ho).toInt) (b := z17.toInt) (by rfl) (by rfl) (by omega) (by omega)
                refine W.eq (g2 := F0 m 130 ls [.int ((64 * k40_ho) + z17), .int k40_ps, .ref b_pt]) rfl ?_
                refine va_iast hx hb hK hP hD hS 2 0 rfl rfl (i := k40_ps) (x := ((64 * k40_ho) + z17)) (vp_in_iff.mpr ⟨by omega, by omega⟩) dX12_go_130 ?_
                clear hP hD hS
                intro H locs hP hD hS
                refine g5_rs [(b_se, (arJ G 13 k40_se)), (b_re, (arJ G 400 k40_re)), (b_pt, (arI G 200 (upd k40_pt k40_ps.toNatClampNeg ((64 * k40_ho) + z17)))), (b_o, (oc12 u_th u_sa b_rf b_ro b_im b_ke u_fd b_tp u_td u_fr u_to u_so u_wo u_fa u_bd u_nc b_nl u_co b_op b_ar u_le b_pi b_pa u_pd u_od b_ws b_hw k40_la b_se b_re k40_bk k40_va k40_su z17 k40_ho k40_wy k40_bt k40_ps b_pt k40_tg k40_sn b_ip u_ic b_ah b_be b_me u_wd b_tr b_ld u_st b_wn u_id)), (b_ro, (arI G 5740 v_ro))] hP hD ?_
                clear hP hD
                intro hP hD
                refine lv_aload_n hx hb dX12_go_131 rfl (lv_at hl 2 rfl) ?_
                refine lv_dup hx hb dX12_go_132 rfl ?_
                refine va_get (D := G.1) (ci := 12) (v := .int k40_ps) (C := RX12) (T := TX12) (N := 52) hx hb hts inG_X12 hown hK hP 3 rfl rfl 37 (by decide +kernel) (hts _ fl_X12_358) (fun _ h9 => h9) rfl dX12_go_133 ?_
                refine lv_iconst (v := 1) hx hb dX12_go_136 (by decide +kernel) ?_
                refine W.eq (g2 := F0 m 137 ls [.int 1, .int k40_ps, .ref b_o]) rfl ?_
                refine lv_iadd hx hb dX12_go_137 ?_
                have t_30 : (k40_ps + 1).toInt = k40_ps.toInt + 1 := g5_iadd (a := k40_ps.toInt) (b := 1) (by rfl) (by decide +kernel) (by omega) (by omega)
                refine va_put (D := G.1) (ci := 12) (v := .int (k40_ps + 1)) (ty := .int) (C := RX12) (T := TX12) (N := 52) hx hb hts inG_X12 tyX12 tyX12_ok nmX12 hown hK hP hD hS 3 rfl rfl 37 (by decide +kernel) (hts _ fl_X12_358) (fun _ h9 => h9) rfl (by decide +kernel) rfl rfl (Nat.le_of_ble_eq_true rfl) dX12_go_138 ?_
                clear hP hD hS
                intro H locs hP hD hS
                refine g5_rs [(b_se, (arJ G 13 k40_se)), (b_re, (arJ G 400 k40_re)), (b_pt, (arI G 200 (upd k40_pt k40_ps.toNatClampNeg ((64 * k40_ho) + z17)))), (b_o, (oc12 u_th u_sa b_rf b_ro b_im b_ke u_fd b_tp u_td u_fr u_to u_so u_wo u_fa u_bd u_nc b_nl u_co b_op b_ar u_le b_pi b_pa u_pd u_od b_ws b_hw k40_la b_se b_re k40_bk k40_va k40_su z17 k40_ho k40_wy k40_bt (k40_ps + 1) b_pt k40_tg k40_sn b_ip u_ic b_ah b_be b_me u_wd b_tr b_ld u_st b_wn u_id)), (b_ro, (arI G 5740 v_ro))] hP hD ?_
                clear hP hD
                intro hP hD
                refine lv_aload_n hx hb dX12_go_141 rfl (lv_at hl 2 rfl) ?_
                obtain ⟨hPc, hDc, hFc⟩ := g5_sub3 (wc := [(b_o, (oc12 u_th u_sa b_rf b_ro b_im b_ke u_fd b_tp u_td u_fr u_to u_so u_wo u_fa u_bd u_nc b_nl u_co b_op b_ar u_le b_pi b_pa u_pd u_od b_ws b_hw k40_la b_se b_re k40_bk k40_va k40_su z17 k40_ho k40_wy k40_bt (k40_ps + 1) b_pt k40_tg k40_sn b_ip u_ic b_ah b_be b_me u_wd b_tr b_ld u_st b_wn u_id)), (b_ro, (arI G 5740 v_ro)), (b_se, (arJ G 13 k40_se)), (b_re, (arJ G 400 k40_re))]) hP hD hS hA [3, 4, 0, 1] (by decide +kernel) rfl
                refine va_calli (va_runV (As := []) (rest := []) ⟨hx, hb, hml, hown, hts⟩ (n_isFreeX l G b_o b_ro b_se b_re b_rf b_im b_ke b_tp b_nl b_op b_ar b_pi b_pa b_ws b_hw b_pt b_ip b_ah b_be b_me b_tr b_ld b_wn H.size u_th u_sa u_fd u_td u_fr u_to u_so u_fa u_bd u_nc u_co u_le u_pd u_od k40_la k40_bk z17 k40_ho k40_wy k40_bt (k40_ps + 1) k40_tg k40_sn u_ic u_wd u_id u_wo k40_va k40_su u_st v_ro k40_se k40_re g_w h_u_td h_u_fr h_u_to h_u_bd h_u_nc h_u_co h_u_pd i_2 i_3 ⟨by omega, by omega⟩ i_5 i_6 i_7 ⟨by omega, by omega⟩ h_u_ic h_u_id (r_ro) (e_mf)) (cwV 0 hts gV_X12_377 rfl rfl rfl hv_X12_isFree ⟨Nat.le_of_ble_eq_true rfl, Nat.le_of_ble_eq_true rfl⟩) (g5_preV hPc hK hDc hN hT hS hFc (ci := 12) (q0 := 0) rfl rfl) rfl rfl hl.1 rfl (lv_room (Nat.le_of_ble_eq_true rfl)) dX12_go_142 ⟨Nat.le_of_ble_eq_true rfl, Nat.le_of_ble_eq_true rfl⟩) hS (fun q _ h => hFc q h) hFc (fun r u t H locs ht hvm hw hB hz1 hk1 hS => ?_)
                obtain ⟨hP1, hD1⟩ := hB
                have hP1 := g5_ht ht hP1
                obtain ⟨z35, z36, z37, z38, z39, z40, z41, z42, (i_31 : 0 ≤ z35.toInt ∧ z35.toInt ≤ 1), (i_32 : 0 ≤ z36.toInt ∧ z36.toInt ≤ 4840), (i_33 : 0 ≤ z37.toInt ∧ z37.toInt ≤ 1), (i_34 : (z35.toInt = 0 ∧ z40 = seenF v_ro g_w z17 k40_ho k40_wy (k40_ps + 1) k40_bt ∧ 0 ≤ z40.toInt) ∨ (z35.toInt = 1 ∧ z40 = k40_sn ∧ seenF v_ro g_w z17 k40_ho k40_wy (k40_ps + 1) k40_bt = -1)), y43, rfl⟩ := hw
                have hJ9 := va_join (wr := [(b_pt, (arI G 200 (upd k40_pt k40_ps.toNatClampNeg ((64 * k40_ho) + z17))))]) hP hD [3, 4, 0, 1] [2] rfl rfl (by decide +kernel) (by decide +kernel) hk1 hFc hP1 hD1
                clear hP hD hPc hDc hFc ht hvm hz1 hk1 hP1 hD1
                obtain ⟨hP, hD⟩ := hJ9
                refine g5_rs [(b_pt, (arI G 200 (upd k40_pt k40_ps.toNatClampNeg ((64 * k40_ho) + z17)))), (b_o, (oc12 u_th u_sa b_rf b_ro b_im b_ke u_fd b_tp u_td u_fr u_to u_so u_wo u_fa u_bd u_nc b_nl u_co b_op b_ar u_le b_pi b_pa u_pd u_od b_ws b_hw z36 b_se b_re z37 z38 z39 z17 k40_ho k40_wy k40_bt (k40_ps + 1) b_pt k40_tg z40 b_ip u_ic b_ah b_be b_me u_wd b_tr b_ld u_st b_wn u_id)), (b_ro, (arI G 5740 v_ro)), (b_se, (arJ G 13 z41)), (b_re, (arJ G 400 z42))] hP hD ?_
                clear hP hD
                intro hP hD
                refine g5_ti (v := z35) y43 ?_
                refine lv_if_eq (tgt := 161) hx hb dX12_go_145 (by decide +kernel) (fun c_44 => ?_) (fun c_44 => ?_)
                ·
                  have i_44 : z35.toInt = 0 := g5_eq (a := z35.toInt) (b := 0) rfl (by decide +kernel) c_44
                  refine lv_iconst (v := 0) hx hb dX12_go_161 (by decide +kernel) ?_
                  refine lv_istore (lv' := [(5, .int 0), (6, .int z17), (0, .ref b_o), (1, .int p_1), (2, .int p_2), (3, .int p_3), (4, .int p_4)]) hx hb dX12_go_162 hl (by decide +kernel) rfl ?_
                  clear hl
                  intro ls hl
                  refine lv_goto (tgt := 40) hx hb dX12_go_164 (by decide +kernel) ?_
                  exact ih_40_12 (0, z36, z37, z38, z39, z17, k40_ho, k40_wy, k40_bt, (k40_ps + 1), k40_tg, z40, z41, z42, (upd k40_pt k40_ps.toNatClampNeg ((64 * k40_ho) + z17))) ls H locs (show Int.toNat (2 * (200 - (k40_ps + 1).toInt) + (0 : Int32).toInt) < Int.toNat (2 * (200 - k40_ps.toInt) + k40_5.toInt) by have zc_k40_5 : (0 : Int32).toInt = 0 := (by decide +kernel); omega) ⟨lv_sub hl [0, 2, 3, 4, 5, 6] rfl, hP.sub [1, 2, 3, 4, 0] rfl, hD.sub [1, 2, 3, 4, 0] (by decide +kernel) rfl, hS, ⟨by decide, by decide⟩, i_32, i_33, ⟨by omega, by omega⟩, i_5, i_6, i_7, ⟨by omega, by omega⟩, pt_upd i_9 (by omega), fun q9 => absurd q9 (by decide +kernel), fun _ => lka_body (n := (k40_ps + 1)) hLA (by omega) (by rw [← i_15]; exact fun q9 => q9.elim (fun q8 => by unfold gNe at *; omega) i_23) i_15 (by omega) rfl (by omega) (i_34.elim (fun q8 => q8.2.1) (fun q8 => absurd q8.1 (by omega))) (i_34.elim (fun q8 => by have q7 := q8.2.2; omega) (fun q8 => absurd q8.1 (by omega)))⟩
                ·
                  have n_44 : gNe (z35.toInt) (0) := g5_eqN (a := z35.toInt) (b := 0) rfl (by decide +kernel) c_44
                  have i_44 : z35.toInt ≥ 1 := by have z := g5_eqN (a := z35.toInt) (b := 0) (by rfl) (by decide +kernel) c_44; omega
                  refine lv_aload_n hx hb dX12_go_148 rfl (lv_at hl 2 rfl) ?_
                  refine lv_iload hx hb dX12_go_149 (lv_at hl 6 rfl) ?_
                  obtain ⟨hPc, hDc, hFc⟩ := g5_sub3 (wc := [(b_o, (oc12 u_th u_sa b_rf b_ro b_im b_ke u_fd b_tp u_td u_fr u_to u_so u_wo u_fa u_bd u_nc b_nl u_co b_op b_ar u_le b_pi b_pa u_pd u_od b_ws b_hw z36 b_se b_re z37 z38 z39 z17 k40_ho k40_wy k40_bt (k40_ps + 1) b_pt k40_tg z40 b_ip u_ic b_ah b_be b_me u_wd b_tr b_ld u_st b_wn u_id)), (b_ro, (arI G 5740 v_ro)), (b_se, (arJ G 13 z41)), (b_re, (arJ G 400 z42))]) hP hD hS hA [1, 2, 3, 4] (by decide +kernel) rfl
                  refine va_calli (va_runV (As := [.int p_4]) (rest := []) ⟨hx, hb, hml, hown, hts⟩ (n_passesX l G b_o b_ro b_se b_re b_rf b_im b_ke b_tp b_nl b_op b_ar b_pi b_pa b_ws b_hw b_pt b_ip b_ah b_be b_me b_tr b_ld b_wn H.size u_th u_sa u_fd u_td u_fr u_to u_so u_fa u_bd u_nc u_co u_le u_pd u_od z36 z37 z17 k40_ho k40_wy k40_bt (k40_ps + 1) k40_tg z40 u_ic u_wd u_id p_4 u_wo z38 z39 u_st v_ro z41 z42 g_w h_u_td h_u_fr h_u_to h_u_bd h_u_nc h_u_co h_u_pd i_32 i_33 ⟨by omega, by omega⟩ i_5 i_6 i_7 ⟨by omega, by omega⟩ h_u_ic h_u_id (r_ro) (e_mf)) (cwV 1 hts gV_X12_380 rfl rfl rfl hv_X12_passes ⟨Nat.le_of_ble_eq_true rfl, Nat.le_of_ble_eq_true rfl⟩) (g5_preV hPc hK hDc hN hT hS hFc (ci := 12) (q0 := 0) rfl rfl) rfl rfl hl.1 rfl (lv_room (Nat.le_of_ble_eq_true rfl)) dX12_go_151 ⟨Nat.le_of_ble_eq_true rfl, Nat.le_of_ble_eq_true rfl⟩) hS (fun q _ h => hFc q h) hFc (fun r u t H locs ht hvm hw hB hz1 hk1 hS => ?_)
                  obtain ⟨hP1, hD1⟩ := hB
                  have hP1 := g5_ht ht hP1
                  obtain ⟨z52, z53, z54, z55, z56, z57, z58, z59, z60, z61, z62, (i_45 : 0 ≤ z52.toInt ∧ z52.toInt ≤ 1), (i_46 : 0 ≤ z53.toInt ∧ z53.toInt ≤ 4840), (i_47 : 0 ≤ z54.toInt ∧ z54.toInt ≤ 1), (i_48 : 0 ≤ z57.toInt ∧ z57.toInt ≤ 23), (i_49 : 0 ≤ z58.toInt ∧ z58.toInt ≤ 3), (i_50 : 0 ≤ z59.toInt ∧ z59.toInt ≤ 1000000), (i_51 : (z52.toInt = 0 ∧ (meetF v_ro g_w p_4 z17 k40_wy k40_ho k40_bt k40_tg (k40_ps + 1)).1 = false ∧ (meetF v_ro g_w p_4 z17 k40_wy k40_ho k40_bt k40_tg (k40_ps + 1)).2.2.2.1 = z59 ∧ (meetF v_ro g_w p_4 z17 k40_wy k40_ho k40_bt k40_tg (k40_ps + 1)).2.2.2.2 = z60) ∨ (z52.toInt = 1 ∧ meetF v_ro g_w p_4 z17 k40_wy k40_ho k40_bt k40_tg (k40_ps + 1) = (true, z58, z57, z59, z60))), y63, rfl⟩ := hw
                  have hJ9 := va_join (wr := [(b_pt, (arI G 200 (upd k40_pt k40_ps.toNatClampNeg ((64 * k40_ho) + z17))))]) hP hD [1, 2, 3, 4] [0] rfl rfl (by decide +kernel) (by decide +kernel) hk1 hFc hP1 hD1
                  clear hP hD hPc hDc hFc ht hvm hz1 hk1 hP1 hD1
                  obtain ⟨hP, hD⟩ := hJ9
                  refine g5_rs [(b_pt, (arI G 200 (upd k40_pt k40_ps.toNatClampNeg ((64 * k40_ho) + z17)))), (b_o, (oc12 u_th u_sa b_rf b_ro b_im b_ke u_fd b_tp u_td u_fr u_to u_so u_wo u_fa u_bd u_nc b_nl u_co b_op b_ar u_le b_pi b_pa u_pd u_od b_ws b_hw z53 b_se b_re z54 z55 z56 z17 z57 z58 z59 (k40_ps + 1) b_pt z60 z40 b_ip u_ic b_ah b_be b_me u_wd b_tr b_ld u_st b_wn u_id)), (b_ro, (arI G 5740 v_ro)), (b_se, (arJ G 13 z61)), (b_re, (arJ G 400 z62))] hP hD ?_
                  clear hP hD
                  intro hP hD
                  refine g5_ti (v := z52) y63 ?_
                  refine lv_if_eq (tgt := 161) hx hb dX12_go_154 (by decide +kernel) (fun c_64 => ?_) (fun c_64 => ?_)
                  ·
                    have i_64 : z52.toInt = 0 := g5_eq (a := z52.toInt) (b := 0) rfl (by decide +kernel) c_64
                    refine lv_iconst (v := 0) hx hb dX12_go_161 (by decide +kernel) ?_
                    refine lv_istore (lv' := [(5, .int 0), (6, .int z17), (0, .ref b_o), (1, .int p_1), (2, .int p_2), (3, .int p_3), (4, .int p_4)]) hx hb dX12_go_162 hl (by decide +kernel) rfl ?_
                    clear hl
                    intro ls hl
                    refine lv_goto (tgt := 40) hx hb dX12_go_164 (by decide +kernel) ?_
                    exact ih_40_12 (0, z53, z54, z55, z56, z17, z57, z58, z59, (k40_ps + 1), z60, z40, z61, z62, (upd k40_pt k40_ps.toNatClampNeg ((64 * k40_ho) + z17))) ls H locs (show Int.toNat (2 * (200 - (k40_ps + 1).toInt) + (0 : Int32).toInt) < Int.toNat (2 * (200 - k40_ps.toInt) + k40_5.toInt) by have zc_k40_5 : (0 : Int32).toInt = 0 := (by decide +kernel); omega) ⟨lv_sub hl [0, 2, 3, 4, 5, 6] rfl, hP.sub [1, 2, 3, 4, 0] rfl, hD.sub [1, 2, 3, 4, 0] (by decide +kernel) rfl, hS, ⟨by decide, by decide⟩, i_46, i_47, ⟨by omega, by omega⟩, i_48, i_49, i_50, ⟨by omega, by omega⟩, pt_upd i_9 (by omega), fun q9 => absurd q9 (by decide +kernel), fun _ => lka_stop (n := (k40_ps + 1)) hLA (by omega) (by rw [← i_15]; exact fun q9 => q9.elim (fun q8 => by unfold gNe at *; omega) i_23) i_15 (by omega) rfl (by omega) (i_34.elim (fun q8 => absurd q8.1 (by omega)) (fun q8 => q8.2.2)) (i_51.elim (fun q8 => q8.2) (fun q8 => absurd q8.1 (by omega))) ((i_34.elim (fun q8 => absurd q8.1 (by omega)) (fun q8 => q8.2.1)).trans hSN)⟩
                  ·
                    have n_64 : gNe (z52.toInt) (0) := g5_eqN (a := z52.toInt) (b := 0) rfl (by decide +kernel) c_64
                    have i_64 : z52.toInt ≥ 1 := by have z := g5_eqN (a := z52.toInt) (b := 0) (by rfl) (by decide +kernel) c_64; omega
                    refine lv_iconst (v := 1) hx hb dX12_go_157 (by decide +kernel) ?_
                    refine lv_goto (tgt := 162) hx hb dX12_go_158 (by decide +kernel) ?_
                    refine lv_istore (lv' := [(5, .int 1), (6, .int z17), (0, .ref b_o), (1, .int p_1), (2, .int p_2), (3, .int p_3), (4, .int p_4)]) hx hb dX12_go_162 hl (by decide +kernel) rfl ?_
                    clear hl
                    intro ls hl
                    refine lv_goto (tgt := 40) hx hb dX12_go_164 (by decide +kernel) ?_
                    exact ih_40_12 (1, z53, z54, z55, z56, z17, z57, z58, z59, (k40_ps + 1), z60, z40, z61, z62, (upd k40_pt k40_ps.toNatClampNeg ((64 * k40_ho) + z17))) ls H locs (show Int.toNat (2 * (200 - (k40_ps + 1).toInt) + (1 : Int32).toInt) < Int.toNat (2 * (200 - k40_ps.toInt) + k40_5.toInt) by have zc_k40_5 : (1 : Int32).toInt = 1 := (by decide +kernel); omega) ⟨lv_sub hl [0, 2, 3, 4, 5, 6] rfl, hP.sub [1, 2, 3, 4, 0] rfl, hD.sub [1, 2, 3, 4, 0] (by decide +kernel) rfl, hS, ⟨by decide, by decide⟩, i_46, i_47, ⟨by omega, by omega⟩, i_48, i_49, i_50, ⟨by omega, by omega⟩, pt_upd i_9 (by omega), fun _ => ⟨lka_go (n := (k40_ps + 1)) hLA (by rw [← i_15]; exact fun q9 => q9.elim (fun q8 => by unfold gNe at *; omega) i_23) i_15 (by omega) rfl (by omega) (i_34.elim (fun q8 => absurd q8.1 (by omega)) (fun q8 => q8.2.2)) (i_51.elim (fun q8 => absurd q8.1 (by omega)) (fun q8 => q8.2)) (by omega), (i_34.elim (fun q8 => absurd q8.1 (by omega)) (fun q8 => q8.2.1)).trans hSN⟩, fun q9 => absurd q9 (by decide +kernel)⟩
        ·
          have i_21 : z17.toInt < 0 := g5_geN (a := z17.toInt) (b := 0) rfl (by decide +kernel) c_21
          omega
set_option maxHeartbeats 4000000 in
set_option maxRecDepth 100000 in
theorem t_findX_P (l : Launch) (G : g5_G) (a_t a_n : Nat) (sz : Nat) (e_n : Int32) (p_c : Int32) (p_v : Int32) (f_n : Nat → Int32) (h_e_n : 0 ≤ e_n.toInt ∧ e_n.toInt ≤ 8) : Met l yX6_find (wsG yX6_find cX6_find 4 (some .int)) ({ frames := 1, cells := 0, slots := 0, locals := 22 }) (va_Pc [.ref a_t, .int p_c, .int p_v] (g5_P G [(a_t, (oc6 8 5 a_n e_n)), (a_n, (arI G 40 f_n))] sz)) (va_Qi (fun (r : Int32) (u : va_W) => ((∀ r : Int, 0 ≤ r → r < e_n.toInt → tget f_n e_n.toInt 5 r p_c.toInt ≠ p_v) ∧ (r = (-1)) ∧ (u = [(a_t, (oc6 8 5 a_n e_n)), (a_n, (arI G 40 f_n))])) ∨ (∃ (o_r : Int32), (0 ≤ o_r.toInt ∧ o_r.toInt < e_n.toInt) ∧ (tget f_n e_n.toInt 5 o_r.toInt p_c.toInt = p_v) ∧ (∀ r : Int, 0 ≤ r → r < o_r.toInt → tget f_n e_n.toInt 5 r p_c.toInt ≠ p_v) ∧ (r = o_r) ∧ (u = [(a_t, (oc6 8 5 a_n e_n)), (a_n, (arI G 40 f_n))]))) (g5_B G (va_A [(a_t, (oc6 8 5 a_n e_n)), (a_n, (arI G 40 f_n))] sz)) (va_A [(a_t, (oc6 8 5 a_n e_n)), (a_n, (arI G 40 f_n))] sz)) 0 0 (va_A [(a_t, (oc6 8 5 a_n e_n)), (a_n, (arI G 40 f_n))] sz) := by
  refine Met.ofW (cc := cX6_find) (maxL := 4) (ret := (some .int)) (by decide +kernel) rfl ?_
  intro p e s m args below meth c s₁ B hml hv
  obtain ⟨rfl, hsz, hP, hK, hD0, hN, hT⟩ := hv
  have hx := B.exec
  have hb := B.bytes
  have hr := B.returns
  have hts : ∀ w ∈ tblG, w.before _ s = true := fun w h => atoms_spec (ws := (wsG yX6_find cX6_find 4 (some .int))) B.pre w (List.mem_cons_of_mem _ h)
  have hown : s.vm.findClass RX6 = some m.cls := findClass_of_methodNamed B.named
  have hlocks := B.notSynchronized
  subst hsz
  have hD := hD0.self (sz := s.heap.size)
  generalize hAe : va_A [(a_t, (oc6 8 5 a_n e_n)), (a_n, (arI G 40 f_n))] s.heap.size = A at hD hT ⊢
  have hA : ∀ q : Nat, s.heap.size ≤ q → A q := fun q h => by rw [← hAe]; exact Or.inr h
  have hS : va_S A s.heap s.heap [] := va_S.rf
  replace hP : va_P G.1 vwCl [(a_t, (oc6 8 5 a_n e_n)), (a_n, (arI G 40 f_n))] s.heap := hP
  have hl := lv_entry ([.ref a_t, .int p_c, .int p_v]) (n := 4) (Nat.le_of_ble_eq_true rfl)
  rw [lg_entry_eq]
  generalize (lg_sl ([.ref a_t, .int p_c, .int p_v]) ++ List.replicate (4 - (lg_sl ([.ref a_t, .int p_c, .int p_v])).length) Slot.unset).toArray = ls at hl ⊢
  replace hl : lv_has ls 4 [(0, .ref a_t), (1, .int p_c), (2, .int p_v)] := hl
  refine lv_iconst (v := 0) hx hb dX6_find_0 (by decide +kernel) ?_
  refine lv_istore_n (lv' := [(3, .int 0), (0, .ref a_t), (1, .int p_c), (2, .int p_v)]) hx hb dX6_find_1 rfl hl (by decide +kernel) rfl ?_
  clear hl
  intro ls hl
  refine g5_loop (α := (Int32)) (fun (k_r : (Int32)) (ls : Array Slot) (H : Heap) (locs : List Loc) => lv_has ls 4 [(3, .int k_r), (0, .ref a_t), (1, .int p_c), (2, .int p_v)] ∧ va_P G.1 vwCl [(a_t, (oc6 8 5 a_n e_n)), (a_n, (arI G 40 f_n))] H ∧ va_D A [(a_t, (oc6 8 5 a_n e_n)), (a_n, (arI G 40 f_n))] ∧ va_S A s.heap H locs ∧ (0 ≤ k_r.toInt ∧ k_r.toInt ≤ 8) ∧ (k_r.toInt ≤ e_n.toInt) ∧ (∀ r : Int, 0 ≤ r → r < k_r.toInt → tget f_n e_n.toInt 5 r p_c.toInt ≠ p_v)) (fun (k_r : (Int32)) => Int.toNat (8 - k_r.toInt)) 0 ⟨lv_sub hl [0, 1, 2, 3] rfl, hP, hD, hS, ⟨by decide, by decide⟩, by have z0 : (0 : Int32).toInt = 0 := (by decide +kernel); omega, fun r h1 h2 => absurd h2 (by have z : (0 : Int32).toInt = 0 := (by decide +kernel); omega)⟩ ?_
  rintro k_r ls H locs ⟨hl, hP, hD, hS, (i_1 : 0 ≤ k_r.toInt ∧ k_r.toInt ≤ 8), (i_2 : k_r.toInt ≤ e_n.toInt), (i_3 : ∀ r : Int, 0 ≤ r → r < k_r.toInt → tget f_n e_n.toInt 5 r p_c.toInt ≠ p_v)⟩ ih_2_4
  replace hl : lv_has ls 4 [(3, .int k_r), (0, .ref a_t), (1, .int p_c), (2, .int p_v)] := hl
  refine g5_rs [(a_t, (oc6 8 5 a_n e_n)), (a_n, (arI G 40 f_n))] hP hD ?_
  clear hP hD
  intro hP hD
  refine lv_iload_n hx hb dX6_find_2 rfl (lv_at hl 0 rfl) ?_
  refine lv_aload_n hx hb dX6_find_3 rfl (lv_at hl 1 rfl) ?_
  refine va_get (D := G.1) (ci := 6) (v := .int e_n) (C := RX6) (T := TX6) (N := 4) hx hb hts inG_X6 hown hK hP 0 rfl rfl 3 (by decide +kernel) (hts _ fl_X6_9) (fun _ h9 => h9) rfl dX6_find_4 ?_
  refine lv_icmp_ge (tgt := 28) hx hb dX6_find_7 (by decide +kernel) (fun c_5 => ?_) (fun c_5 => ?_)
  ·
    have i_5 : k_r.toInt ≥ e_n.toInt := g5_ge (a := k_r.toInt) (b := e_n.toInt) rfl rfl c_5
    refine lv_iconst (v := (-1)) hx hb dX6_find_28 (by decide +kernel) ?_
    exact W.iret (v := (-1)) hx hb hr (fun t ht hW => ⟨⟨(-1), [(a_t, (oc6 8 5 a_n e_n)), (a_n, (arI G 40 f_n))], rfl, Or.inl (⟨fun r h1 h2 => i_3 r h1 (by omega), rfl, rfl⟩), by rw [ht]; exact hP.sub [0, 1] rfl, hD.sub [0, 1] (by decide +kernel) rfl⟩, hS.F ht⟩) hS.2.2 dX6_find_29
  ·
    have i_5 : k_r.toInt < e_n.toInt := g5_geN (a := k_r.toInt) (b := e_n.toInt) rfl rfl c_5
    refine lv_aload_n hx hb dX6_find_10 rfl (lv_at hl 1 rfl) ?_
    refine lv_iload_n hx hb dX6_find_11 rfl (lv_at hl 0 rfl) ?_
    refine lv_iload_n hx hb dX6_find_12 rfl (lv_at hl 2 rfl) ?_
    obtain ⟨hPc, hDc, hFc⟩ := g5_sub3 (wc := [(a_t, (oc6 8 5 a_n e_n)), (a_n, (arI G 40 f_n))]) hP hD hS hA [0, 1] (by decide +kernel) rfl
    refine va_calli (va_runV (As := [.int k_r, .int p_c]) (rest := []) ⟨hx, hb, hml, hown, hts⟩ (t_get_P l G a_t a_n H.size e_n k_r p_c f_n h_e_n) (cwV 2 hts gV_X6_43 rfl rfl rfl hv_X6_get ⟨Nat.le_of_ble_eq_true rfl, Nat.le_of_ble_eq_true rfl⟩) (g5_preV hPc hK hDc hN hT hS hFc (ci := 6) (q0 := 0) rfl rfl) rfl rfl hl.1 rfl (lv_room (Nat.le_of_ble_eq_true rfl)) dX6_find_13 ⟨Nat.le_of_ble_eq_true rfl, Nat.le_of_ble_eq_true rfl⟩) hS (fun q _ h => hFc q h) hFc (fun r u t H locs ht hvm hw hB hz1 hk1 hS => ?_)
    obtain ⟨hP1, hD1⟩ := hB
    have hP1 := g5_ht ht hP1
    obtain ⟨z7, (i_6 : z7 = tget f_n e_n.toInt 5 k_r.toInt p_c.toInt), y8, rfl⟩ := hw
    have hJ9 := va_join (wr := []) hP hD [0, 1] [] rfl rfl (by decide +kernel) (by decide +kernel) hk1 hFc hP1 hD1
    clear hP hD hPc hDc hFc ht hvm hz1 hk1 hP1 hD1
    obtain ⟨hP, hD⟩ := hJ9
    refine g5_rs [(a_t, (oc6 8 5 a_n e_n)), (a_n, (arI G 40 f_n))] hP hD ?_
    clear hP hD
    intro hP hD
    refine g5_ti (v := z7) y8 ?_
    refine W.eq (g2 := F0 m 16 ls [.int z7]) rfl ?_
    refine lv_iload_n hx hb dX6_find_16 rfl (lv_at hl 3 rfl) ?_
    refine lv_icmp_ne (tgt := 22) hx hb dX6_find_17 (by decide +kernel) (fun c_9 => ?_) (fun c_9 => ?_)
    ·
      have n_9 : gNe (z7.toInt) (p_v.toInt) := g5_ne (a := z7.toInt) (b := p_v.toInt) rfl rfl c_9
      refine lv_iinc (v := (k_r + 1)) (lv' := [(3, .int (k_r + 1)), (0, .ref a_t), (1, .int p_c), (2, .int p_v)]) hx hb dX6_find_22 hl (k := 0) rfl rfl (by decide +kernel) rfl ?_
      clear hl
      intro ls hl
      have t_10 : (k_r + 1).toInt = k_r.toInt + 1 := g5_iadd (a := k_r.toInt) (b := 1) rfl (by decide +kernel) (by omega) (by omega)
      refine lv_goto (tgt := 2) hx hb dX6_find_25 (by decide +kernel) ?_
      exact ih_2_4 (k_r + 1) ls H locs (show Int.toNat (8 - (k_r + 1).toInt) < Int.toNat (8 - k_r.toInt) from g_up (show k_r.toInt < (k_r + 1).toInt by omega) (show k_r.toInt < 8 by omega)) ⟨lv_sub hl [0, 1, 2, 3] rfl, hP, hD, hS, ⟨by omega, by omega⟩, by omega, fun r h1 h2 => by rcases (show r < k_r.toInt ∨ r = k_r.toInt by omega) with q | q; exact i_3 r h1 q; rw [q, ← i_6]; intro q2; rw [q2] at n_9; exact absurd rfl n_9⟩
    ·
      have i_9 : z7.toInt = p_v.toInt := g5_neN (a := z7.toInt) (b := p_v.toInt) rfl rfl c_9
      refine lv_iload_n hx hb dX6_find_20 rfl (lv_at hl 0 rfl) ?_
      exact W.iret (v := k_r) hx hb hr (fun t ht hW => ⟨⟨k_r, [(a_t, (oc6 8 5 a_n e_n)), (a_n, (arI G 40 f_n))], rfl, Or.inr (⟨k_r, ⟨by omega, by omega⟩, by rw [← i_6]; exact Int32.toInt_inj.mp (by omega), i_3, rfl, rfl⟩), by rw [ht]; exact hP.sub [0, 1] rfl, hD.sub [0, 1] (by decide +kernel) rfl⟩, hS.F ht⟩) hS.2.2 dX6_find_21
set_option maxHeartbeats 4000000 in
set_option maxRecDepth 100000 in
theorem k_hungX (l : Launch) (G : g5_G) (a_k a_h a_p a_pn a_j a_pt a_l a_g a_b a_s a_w a_bb : Nat) (sz : Nat) (e_le : Int32) (e_st : Int32) (e_fo : Int32) (e_lc : Int32) (e_p : Int32) (e_ln : Int32) (e_se : Int32) (e_lh : Int32) (e_br : Int32) (e_we : Int32) (e_me : Int32) (e_ce : Int32) (e_wy : Int32) (e_ho : Int32) (e_ov : Int32) (p_h : Int32) (e_wa : Int64) (e_gb : Int64) (f_p : Nat → Int32) (h_e_p : 0 ≤ e_p.toInt ∧ e_p.toInt ≤ 8) (h_e_ov : 0 ≤ e_ov.toInt ∧ e_ov.toInt ≤ 1) (e_pc : ∀ r : Int, 0 ≤ r → r < e_p.toInt → 0 ≤ (tget f_p e_p.toInt 5 r (0 : Int32).toInt).toInt ∧ (tget f_p e_p.toInt 5 r (0 : Int32).toInt).toInt ≤ 63) : Met l yX5_hungBoard (wsG yX5_hungBoard cX5_hungBoard 5 (some .long)) ({ frames := 1, cells := 0, slots := 0, locals := 22 }) (va_Pc [.ref a_k, .int p_h] (g5_P G [(a_k, (oc5 a_h a_j a_pt e_ln e_se e_lh e_br e_we e_me e_ce e_wy e_ho e_ov)), (a_h, (oc1 e_wa e_le e_st e_fo e_lc a_l a_g a_b a_s a_p a_w e_gb a_bb)), (a_p, (oc6 8 5 a_pn e_p)), (a_pn, (arI G 40 f_p))] sz)) (va_Ql (fun (r : Int64) (u : va_W) => (∃ (o_r : Int64), (HUB o_r f_p e_p.toInt p_h e_p.toInt) ∧ (r = o_r) ∧ (u = [(a_k, (oc5 a_h a_j a_pt e_ln e_se e_lh e_br e_we e_me e_ce e_wy e_ho e_ov)), (a_h, (oc1 e_wa e_le e_st e_fo e_lc a_l a_g a_b a_s a_p a_w e_gb a_bb)), (a_p, (oc6 8 5 a_pn e_p)), (a_pn, (arI G 40 f_p))]))) (g5_B G (va_A [(a_k, (oc5 a_h a_j a_pt e_ln e_se e_lh e_br e_we e_me e_ce e_wy e_ho e_ov)), (a_h, (oc1 e_wa e_le e_st e_fo e_lc a_l a_g a_b a_s a_p a_w e_gb a_bb)), (a_p, (oc6 8 5 a_pn e_p)), (a_pn, (arI G 40 f_p))] sz)) (va_A [(a_k, (oc5 a_h a_j a_pt e_ln e_se e_lh e_br e_we e_me e_ce e_wy e_ho e_ov)), (a_h, (oc1 e_wa e_le e_st e_fo e_lc a_l a_g a_b a_s a_p a_w e_gb a_bb)), (a_p, (oc6 8 5 a_pn e_p)), (a_pn, (arI G 40 f_p))] sz)) 0 0 (va_A [(a_k, (oc5 a_h a_j a_pt e_ln e_se e_lh e_br e_we e_me e_ce e_wy e_ho e_ov)), (a_h, (oc1 e_wa e_le e_st e_fo e_lc a_l a_g a_b a_s a_p a_w e_gb a_bb)), (a_p, (oc6 8 5 a_pn e_p)), (a_pn, (arI G 40 f_p))] sz) := by
  refine Met.ofW (cc := cX5_hungBoard) (maxL := 5) (ret := (some .long)) (by decide +kernel) rfl ?_
  intro p e s m args below meth c s₁ B hml hv
  obtain ⟨rfl, hsz, hP, hK, hD0, hN, hT⟩ := hv
  have hx := B.exec
  have hb := B.bytes
  have hr := B.returns
  have hts : ∀ w ∈ tblG, w.before _ s = true := fun w h => atoms_spec (ws := (wsG yX5_hungBoard cX5_hungBoard 5 (some .long))) B.pre w (List.mem_cons_of_mem _ h)
  have hown : s.vm.findClass RX5 = some m.cls := findClass_of_methodNamed B.named
  have hlocks := B.notSynchronized
  subst hsz
  have hD := hD0.self (sz := s.heap.size)
  generalize hAe : va_A [(a_k, (oc5 a_h a_j a_pt e_ln e_se e_lh e_br e_we e_me e_ce e_wy e_ho e_ov)), (a_h, (oc1 e_wa e_le e_st e_fo e_lc a_l a_g a_b a_s a_p a_w e_gb a_bb)), (a_p, (oc6 8 5 a_pn e_p)), (a_pn, (arI G 40 f_p))] s.heap.size = A at hD hT ⊢
  have hA : ∀ q : Nat, s.heap.size ≤ q → A q := fun q h => by rw [← hAe]; exact Or.inr h
  have hS : va_S A s.heap s.heap [] := va_S.rf
  replace hP : va_P G.1 vwCl [(a_k, (oc5 a_h a_j a_pt e_ln e_se e_lh e_br e_we e_me e_ce e_wy e_ho e_ov)), (a_h, (oc1 e_wa e_le e_st e_fo e_lc a_l a_g a_b a_s a_p a_w e_gb a_bb)), (a_p, (oc6 8 5 a_pn e_p)), (a_pn, (arI G 40 f_p))] s.heap := hP
  have hl := lv_entry ([.ref a_k, .int p_h]) (n := 5) (Nat.le_of_ble_eq_true rfl)
  rw [lg_entry_eq]
  generalize (lg_sl ([.ref a_k, .int p_h]) ++ List.replicate (5 - (lg_sl ([.ref a_k, .int p_h])).length) Slot.unset).toArray = ls at hl ⊢
  replace hl : lv_has ls 5 [(0, .ref a_k), (1, .int p_h)] := hl
  refine lv_lconst (v := 0) hx hb dX5_hungBoard_0 (by decide +kernel) ?_
  refine lv_lstore_n (lv' := [(2, .long 0), (0, .ref a_k), (1, .int p_h)]) hx hb dX5_hungBoard_1 rfl hl (by decide +kernel) rfl ?_
  clear hl
  intro ls hl
  refine lv_iconst (v := 0) hx hb dX5_hungBoard_2 (by decide +kernel) ?_
  refine lv_istore (lv' := [(4, .int 0), (2, .long 0), (0, .ref a_k), (1, .int p_h)]) hx hb dX5_hungBoard_3 hl (by decide +kernel) rfl ?_
  clear hl
  intro ls hl
  refine g5_loop (α := (Int32) × (Int64)) (fun (q : (Int32) × (Int64)) (ls : Array Slot) (H : Heap) (locs : List Loc) => match q with | (k_s, k_x) => lv_has ls 5 [(2, .long k_x), (4, .int k_s), (0, .ref a_k), (1, .int p_h)] ∧ va_P G.1 vwCl [(a_k, (oc5 a_h a_j a_pt e_ln e_se e_lh e_br e_we e_me e_ce e_wy e_ho e_ov)), (a_h, (oc1 e_wa e_le e_st e_fo e_lc a_l a_g a_b a_s a_p a_w e_gb a_bb)), (a_p, (oc6 8 5 a_pn e_p)), (a_pn, (arI G 40 f_p))] H ∧ va_D A [(a_k, (oc5 a_h a_j a_pt e_ln e_se e_lh e_br e_we e_me e_ce e_wy e_ho e_ov)), (a_h, (oc1 e_wa e_le e_st e_fo e_lc a_l a_g a_b a_s a_p a_w e_gb a_bb)), (a_p, (oc6 8 5 a_pn e_p)), (a_pn, (arI G 40 f_p))] ∧ va_S A s.heap H locs ∧ (0 ≤ k_s.toInt ∧ k_s.toInt ≤ 8) ∧ (k_s.toInt ≤ e_p.toInt) ∧ (HUB k_x f_p e_p.toInt p_h k_s.toInt)) (fun (q : (Int32) × (Int64)) => match q with | (k_s, k_x) => Int.toNat (8 - k_s.toInt)) (0, 0) ⟨lv_sub hl [1, 0, 2, 3] rfl, hP, hD, hS, ⟨by decide, by decide⟩, by have z0 : (0 : Int32).toInt = 0 := (by decide +kernel); omega, hub_0 (by decide +kernel)⟩ ?_
  rintro ⟨k_s, k_x⟩ ls H locs ⟨hl, hP, hD, hS, (i_1 : 0 ≤ k_s.toInt ∧ k_s.toInt ≤ 8), (i_2 : k_s.toInt ≤ e_p.toInt), (i_3 : HUB k_x f_p e_p.toInt p_h k_s.toInt)⟩ ih_5_4
  replace hl : lv_has ls 5 [(2, .long k_x), (4, .int k_s), (0, .ref a_k), (1, .int p_h)] := hl
  refine g5_rs [(a_k, (oc5 a_h a_j a_pt e_ln e_se e_lh e_br e_we e_me e_ce e_wy e_ho e_ov)), (a_h, (oc1 e_wa e_le e_st e_fo e_lc a_l a_g a_b a_s a_p a_w e_gb a_bb)), (a_p, (oc6 8 5 a_pn e_p)), (a_pn, (arI G 40 f_p))] hP hD ?_
  clear hP hD
  intro hP hD
  refine lv_iload_n hx hb dX5_hungBoard_5 rfl (lv_at hl 3 rfl) ?_
  refine lv_iload hx hb dX5_hungBoard_6 (lv_at hl 1 rfl) ?_
  refine lv_ishr hx hb dX5_hungBoard_8 ?_
  refine lv_if_eq (tgt := 64) hx hb dX5_hungBoard_9 (by decide +kernel) (fun c_5 => ?_) (fun c_5 => ?_)
  ·
    have i_5 : (p_h >>> (k_s &&& 31)).toInt = 0 := g5_eq (a := (p_h >>> (k_s &&& 31)).toInt) (b := 0) rfl (by decide +kernel) c_5
    refine lv_lload_n hx hb dX5_hungBoard_64 rfl (lv_at hl 0 rfl) ?_
    exact W.lret (v := k_x) hx hb hr (fun t ht hW => ⟨⟨k_x, [(a_k, (oc5 a_h a_j a_pt e_ln e_se e_lh e_br e_we e_me e_ce e_wy e_ho e_ov)), (a_h, (oc1 e_wa e_le e_st e_fo e_lc a_l a_g a_b a_s a_p a_w e_gb a_bb)), (a_p, (oc6 8 5 a_pn e_p)), (a_pn, (arI G 40 f_p))], rfl, ⟨k_x, hub_e i_3 (by omega) (by omega) (by omega), rfl, rfl⟩, by rw [ht]; exact hP.sub [0, 1, 2, 3] rfl, hD.sub [0, 1, 2, 3] (by decide +kernel) rfl⟩, hS.F ht⟩) hS.2.2 dX5_hungBoard_65
  ·
    have n_5 : gNe ((p_h >>> (k_s &&& 31)).toInt) (0) := g5_eqN (a := (p_h >>> (k_s &&& 31)).toInt) (b := 0) rfl (by decide +kernel) c_5
    refine lv_iload hx hb dX5_hungBoard_12 (lv_at hl 1 rfl) ?_
    refine lv_aload_n hx hb dX5_hungBoard_14 rfl (lv_at hl 2 rfl) ?_
    refine va_get (D := G.1) (ci := 5) (v := .ref a_h) (C := RX5) (T := TX5) (N := 13) hx hb hts inG_X5 hown hK hP 0 rfl rfl 0 (by decide +kernel) (hts _ fl_X5_22) (fun _ h9 => h9) rfl dX5_hungBoard_15 ?_
    refine va_get (D := G.1) (ci := 1) (v := .ref a_p) (C := RX1) (T := TX1) (N := 13) hx hb hts inG_X1 hown hK hP 1 rfl rfl 9 (by decide +kernel) (hts _ fl_X5_98) (fun _ h9 => h9) rfl dX5_hungBoard_18 ?_
    refine W.eq (g2 := F0 m 21 ls [.ref a_p, .int k_s]) rfl ?_
    refine va_get (D := G.1) (ci := 6) (v := .int e_p) (C := RX6) (T := TX6) (N := 4) hx hb hts inG_X6 hown hK hP 2 rfl rfl 3 (by decide +kernel) (hts _ fl_X5_102) (fun _ h9 => h9) rfl dX5_hungBoard_21 ?_
    refine lv_icmp_ge (tgt := 64) hx hb dX5_hungBoard_24 (by decide +kernel) (fun c_6 => ?_) (fun c_6 => ?_)
    ·
      have i_6 : k_s.toInt ≥ e_p.toInt := g5_ge (a := k_s.toInt) (b := e_p.toInt) rfl rfl c_6
      refine lv_lload_n hx hb dX5_hungBoard_64 rfl (lv_at hl 0 rfl) ?_
      exact W.lret (v := k_x) hx hb hr (fun t ht hW => ⟨⟨k_x, [(a_k, (oc5 a_h a_j a_pt e_ln e_se e_lh e_br e_we e_me e_ce e_wy e_ho e_ov)), (a_h, (oc1 e_wa e_le e_st e_fo e_lc a_l a_g a_b a_s a_p a_w e_gb a_bb)), (a_p, (oc6 8 5 a_pn e_p)), (a_pn, (arI G 40 f_p))], rfl, ⟨k_x, hub_m i_3 (by omega), rfl, rfl⟩, by rw [ht]; exact hP.sub [0, 1, 2, 3] rfl, hD.sub [0, 1, 2, 3] (by decide +kernel) rfl⟩, hS.F ht⟩) hS.2.2 dX5_hungBoard_65
    ·
      have i_6 : k_s.toInt < e_p.toInt := g5_geN (a := k_s.toInt) (b := e_p.toInt) rfl rfl c_6
      refine lv_lload_n hx hb dX5_hungBoard_27 rfl (lv_at hl 0 rfl) ?_
      refine lv_iload_n hx hb dX5_hungBoard_28 rfl (lv_at hl 3 rfl) ?_
      refine lv_iload hx hb dX5_hungBoard_29 (lv_at hl 1 rfl) ?_
      refine lv_ishr hx hb dX5_hungBoard_31 ?_
      refine W.eq (g2 := F0 m 32 ls [.int (p_h >>> (k_s &&& 31)), .long k_x]) rfl ?_
      refine lv_iconst (v := 1) hx hb dX5_hungBoard_32 (by decide +kernel) ?_
      refine lv_iand hx hb dX5_hungBoard_33 ?_
      refine lv_if_ne (tgt := 41) hx hb dX5_hungBoard_34 (by decide +kernel) (fun c_7 => ?_) (fun c_7 => ?_)
      ·
        have n_7 : gNe (((p_h >>> (k_s &&& 31)) &&& 1).toInt) (0) := g5_ne (a := ((p_h >>> (k_s &&& 31)) &&& 1).toInt) (b := 0) rfl (by decide +kernel) c_7
        refine lv_lconst (v := 1) hx hb dX5_hungBoard_41 (by decide +kernel) ?_
        refine lv_aload_n hx hb dX5_hungBoard_42 rfl (lv_at hl 2 rfl) ?_
        refine va_get (D := G.1) (ci := 5) (v := .ref a_h) (C := RX5) (T := TX5) (N := 13) hx hb hts inG_X5 hown hK hP 0 rfl rfl 0 (by decide +kernel) (hts _ fl_X5_22) (fun _ h9 => h9) rfl dX5_hungBoard_43 ?_
        refine va_get (D := G.1) (ci := 1) (v := .ref a_p) (C := RX1) (T := TX1) (N := 13) hx hb hts inG_X1 hown hK hP 1 rfl rfl 9 (by decide +kernel) (hts _ fl_X5_98) (fun _ h9 => h9) rfl dX5_hungBoard_46 ?_
        refine W.eq (g2 := F0 m 49 ls [.ref a_p, .long 1, .long k_x]) rfl ?_
        refine lv_iload hx hb dX5_hungBoard_49 (lv_at hl 1 rfl) ?_
        refine lv_iconst (v := 0) hx hb dX5_hungBoard_51 (by decide +kernel) ?_
        obtain ⟨hPc, hDc, hFc⟩ := g5_sub3 (wc := [(a_p, (oc6 8 5 a_pn e_p)), (a_pn, (arI G 40 f_p))]) hP hD hS hA [2, 3] (by decide +kernel) rfl
        refine va_calli (va_runV (As := [.int k_s, .int 0]) (rest := [.long 1, .long k_x]) ⟨hx, hb, hml, hown, hts⟩ (t_get_P l G a_p a_pn H.size e_p k_s 0 f_p h_e_p) (cwV 2 hts gV_X5_107 rfl rfl rfl hv_X6_get ⟨Nat.le_of_ble_eq_true rfl, Nat.le_of_ble_eq_true rfl⟩) (g5_preV hPc hK hDc hN hT hS hFc (ci := 6) (q0 := 0) rfl rfl) rfl rfl hl.1 rfl (lv_room (Nat.le_of_ble_eq_true rfl)) dX5_hungBoard_52 ⟨Nat.le_of_ble_eq_true rfl, Nat.le_of_ble_eq_true rfl⟩) hS (fun q _ h => hFc q h) hFc (fun r u t H locs ht hvm hw hB hz1 hk1 hS => ?_)
        obtain ⟨hP1, hD1⟩ := hB
        have hP1 := g5_ht ht hP1
        obtain ⟨z9, (i_8 : z9 = tget f_p e_p.toInt 5 k_s.toInt (0 : Int32).toInt), y10, rfl⟩ := hw
        have hJ9 := va_join (wr := [(a_k, (oc5 a_h a_j a_pt e_ln e_se e_lh e_br e_we e_me e_ce e_wy e_ho e_ov)), (a_h, (oc1 e_wa e_le e_st e_fo e_lc a_l a_g a_b a_s a_p a_w e_gb a_bb))]) hP hD [2, 3] [0, 1] rfl rfl (by decide +kernel) (by decide +kernel) hk1 hFc hP1 hD1
        clear hP hD hPc hDc hFc ht hvm hz1 hk1 hP1 hD1
        obtain ⟨hP, hD⟩ := hJ9
        refine g5_rs [(a_k, (oc5 a_h a_j a_pt e_ln e_se e_lh e_br e_we e_me e_ce e_wy e_ho e_ov)), (a_h, (oc1 e_wa e_le e_st e_fo e_lc a_l a_g a_b a_s a_p a_w e_gb a_bb)), (a_p, (oc6 8 5 a_pn e_p)), (a_pn, (arI G 40 f_p))] hP hD ?_
        clear hP hD
        intro hP hD
        refine g5_ti (v := z9) y10 ?_
        refine lv_lshl (v := ((1 : Int64) <<< (z9.toInt64 &&& 63))) hx hb dX5_hungBoard_55 rfl ?_
        refine lv_lor hx hb dX5_hungBoard_56 ?_
        refine W.eq (g2 := F0 m 57 ls [.long (k_x ||| ((1 : Int64) <<< (z9.toInt64 &&& 63)))]) rfl ?_
        refine lv_lstore_n (lv' := [(2, .long (k_x ||| ((1 : Int64) <<< (z9.toInt64 &&& 63)))), (4, .int k_s), (0, .ref a_k), (1, .int p_h)]) hx hb dX5_hungBoard_57 rfl hl (by decide +kernel) rfl ?_
        clear hl
        intro ls hl
        refine lv_iinc (v := (k_s + 1)) (lv' := [(4, .int (k_s + 1)), (2, .long (k_x ||| ((1 : Int64) <<< (z9.toInt64 &&& 63)))), (0, .ref a_k), (1, .int p_h)]) hx hb dX5_hungBoard_58 hl (k := 1) rfl rfl (by decide +kernel) rfl ?_
        clear hl
        intro ls hl
        have t_11 : (k_s + 1).toInt = k_s.toInt + 1 := g5_iadd (a := k_s.toInt) (b := 1) rfl (by decide +kernel) (by omega) (by omega)
        refine lv_goto (tgt := 5) hx hb dX5_hungBoard_61 (by decide +kernel) ?_
        exact ih_5_4 ((k_s + 1), (k_x ||| ((1 : Int64) <<< (z9.toInt64 &&& 63)))) ls H locs (show Int.toNat (8 - (k_s + 1).toInt) < Int.toNat (8 - k_s.toInt) from g_up (show k_s.toInt < (k_s + 1).toInt by omega) (show k_s.toInt < 8 by omega)) ⟨lv_sub hl [1, 0, 2, 3] rfl, hP, hD, hS, ⟨by omega, by omega⟩, by omega, hub_y i_3 (by omega) (by unfold isQ; first | omega | (unfold gNe at *; omega)) i_8 (by rw [i_8]; exact e_pc _ (by omega) (by omega)) (by omega) rfl⟩
      ·
        have i_7 : ((p_h >>> (k_s &&& 31)) &&& 1).toInt = 0 := g5_neN (a := ((p_h >>> (k_s &&& 31)) &&& 1).toInt) (b := 0) rfl (by decide +kernel) c_7
        refine lv_lconst (v := 0) hx hb dX5_hungBoard_37 (by decide +kernel) ?_
        refine lv_goto (tgt := 56) hx hb dX5_hungBoard_38 (by decide +kernel) ?_
        refine lv_lor hx hb dX5_hungBoard_56 ?_
        refine g5_tl (v := k_x) (by simp) ?_
        refine lv_lstore_n (lv' := [(2, .long k_x), (4, .int k_s), (0, .ref a_k), (1, .int p_h)]) hx hb dX5_hungBoard_57 rfl hl (by decide +kernel) rfl ?_
        clear hl
        intro ls hl
        refine W.eq (g2 := F0 m 58 ls []) rfl ?_
        refine lv_iinc (v := (k_s + 1)) (lv' := [(4, .int (k_s + 1)), (2, .long k_x), (0, .ref a_k), (1, .int p_h)]) hx hb dX5_hungBoard_58 hl (k := 1) rfl rfl (by decide +kernel) rfl ?_
        clear hl
        intro ls hl
        have t_12 : (k_s + 1).toInt = k_s.toInt + 1 := g5_iadd (a := k_s.toInt) (b := 1) rfl (by decide +kernel) (by omega) (by omega)
        refine lv_goto (tgt := 5) hx hb dX5_hungBoard_61 (by decide +kernel) ?_
        exact ih_5_4 ((k_s + 1), k_x) ls H locs (show Int.toNat (8 - (k_s + 1).toInt) < Int.toNat (8 - k_s.toInt) from g_up (show k_s.toInt < (k_s + 1).toInt by omega) (show k_s.toInt < 8 by omega)) ⟨lv_sub hl [1, 0, 2, 3] rfl, hP, hD, hS, ⟨by omega, by omega⟩, by omega, hub_n i_3 (by omega) (fun q9 => by unfold isQ at q9; first | omega | (unfold gNe at *; omega)) (by omega)⟩
