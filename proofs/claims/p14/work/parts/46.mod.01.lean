set_option maxHeartbeats 4000000 in
set_option maxRecDepth 100000 in
theorem n_rowsAt (l : Launch) (G : g5_G) (b_o b_ah b_be b_rf b_ro b_im b_ke b_tp b_nl b_op b_ar b_pi b_pa b_ws b_hw b_se b_re b_pt b_ip b_me b_tr b_ld b_wn : Nat) (sz : Nat) (u_th : Int32) (u_sa : Int32) (u_fd : Int32) (u_td : Int32) (u_fr : Int32) (u_to : Int32) (u_so : Int32) (u_fa : Int32) (u_bd : Int32) (u_nc : Int32) (u_co : Int32) (u_le : Int32) (u_pd : Int32) (u_od : Int32) (u_la : Int32) (u_bk : Int32) (u_ce : Int32) (u_ho : Int32) (u_wy : Int32) (u_bt : Int32) (u_ps : Int32) (u_tg : Int32) (u_sn : Int32) (u_ic : Int32) (u_wd : Int32) (u_id : Int32) (p_1 : Int32) (p_2 : Int32) (u_wo : Int64) (u_va : Int64) (u_su : Int64) (u_st : Int64) (v_ah : Nat → Int64) (v_be : Nat → Int64) (h_u_td : 0 ≤ u_td.toInt ∧ u_td.toInt ≤ 400) (h_u_fr : 0 ≤ u_fr.toInt ∧ u_fr.toInt ≤ 400) (h_u_to : 0 ≤ u_to.toInt ∧ u_to.toInt ≤ 400) (h_u_bd : 0 ≤ u_bd.toInt ∧ u_bd.toInt ≤ 1) (h_u_nc : 0 ≤ u_nc.toInt ∧ u_nc.toInt ≤ 12) (h_u_co : 0 ≤ u_co.toInt ∧ u_co.toInt ≤ 400) (h_u_pd : 0 ≤ u_pd.toInt ∧ u_pd.toInt ≤ 400) (h_u_la : 0 ≤ u_la.toInt ∧ u_la.toInt ≤ 4840) (h_u_bk : 0 ≤ u_bk.toInt ∧ u_bk.toInt ≤ 1) (h_u_ce : 0 ≤ u_ce.toInt ∧ u_ce.toInt ≤ 63) (h_u_ho : 0 ≤ u_ho.toInt ∧ u_ho.toInt ≤ 23) (h_u_wy : 0 ≤ u_wy.toInt ∧ u_wy.toInt ≤ 3) (h_u_bt : 0 ≤ u_bt.toInt ∧ u_bt.toInt ≤ 1000000) (h_u_ps : 0 ≤ u_ps.toInt ∧ u_ps.toInt ≤ 200) (h_u_ic : 0 ≤ u_ic.toInt ∧ u_ic.toInt ≤ 1) (h_u_id : 0 ≤ u_id.toInt ∧ u_id.toInt ≤ 1) (h_p_1 : 0 ≤ p_1.toInt ∧ p_1.toInt ≤ 23) (h_p_2 : 0 ≤ p_2.toInt ∧ p_2.toInt ≤ 63) : Met l yX12_rowsAt (wsG yX12_rowsAt cX12_rowsAt 7 (some .long)) ({ frames := 0, cells := 0, slots := 0, locals := 0 }) (va_Pc [.ref b_o, .int p_1, .int p_2] (g5_P G [(b_o, (oc12 u_th u_sa b_rf b_ro b_im b_ke u_fd b_tp u_td u_fr u_to u_so u_wo u_fa u_bd u_nc b_nl u_co b_op b_ar u_le b_pi b_pa u_pd u_od b_ws b_hw u_la b_se b_re u_bk u_va u_su u_ce u_ho u_wy u_bt u_ps b_pt u_tg u_sn b_ip u_ic b_ah b_be b_me u_wd b_tr b_ld u_st b_wn u_id)), (b_ah, (arJ G 49152 v_ah)), (b_be, (arJ G 49152 v_be))] sz)) (va_Ql (fun (r : Int64) (u : va_W) => (∃ (o_r : Int64), (r = o_r) ∧ (u = [(b_o, (oc12 u_th u_sa b_rf b_ro b_im b_ke u_fd b_tp u_td u_fr u_to u_so u_wo u_fa u_bd u_nc b_nl u_co b_op b_ar u_le b_pi b_pa u_pd u_od b_ws b_hw u_la b_se b_re u_bk u_va u_su u_ce u_ho u_wy u_bt u_ps b_pt u_tg u_sn b_ip u_ic b_ah b_be b_me u_wd b_tr b_ld u_st b_wn u_id)), (b_ah, (arJ G 49152 v_ah)), (b_be, (arJ G 49152 v_be))]))) (g5_B G (va_A [(b_o, (oc12 u_th u_sa b_rf b_ro b_im b_ke u_fd b_tp u_td u_fr u_to u_so u_wo u_fa u_bd u_nc b_nl u_co b_op b_ar u_le b_pi b_pa u_pd u_od b_ws b_hw u_la b_se b_re u_bk u_va u_su u_ce u_ho u_wy u_bt u_ps b_pt u_tg u_sn b_ip u_ic b_ah b_be b_me u_wd b_tr b_ld u_st b_wn u_id)), (b_ah, (arJ G 49152 v_ah)), (b_be, (arJ G 49152 v_be))] sz)) (va_A [(b_o, (oc12 u_th u_sa b_rf b_ro b_im b_ke u_fd b_tp u_td u_fr u_to u_so u_wo u_fa u_bd u_nc b_nl u_co b_op b_ar u_le b_pi b_pa u_pd u_od b_ws b_hw u_la b_se b_re u_bk u_va u_su u_ce u_ho u_wy u_bt u_ps b_pt u_tg u_sn b_ip u_ic b_ah b_be b_me u_wd b_tr b_ld u_st b_wn u_id)), (b_ah, (arJ G 49152 v_ah)), (b_be, (arJ G 49152 v_be))] sz)) 0 0 (va_A [(b_o, (oc12 u_th u_sa b_rf b_ro b_im b_ke u_fd b_tp u_td u_fr u_to u_so u_wo u_fa u_bd u_nc b_nl u_co b_op b_ar u_le b_pi b_pa u_pd u_od b_ws b_hw u_la b_se b_re u_bk u_va u_su u_ce u_ho u_wy u_bt u_ps b_pt u_tg u_sn b_ip u_ic b_ah b_be b_me u_wd b_tr b_ld u_st b_wn u_id)), (b_ah, (arJ G 49152 v_ah)), (b_be, (arJ G 49152 v_be))] sz) := by
  refine Met.ofW (cc := cX12_rowsAt) (maxL := 7) (ret := (some .long)) (by decide +kernel) rfl ?_
  intro p e s m args below meth c s₁ B hml hv
  obtain ⟨rfl, hsz, hP, hK, hD0, hN, hT⟩ := hv
  have hx := B.exec
  have hb := B.bytes
  have hr := B.returns
  have hts : ∀ w ∈ tblG, w.before _ s = true := fun w h => atoms_spec (ws := (wsG yX12_rowsAt cX12_rowsAt 7 (some .long))) B.pre w (List.mem_cons_of_mem _ h)
  have hown : s.vm.findClass RX12 = some m.cls := findClass_of_methodNamed B.named
  have hlocks := B.notSynchronized
  subst hsz
  have hD := hD0.self (sz := s.heap.size)
  generalize hAe : va_A [(b_o, (oc12 u_th u_sa b_rf b_ro b_im b_ke u_fd b_tp u_td u_fr u_to u_so u_wo u_fa u_bd u_nc b_nl u_co b_op b_ar u_le b_pi b_pa u_pd u_od b_ws b_hw u_la b_se b_re u_bk u_va u_su u_ce u_ho u_wy u_bt u_ps b_pt u_tg u_sn b_ip u_ic b_ah b_be b_me u_wd b_tr b_ld u_st b_wn u_id)), (b_ah, (arJ G 49152 v_ah)), (b_be, (arJ G 49152 v_be))] s.heap.size = A at hD hT ⊢
  have hA : ∀ q : Nat, s.heap.size ≤ q → A q := fun q h => by rw [← hAe]; exact Or.inr h
  have hS : va_S A s.heap s.heap [] := va_S.rf
  replace hP : va_P G.1 vwCl [(b_o, (oc12 u_th u_sa b_rf b_ro b_im b_ke u_fd b_tp u_td u_fr u_to u_so u_wo u_fa u_bd u_nc b_nl u_co b_op b_ar u_le b_pi b_pa u_pd u_od b_ws b_hw u_la b_se b_re u_bk u_va u_su u_ce u_ho u_wy u_bt u_ps b_pt u_tg u_sn b_ip u_ic b_ah b_be b_me u_wd b_tr b_ld u_st b_wn u_id)), (b_ah, (arJ G 49152 v_ah)), (b_be, (arJ G 49152 v_be))] s.heap := hP
  have hl := lv_entry ([.ref b_o, .int p_1, .int p_2]) (n := 7) (Nat.le_of_ble_eq_true rfl)
  rw [lg_entry_eq]
  generalize (lg_sl ([.ref b_o, .int p_1, .int p_2]) ++ List.replicate (7 - (lg_sl ([.ref b_o, .int p_1, .int p_2])).length) Slot.unset).toArray = ls at hl ⊢
  replace hl : lv_has ls 7 [(0, .ref b_o), (1, .int p_1), (2, .int p_2)] := hl
  refine lv_lconst (v := 0) hx hb dX12_rowsAt_0 (by decide +kernel) ?_
  refine lv_lstore_n (lv' := [(3, .long 0), (0, .ref b_o), (1, .int p_1), (2, .int p_2)]) hx hb dX12_rowsAt_1 rfl hl (by decide +kernel) rfl ?_
  clear hl
  intro ls hl
  refine lv_iconst (v := 0) hx hb dX12_rowsAt_2 (by decide +kernel) ?_
  refine lv_istore (lv' := [(5, .int 0), (3, .long 0), (0, .ref b_o), (1, .int p_1), (2, .int p_2)]) hx hb dX12_rowsAt_3 hl (by decide +kernel) rfl ?_
  clear hl
  intro ls hl
  refine g5_loop (α := (Int32) × (Int64)) (fun (q : (Int32) × (Int64)) (ls : Array Slot) (H : Heap) (locs : List Loc) => match q with | (k5_5, k5_3) => lv_has ls 7 [(3, .long k5_3), (5, .int k5_5), (0, .ref b_o), (1, .int p_1), (2, .int p_2)] ∧ va_P G.1 vwCl [(b_o, (oc12 u_th u_sa b_rf b_ro b_im b_ke u_fd b_tp u_td u_fr u_to u_so u_wo u_fa u_bd u_nc b_nl u_co b_op b_ar u_le b_pi b_pa u_pd u_od b_ws b_hw u_la b_se b_re u_bk u_va u_su u_ce u_ho u_wy u_bt u_ps b_pt u_tg u_sn b_ip u_ic b_ah b_be b_me u_wd b_tr b_ld u_st b_wn u_id)), (b_ah, (arJ G 49152 v_ah)), (b_be, (arJ G 49152 v_be))] H ∧ va_D A [(b_o, (oc12 u_th u_sa b_rf b_ro b_im b_ke u_fd b_tp u_td u_fr u_to u_so u_wo u_fa u_bd u_nc b_nl u_co b_op b_ar u_le b_pi b_pa u_pd u_od b_ws b_hw u_la b_se b_re u_bk u_va u_su u_ce u_ho u_wy u_bt u_ps b_pt u_tg u_sn b_ip u_ic b_ah b_be b_me u_wd b_tr b_ld u_st b_wn u_id)), (b_ah, (arJ G 49152 v_ah)), (b_be, (arJ G 49152 v_be))] ∧ va_S A s.heap H locs ∧ (0 ≤ k5_5.toInt ∧ k5_5.toInt ≤ 32)) (fun (q : (Int32) × (Int64)) => match q with | (k5_5, k5_3) => Int.toNat (32 - k5_5.toInt)) (0, 0) ⟨lv_sub hl [1, 0, 2, 3, 4] rfl, hP, hD, hS, ⟨by decide, by decide⟩⟩ ?_
  rintro ⟨k5_5, k5_3⟩ ls H locs ⟨hl, hP, hD, hS, (i_1 : 0 ≤ k5_5.toInt ∧ k5_5.toInt ≤ 32)⟩ ih_5_2
  replace hl : lv_has ls 7 [(3, .long k5_3), (5, .int k5_5), (0, .ref b_o), (1, .int p_1), (2, .int p_2)] := hl
  refine g5_rs [(b_o, (oc12 u_th u_sa b_rf b_ro b_im b_ke u_fd b_tp u_td u_fr u_to u_so u_wo u_fa u_bd u_nc b_nl u_co b_op b_ar u_le b_pi b_pa u_pd u_od b_ws b_hw u_la b_se b_re u_bk u_va u_su u_ce u_ho u_wy u_bt u_ps b_pt u_tg u_sn b_ip u_ic b_ah b_be b_me u_wd b_tr b_ld u_st b_wn u_id)), (b_ah, (arJ G 49152 v_ah)), (b_be, (arJ G 49152 v_be))] hP hD ?_
  clear hP hD
  intro hP hD
  refine lv_iload hx hb dX12_rowsAt_5 (lv_at hl 1 rfl) ?_
  refine lv_bipush (v := 32) hx hb dX12_rowsAt_7 (by decide +kernel) ?_
  refine lv_icmp_ge (tgt := 50) hx hb dX12_rowsAt_9 (by decide +kernel) (fun c_3 => ?_) (fun c_3 => ?_)
  ·
    have i_3 : k5_5.toInt ≥ 32 := g5_ge (a := k5_5.toInt) (b := 32) rfl (by decide +kernel) c_3
    refine lv_lload_n hx hb dX12_rowsAt_50 rfl (lv_at hl 0 rfl) ?_
    exact W.lret (v := k5_3) hx hb hr (fun t ht hW => ⟨⟨k5_3, [(b_o, (oc12 u_th u_sa b_rf b_ro b_im b_ke u_fd b_tp u_td u_fr u_to u_so u_wo u_fa u_bd u_nc b_nl u_co b_op b_ar u_le b_pi b_pa u_pd u_od b_ws b_hw u_la b_se b_re u_bk u_va u_su u_ce u_ho u_wy u_bt u_ps b_pt u_tg u_sn b_ip u_ic b_ah b_be b_me u_wd b_tr b_ld u_st b_wn u_id)), (b_ah, (arJ G 49152 v_ah)), (b_be, (arJ G 49152 v_be))], rfl, ⟨k5_3, rfl, rfl⟩, by rw [ht]; exact hP.sub [0, 1, 2] rfl, hD.sub [0, 1, 2] (by decide +kernel) rfl⟩, hS.F ht⟩) hS.2.2 dX12_rowsAt_51
  ·
    have i_3 : k5_5.toInt < 32 := g5_geN (a := k5_5.toInt) (b := 32) rfl (by decide +kernel) c_3
    refine lv_bipush (v := 32) hx hb dX12_rowsAt_12 (by decide +kernel) ?_
    refine lv_bipush (v := 64) hx hb dX12_rowsAt_14 (by decide +kernel) ?_
    refine lv_iload_n hx hb dX12_rowsAt_16 rfl (lv_at hl 3 rfl) ?_
    refine lv_imul hx hb dX12_rowsAt_17 ?_
    have t_4 : (64 * p_1).toInt = 64 * p_1.toInt := g5_imul (a := 64) (b := p_1.toInt) (by decide +kernel) (by rfl) (by omega) (by omega)
    refine lv_iload_n hx hb dX12_rowsAt_18 rfl (lv_at hl 4 rfl) ?_
    refine lv_iadd hx hb dX12_rowsAt_19 ?_
    have t_5 : ((64 * p_1) + p_2).toInt = (64 * p_1).toInt + p_2.toInt := g5_iadd (a := (64 * p_1).toInt) (b := p_2.toInt) (by rfl) (by rfl) (by omega) (by omega)
    refine lv_imul hx hb dX12_rowsAt_20 ?_
    have t_6 : (32 * ((64 * p_1) + p_2)).toInt = 32 * ((64 * p_1) + p_2).toInt := g5_imul (a := 32) (b := ((64 * p_1) + p_2).toInt) (by decide +kernel) (by rfl) (by omega) (by omega)
    refine lv_iload hx hb dX12_rowsAt_21 (lv_at hl 1 rfl) ?_
    refine lv_iadd hx hb dX12_rowsAt_23 ?_
    have t_7 : ((32 * ((64 * p_1) + p_2)) + k5_5).toInt = (32 * ((64 * p_1) + p_2)).toInt + k5_5.toInt := g5_iadd (a := (32 * ((64 * p_1) + p_2)).toInt) (b := k5_5.toInt) (by rfl) (by rfl) (by omega) (by omega)
    refine lv_istore (lv' := [(6, .int ((32 * ((64 * p_1) + p_2)) + k5_5)), (3, .long k5_3), (5, .int k5_5), (0, .ref b_o), (1, .int p_1), (2, .int p_2)]) hx hb dX12_rowsAt_24 hl (by decide +kernel) rfl ?_
    clear hl
    intro ls hl
    refine lv_lload_n hx hb dX12_rowsAt_26 rfl (lv_at hl 1 rfl) ?_
    refine lv_aload_n hx hb dX12_rowsAt_27 rfl (lv_at hl 3 rfl) ?_
    refine va_get (D := G.1) (ci := 12) (v := .ref b_ah) (C := RX12) (T := TX12) (N := 52) hx hb hts inG_X12 hown hK hP 0 rfl rfl 43 (by decide +kernel) (hts _ fl_X12_89) (fun _ h9 => h9) rfl dX12_rowsAt_28 ?_
    refine lv_iload hx hb dX12_rowsAt_31 (lv_at hl 0 rfl) ?_
    refine va_lald hx hb hK hP 1 1 rfl rfl (i := ((32 * ((64 * p_1) + p_2)) + k5_5)) (vp_in_iff.mpr ⟨by omega, by omega⟩) dX12_rowsAt_33 ?_
    refine lv_aload_n hx hb dX12_rowsAt_34 rfl (lv_at hl 3 rfl) ?_
    refine va_get (D := G.1) (ci := 12) (v := .ref b_be) (C := RX12) (T := TX12) (N := 52) hx hb hts inG_X12 hown hK hP 0 rfl rfl 44 (by decide +kernel) (hts _ fl_X12_92) (fun _ h9 => h9) rfl dX12_rowsAt_35 ?_
    refine lv_iload hx hb dX12_rowsAt_38 (lv_at hl 0 rfl) ?_
    refine va_lald hx hb hK hP 2 1 rfl rfl (i := ((32 * ((64 * p_1) + p_2)) + k5_5)) (vp_in_iff.mpr ⟨by omega, by omega⟩) dX12_rowsAt_40 ?_
    refine lv_lmul hx hb dX12_rowsAt_41 ?_
    refine lv_ladd hx hb dX12_rowsAt_42 ?_
    refine lv_lstore_n (lv' := [(3, .long (k5_3 + ((v_ah ((32 * ((64 * p_1) + p_2)) + k5_5).toNatClampNeg) * (v_be ((32 * ((64 * p_1) + p_2)) + k5_5).toNatClampNeg)))), (6, .int ((32 * ((64 * p_1) + p_2)) + k5_5)), (5, .int k5_5), (0, .ref b_o), (1, .int p_1), (2, .int p_2)]) hx hb dX12_rowsAt_43 rfl hl (by decide +kernel) rfl ?_
    clear hl
    intro ls hl
    refine lv_iinc (v := (k5_5 + 1)) (lv' := [(5, .int (k5_5 + 1)), (3, .long (k5_3 + ((v_ah ((32 * ((64 * p_1) + p_2)) + k5_5).toNatClampNeg) * (v_be ((32 * ((64 * p_1) + p_2)) + k5_5).toNatClampNeg)))), (6, .int ((32 * ((64 * p_1) + p_2)) + k5_5)), (0, .ref b_o), (1, .int p_1), (2, .int p_2)]) hx hb dX12_rowsAt_44 hl (k := 2) rfl rfl (by decide +kernel) rfl ?_
    clear hl
    intro ls hl
    have t_8 : (k5_5 + 1).toInt = k5_5.toInt + 1 := g5_iadd (a := k5_5.toInt) (b := 1) rfl (by decide +kernel) (by omega) (by omega)
    refine lv_goto (tgt := 5) hx hb dX12_rowsAt_47 (by decide +kernel) ?_
    exact ih_5_2 ((k5_5 + 1), (k5_3 + ((v_ah ((32 * ((64 * p_1) + p_2)) + k5_5).toNatClampNeg) * (v_be ((32 * ((64 * p_1) + p_2)) + k5_5).toNatClampNeg)))) ls H locs (show Int.toNat (32 - (k5_5 + 1).toInt) < Int.toNat (32 - k5_5.toInt) from g_up (show k5_5.toInt < (k5_5 + 1).toInt by omega) (show k5_5.toInt < 32 by omega)) ⟨lv_sub hl [1, 0, 3, 4, 5] rfl, hP, hD, hS, ⟨by omega, by omega⟩⟩
theorem dgX12_allRows_0 : ∀ r ∈ ([(0, (.lconst 0, 1)), (1, (.lstore_n 1, 1)), (2, (.iconst 0, 1)), (3, (.istore_n 3, 1)), (4, (.iload_n 3, 1)), (5, (.bipush 64, 2)), (7, (.if_icmp .ge 18, 3)), (10, (.lload_n 1, 1)), (11, (.aload_n 0, 1)), (12, (.iconst 0, 1)), (13, (.iload_n 3, 1)), (14, (.invokevirtual 440, 3)), (17, (.ladd, 1)), (18, (.lstore_n 1, 1)), (19, (.iinc 3 1, 3)), (22, (.goto (-18), 3)), (25, (.lload_n 1, 1)), (26, (.lreturn, 1))] : List (Nat × (Instr × Nat))), decode cX12_allRows r.1 = .ok r.2 := by decide +kernel
theorem dX12_allRows_0 : decode cX12_allRows 0 = .ok (.lconst 0, 1) := dgX12_allRows_0 (0, (.lconst 0, 1)) (List.mem_of_getElem? (i := 0) rfl)
theorem dX12_allRows_1 : decode cX12_allRows 1 = .ok (.lstore_n 1, 1) := dgX12_allRows_0 (1, (.lstore_n 1, 1)) (List.mem_of_getElem? (i := 1) rfl)
theorem dX12_allRows_2 : decode cX12_allRows 2 = .ok (.iconst 0, 1) := dgX12_allRows_0 (2, (.iconst 0, 1)) (List.mem_of_getElem? (i := 2) rfl)
theorem dX12_allRows_3 : decode cX12_allRows 3 = .ok (.istore_n 3, 1) := dgX12_allRows_0 (3, (.istore_n 3, 1)) (List.mem_of_getElem? (i := 3) rfl)
theorem dX12_allRows_4 : decode cX12_allRows 4 = .ok (.iload_n 3, 1) := dgX12_allRows_0 (4, (.iload_n 3, 1)) (List.mem_of_getElem? (i := 4) rfl)
theorem dX12_allRows_5 : decode cX12_allRows 5 = .ok (.bipush 64, 2) := dgX12_allRows_0 (5, (.bipush 64, 2)) (List.mem_of_getElem? (i := 5) rfl)
theorem dX12_allRows_7 : decode cX12_allRows 7 = .ok (.if_icmp .ge 18, 3) := dgX12_allRows_0 (7, (.if_icmp .ge 18, 3)) (List.mem_of_getElem? (i := 6) rfl)
theorem dX12_allRows_10 : decode cX12_allRows 10 = .ok (.lload_n 1, 1) := dgX12_allRows_0 (10, (.lload_n 1, 1)) (List.mem_of_getElem? (i := 7) rfl)
theorem dX12_allRows_11 : decode cX12_allRows 11 = .ok (.aload_n 0, 1) := dgX12_allRows_0 (11, (.aload_n 0, 1)) (List.mem_of_getElem? (i := 8) rfl)
theorem dX12_allRows_12 : decode cX12_allRows 12 = .ok (.iconst 0, 1) := dgX12_allRows_0 (12, (.iconst 0, 1)) (List.mem_of_getElem? (i := 9) rfl)
theorem dX12_allRows_13 : decode cX12_allRows 13 = .ok (.iload_n 3, 1) := dgX12_allRows_0 (13, (.iload_n 3, 1)) (List.mem_of_getElem? (i := 10) rfl)
theorem dX12_allRows_14 : decode cX12_allRows 14 = .ok (.invokevirtual 440, 3) := dgX12_allRows_0 (14, (.invokevirtual 440, 3)) (List.mem_of_getElem? (i := 11) rfl)
theorem dX12_allRows_17 : decode cX12_allRows 17 = .ok (.ladd, 1) := dgX12_allRows_0 (17, (.ladd, 1)) (List.mem_of_getElem? (i := 12) rfl)
theorem dX12_allRows_18 : decode cX12_allRows 18 = .ok (.lstore_n 1, 1) := dgX12_allRows_0 (18, (.lstore_n 1, 1)) (List.mem_of_getElem? (i := 13) rfl)
theorem dX12_allRows_19 : decode cX12_allRows 19 = .ok (.iinc 3 1, 3) := dgX12_allRows_0 (19, (.iinc 3 1, 3)) (List.mem_of_getElem? (i := 14) rfl)
theorem dX12_allRows_22 : decode cX12_allRows 22 = .ok (.goto (-18), 3) := dgX12_allRows_0 (22, (.goto (-18), 3)) (List.mem_of_getElem? (i := 15) rfl)
theorem dX12_allRows_25 : decode cX12_allRows 25 = .ok (.lload_n 1, 1) := dgX12_allRows_0 (25, (.lload_n 1, 1)) (List.mem_of_getElem? (i := 16) rfl)
theorem dX12_allRows_26 : decode cX12_allRows 26 = .ok (.lreturn, 1) := dgX12_allRows_0 (26, (.lreturn, 1)) (List.mem_of_getElem? (i := 17) rfl)
theorem ml_X12_440 : Cond.methodLink RX12 440 yX12_rowsAt ∈ tblG := tg 1740 (by decide +kernel) (by decide +kernel)
theorem im_X12_rowsAt : Cond.instanceMethod yX12_rowsAt ∈ tblG := tg 1742 (by decide +kernel) (by decide +kernel)
theorem se_X12_rowsAt : Cond.selects RX12 yX12_rowsAt yX12_rowsAt ∈ tblG := tg 82 (by decide +kernel) (by decide +kernel)
theorem cd_X12_rowsAt : Cond.code yX12_rowsAt cX12_rowsAt 7 (some .long) ∈ tblG := tg 1743 (by decide +kernel) (by decide +kernel)
theorem gW_X12_rowsAt : GoodIn tblG (wsG yX12_rowsAt cX12_rowsAt 7 (some .long)) := tgi cd_X12_rowsAt
theorem gV_X12_440 : GoodIn tblG (wsV RX12 440 RX12 yX12_rowsAt (wsG yX12_rowsAt cX12_rowsAt 7 (some .long))) := tgV ml_X12_440 im_X12_rowsAt se_X12_rowsAt ini_X12 gW_X12_rowsAt
theorem hv_X12_rowsAt : yX12_rowsAt.cls = RX12 ∧ yX12_rowsAt.cls ≠ "java/lang/invoke/MethodHandle" ∧ yX12_rowsAt.cls ≠ "java/lang/invoke/VarHandle" ∧ (parseMethodDescriptor yX12_rowsAt.desc).map (fun d => d.parameters.length) = some 2 := by decide +kernel
set_option maxHeartbeats 4000000 in
set_option maxRecDepth 100000 in
theorem n_allRows (l : Launch) (G : g5_G) (b_o b_ah b_be b_rf b_ro b_im b_ke b_tp b_nl b_op b_ar b_pi b_pa b_ws b_hw b_se b_re b_pt b_ip b_me b_tr b_ld b_wn : Nat) (sz : Nat) (u_th : Int32) (u_sa : Int32) (u_fd : Int32) (u_td : Int32) (u_fr : Int32) (u_to : Int32) (u_so : Int32) (u_fa : Int32) (u_bd : Int32) (u_nc : Int32) (u_co : Int32) (u_le : Int32) (u_pd : Int32) (u_od : Int32) (u_la : Int32) (u_bk : Int32) (u_ce : Int32) (u_ho : Int32) (u_wy : Int32) (u_bt : Int32) (u_ps : Int32) (u_tg : Int32) (u_sn : Int32) (u_ic : Int32) (u_wd : Int32) (u_id : Int32) (u_wo : Int64) (u_va : Int64) (u_su : Int64) (u_st : Int64) (v_ah : Nat → Int64) (v_be : Nat → Int64) (h_u_td : 0 ≤ u_td.toInt ∧ u_td.toInt ≤ 400) (h_u_fr : 0 ≤ u_fr.toInt ∧ u_fr.toInt ≤ 400) (h_u_to : 0 ≤ u_to.toInt ∧ u_to.toInt ≤ 400) (h_u_bd : 0 ≤ u_bd.toInt ∧ u_bd.toInt ≤ 1) (h_u_nc : 0 ≤ u_nc.toInt ∧ u_nc.toInt ≤ 12) (h_u_co : 0 ≤ u_co.toInt ∧ u_co.toInt ≤ 400) (h_u_pd : 0 ≤ u_pd.toInt ∧ u_pd.toInt ≤ 400) (h_u_la : 0 ≤ u_la.toInt ∧ u_la.toInt ≤ 4840) (h_u_bk : 0 ≤ u_bk.toInt ∧ u_bk.toInt ≤ 1) (h_u_ce : 0 ≤ u_ce.toInt ∧ u_ce.toInt ≤ 63) (h_u_ho : 0 ≤ u_ho.toInt ∧ u_ho.toInt ≤ 23) (h_u_wy : 0 ≤ u_wy.toInt ∧ u_wy.toInt ≤ 3) (h_u_bt : 0 ≤ u_bt.toInt ∧ u_bt.toInt ≤ 1000000) (h_u_ps : 0 ≤ u_ps.toInt ∧ u_ps.toInt ≤ 200) (h_u_ic : 0 ≤ u_ic.toInt ∧ u_ic.toInt ≤ 1) (h_u_id : 0 ≤ u_id.toInt ∧ u_id.toInt ≤ 1) : Met l yX12_allRows (wsG yX12_allRows cX12_allRows 4 (some .long)) ({ frames := 1, cells := 0, slots := 0, locals := 26 }) (va_Pc [.ref b_o] (g5_P G [(b_o, (oc12 u_th u_sa b_rf b_ro b_im b_ke u_fd b_tp u_td u_fr u_to u_so u_wo u_fa u_bd u_nc b_nl u_co b_op b_ar u_le b_pi b_pa u_pd u_od b_ws b_hw u_la b_se b_re u_bk u_va u_su u_ce u_ho u_wy u_bt u_ps b_pt u_tg u_sn b_ip u_ic b_ah b_be b_me u_wd b_tr b_ld u_st b_wn u_id)), (b_ah, (arJ G 49152 v_ah)), (b_be, (arJ G 49152 v_be))] sz)) (va_Ql (fun (r : Int64) (u : va_W) => (∃ (o_r : Int64), (r = o_r) ∧ (u = [(b_o, (oc12 u_th u_sa b_rf b_ro b_im b_ke u_fd b_tp u_td u_fr u_to u_so u_wo u_fa u_bd u_nc b_nl u_co b_op b_ar u_le b_pi b_pa u_pd u_od b_ws b_hw u_la b_se b_re u_bk u_va u_su u_ce u_ho u_wy u_bt u_ps b_pt u_tg u_sn b_ip u_ic b_ah b_be b_me u_wd b_tr b_ld u_st b_wn u_id)), (b_ah, (arJ G 49152 v_ah)), (b_be, (arJ G 49152 v_be))]))) (g5_B G (va_A [(b_o, (oc12 u_th u_sa b_rf b_ro b_im b_ke u_fd b_tp u_td u_fr u_to u_so u_wo u_fa u_bd u_nc b_nl u_co b_op b_ar u_le b_pi b_pa u_pd u_od b_ws b_hw u_la b_se b_re u_bk u_va u_su u_ce u_ho u_wy u_bt u_ps b_pt u_tg u_sn b_ip u_ic b_ah b_be b_me u_wd b_tr b_ld u_st b_wn u_id)), (b_ah, (arJ G 49152 v_ah)), (b_be, (arJ G 49152 v_be))] sz)) (va_A [(b_o, (oc12 u_th u_sa b_rf b_ro b_im b_ke u_fd b_tp u_td u_fr u_to u_so u_wo u_fa u_bd u_nc b_nl u_co b_op b_ar u_le b_pi b_pa u_pd u_od b_ws b_hw u_la b_se b_re u_bk u_va u_su u_ce u_ho u_wy u_bt u_ps b_pt u_tg u_sn b_ip u_ic b_ah b_be b_me u_wd b_tr b_ld u_st b_wn u_id)), (b_ah, (arJ G 49152 v_ah)), (b_be, (arJ G 49152 v_be))] sz)) 0 0 (va_A [(b_o, (oc12 u_th u_sa b_rf b_ro b_im b_ke u_fd b_tp u_td u_fr u_to u_so u_wo u_fa u_bd u_nc b_nl u_co b_op b_ar u_le b_pi b_pa u_pd u_od b_ws b_hw u_la b_se b_re u_bk u_va u_su u_ce u_ho u_wy u_bt u_ps b_pt u_tg u_sn b_ip u_ic b_ah b_be b_me u_wd b_tr b_ld u_st b_wn u_id)), (b_ah, (arJ G 49152 v_ah)), (b_be, (arJ G 49152 v_be))] sz) := by
  refine Met.ofW (cc := cX12_allRows) (maxL := 4) (ret := (some .long)) (by decide +kernel) rfl ?_
  intro p e s m args below meth c s₁ B hml hv
  obtain ⟨rfl, hsz, hP, hK, hD0, hN, hT⟩ := hv
  have hx := B.exec
  have hb := B.bytes
  have hr := B.returns
  have hts : ∀ w ∈ tblG, w.before _ s = true := fun w h => atoms_spec (ws := (wsG yX12_allRows cX12_allRows 4 (some .long))) B.pre w (List.mem_cons_of_mem _ h)
  have hown : s.vm.findClass RX12 = some m.cls := findClass_of_methodNamed B.named
  have hlocks := B.notSynchronized
  subst hsz
  have hD := hD0.self (sz := s.heap.size)
  generalize hAe : va_A [(b_o, (oc12 u_th u_sa b_rf b_ro b_im b_ke u_fd b_tp u_td u_fr u_to u_so u_wo u_fa u_bd u_nc b_nl u_co b_op b_ar u_le b_pi b_pa u_pd u_od b_ws b_hw u_la b_se b_re u_bk u_va u_su u_ce u_ho u_wy u_bt u_ps b_pt u_tg u_sn b_ip u_ic b_ah b_be b_me u_wd b_tr b_ld u_st b_wn u_id)), (b_ah, (arJ G 49152 v_ah)), (b_be, (arJ G 49152 v_be))] s.heap.size = A at hD hT ⊢
  have hA : ∀ q : Nat, s.heap.size ≤ q → A q := fun q h => by rw [← hAe]; exact Or.inr h
  have hS : va_S A s.heap s.heap [] := va_S.rf
  replace hP : va_P G.1 vwCl [(b_o, (oc12 u_th u_sa b_rf b_ro b_im b_ke u_fd b_tp u_td u_fr u_to u_so u_wo u_fa u_bd u_nc b_nl u_co b_op b_ar u_le b_pi b_pa u_pd u_od b_ws b_hw u_la b_se b_re u_bk u_va u_su u_ce u_ho u_wy u_bt u_ps b_pt u_tg u_sn b_ip u_ic b_ah b_be b_me u_wd b_tr b_ld u_st b_wn u_id)), (b_ah, (arJ G 49152 v_ah)), (b_be, (arJ G 49152 v_be))] s.heap := hP
  have hl := lv_entry ([.ref b_o]) (n := 4) (Nat.le_of_ble_eq_true rfl)
  rw [lg_entry_eq]
  generalize (lg_sl ([.ref b_o]) ++ List.replicate (4 - (lg_sl ([.ref b_o])).length) Slot.unset).toArray = ls at hl ⊢
  replace hl : lv_has ls 4 [(0, .ref b_o)] := hl
  refine lv_lconst (v := 0) hx hb dX12_allRows_0 (by decide +kernel) ?_
  refine lv_lstore_n (lv' := [(1, .long 0), (0, .ref b_o)]) hx hb dX12_allRows_1 rfl hl (by decide +kernel) rfl ?_
  clear hl
  intro ls hl
  refine lv_iconst (v := 0) hx hb dX12_allRows_2 (by decide +kernel) ?_
  refine lv_istore_n (lv' := [(3, .int 0), (1, .long 0), (0, .ref b_o)]) hx hb dX12_allRows_3 rfl hl (by decide +kernel) rfl ?_
  clear hl
  intro ls hl
  refine g5_loop (α := (Int32) × (Int64)) (fun (q : (Int32) × (Int64)) (ls : Array Slot) (H : Heap) (locs : List Loc) => match q with | (k4_3, k4_1) => lv_has ls 4 [(1, .long k4_1), (3, .int k4_3), (0, .ref b_o)] ∧ va_P G.1 vwCl [(b_o, (oc12 u_th u_sa b_rf b_ro b_im b_ke u_fd b_tp u_td u_fr u_to u_so u_wo u_fa u_bd u_nc b_nl u_co b_op b_ar u_le b_pi b_pa u_pd u_od b_ws b_hw u_la b_se b_re u_bk u_va u_su u_ce u_ho u_wy u_bt u_ps b_pt u_tg u_sn b_ip u_ic b_ah b_be b_me u_wd b_tr b_ld u_st b_wn u_id)), (b_ah, (arJ G 49152 v_ah)), (b_be, (arJ G 49152 v_be))] H ∧ va_D A [(b_o, (oc12 u_th u_sa b_rf b_ro b_im b_ke u_fd b_tp u_td u_fr u_to u_so u_wo u_fa u_bd u_nc b_nl u_co b_op b_ar u_le b_pi b_pa u_pd u_od b_ws b_hw u_la b_se b_re u_bk u_va u_su u_ce u_ho u_wy u_bt u_ps b_pt u_tg u_sn b_ip u_ic b_ah b_be b_me u_wd b_tr b_ld u_st b_wn u_id)), (b_ah, (arJ G 49152 v_ah)), (b_be, (arJ G 49152 v_be))] ∧ va_S A s.heap H locs ∧ (0 ≤ k4_3.toInt ∧ k4_3.toInt ≤ 64)) (fun (q : (Int32) × (Int64)) => match q with | (k4_3, k4_1) => Int.toNat (64 - k4_3.toInt)) (0, 0) ⟨lv_sub hl [1, 0, 2] rfl, hP, hD, hS, ⟨by decide, by decide⟩⟩ ?_
  rintro ⟨k4_3, k4_1⟩ ls H locs ⟨hl, hP, hD, hS, (i_1 : 0 ≤ k4_3.toInt ∧ k4_3.toInt ≤ 64)⟩ ih_4_2
  replace hl : lv_has ls 4 [(1, .long k4_1), (3, .int k4_3), (0, .ref b_o)] := hl
  refine g5_rs [(b_o, (oc12 u_th u_sa b_rf b_ro b_im b_ke u_fd b_tp u_td u_fr u_to u_so u_wo u_fa u_bd u_nc b_nl u_co b_op b_ar u_le b_pi b_pa u_pd u_od b_ws b_hw u_la b_se b_re u_bk u_va u_su u_ce u_ho u_wy u_bt u_ps b_pt u_tg u_sn b_ip u_ic b_ah b_be b_me u_wd b_tr b_ld u_st b_wn u_id)), (b_ah, (arJ G 49152 v_ah)), (b_be, (arJ G 49152 v_be))] hP hD ?_
  clear hP hD
  intro hP hD
  refine lv_iload_n hx hb dX12_allRows_4 rfl (lv_at hl 1 rfl) ?_
  refine lv_bipush (v := 64) hx hb dX12_allRows_5 (by decide +kernel) ?_
  refine lv_icmp_ge (tgt := 25) hx hb dX12_allRows_7 (by decide +kernel) (fun c_3 => ?_) (fun c_3 => ?_)
  ·
    have i_3 : k4_3.toInt ≥ 64 := g5_ge (a := k4_3.toInt) (b := 64) rfl (by decide +kernel) c_3
    refine lv_lload_n hx hb dX12_allRows_25 rfl (lv_at hl 0 rfl) ?_
    exact W.lret (v := k4_1) hx hb hr (fun t ht hW => ⟨⟨k4_1, [(b_o, (oc12 u_th u_sa b_rf b_ro b_im b_ke u_fd b_tp u_td u_fr u_to u_so u_wo u_fa u_bd u_nc b_nl u_co b_op b_ar u_le b_pi b_pa u_pd u_od b_ws b_hw u_la b_se b_re u_bk u_va u_su u_ce u_ho u_wy u_bt u_ps b_pt u_tg u_sn b_ip u_ic b_ah b_be b_me u_wd b_tr b_ld u_st b_wn u_id)), (b_ah, (arJ G 49152 v_ah)), (b_be, (arJ G 49152 v_be))], rfl, ⟨k4_1, rfl, rfl⟩, by rw [ht]; exact hP.sub [0, 1, 2] rfl, hD.sub [0, 1, 2] (by decide +kernel) rfl⟩, hS.F ht⟩) hS.2.2 dX12_allRows_26
  ·
    have i_3 : k4_3.toInt < 64 := g5_geN (a := k4_3.toInt) (b := 64) rfl (by decide +kernel) c_3
    refine lv_lload_n hx hb dX12_allRows_10 rfl (lv_at hl 0 rfl) ?_
    refine lv_aload_n hx hb dX12_allRows_11 rfl (lv_at hl 2 rfl) ?_
    refine lv_iconst (v := 0) hx hb dX12_allRows_12 (by decide +kernel) ?_
    refine lv_iload_n hx hb dX12_allRows_13 rfl (lv_at hl 1 rfl) ?_
    obtain ⟨hPc, hDc, hFc⟩ := g5_sub3 (wc := [(b_o, (oc12 u_th u_sa b_rf b_ro b_im b_ke u_fd b_tp u_td u_fr u_to u_so u_wo u_fa u_bd u_nc b_nl u_co b_op b_ar u_le b_pi b_pa u_pd u_od b_ws b_hw u_la b_se b_re u_bk u_va u_su u_ce u_ho u_wy u_bt u_ps b_pt u_tg u_sn b_ip u_ic b_ah b_be b_me u_wd b_tr b_ld u_st b_wn u_id)), (b_ah, (arJ G 49152 v_ah)), (b_be, (arJ G 49152 v_be))]) hP hD hS hA [0, 1, 2] (by decide +kernel) rfl
    refine va_calll (va_runV (As := [.int 0, .int k4_3]) (rest := [.long k4_1]) ⟨hx, hb, hml, hown, hts⟩ (n_rowsAt l G b_o b_ah b_be b_rf b_ro b_im b_ke b_tp b_nl b_op b_ar b_pi b_pa b_ws b_hw b_se b_re b_pt b_ip b_me b_tr b_ld b_wn H.size u_th u_sa u_fd u_td u_fr u_to u_so u_fa u_bd u_nc u_co u_le u_pd u_od u_la u_bk u_ce u_ho u_wy u_bt u_ps u_tg u_sn u_ic u_wd u_id 0 k4_3 u_wo u_va u_su u_st v_ah v_be h_u_td h_u_fr h_u_to h_u_bd h_u_nc h_u_co h_u_pd h_u_la h_u_bk h_u_ce h_u_ho h_u_wy h_u_bt h_u_ps h_u_ic h_u_id ⟨by decide, by decide⟩ ⟨by omega, by omega⟩) (cwV 2 hts gV_X12_440 rfl rfl rfl hv_X12_rowsAt ⟨Nat.le_of_ble_eq_true rfl, Nat.le_of_ble_eq_true rfl⟩) (g5_preV hPc hK hDc hN hT hS hFc (ci := 12) (q0 := 0) rfl rfl) rfl rfl hl.1 rfl (lv_room (Nat.le_of_ble_eq_true rfl)) dX12_allRows_14 ⟨Nat.le_of_ble_eq_true rfl, Nat.le_of_ble_eq_true rfl⟩) hS (fun q _ h => hFc q h) hFc (fun r u t H locs ht hvm hw hB hz1 hk1 hS => ?_)
    obtain ⟨hP1, hD1⟩ := hB
    have hP1 := g5_ht ht hP1
    obtain ⟨z4, y5, rfl⟩ := hw
    have hJ9 := va_join (wr := []) hP hD [0, 1, 2] [] rfl rfl (by decide +kernel) (by decide +kernel) hk1 hFc hP1 hD1
    clear hP hD hPc hDc hFc ht hvm hz1 hk1 hP1 hD1
    obtain ⟨hP, hD⟩ := hJ9
    refine g5_rs [(b_o, (oc12 u_th u_sa b_rf b_ro b_im b_ke u_fd b_tp u_td u_fr u_to u_so u_wo u_fa u_bd u_nc b_nl u_co b_op b_ar u_le b_pi b_pa u_pd u_od b_ws b_hw u_la b_se b_re u_bk u_va u_su u_ce u_ho u_wy u_bt u_ps b_pt u_tg u_sn b_ip u_ic b_ah b_be b_me u_wd b_tr b_ld u_st b_wn u_id)), (b_ah, (arJ G 49152 v_ah)), (b_be, (arJ G 49152 v_be))] hP hD ?_
    clear hP hD
    intro hP hD
    refine g5_tl (v := z4) y5 ?_
    refine lv_ladd hx hb dX12_allRows_17 ?_
    refine lv_lstore_n (lv' := [(1, .long (k4_1 + z4)), (3, .int k4_3), (0, .ref b_o)]) hx hb dX12_allRows_18 rfl hl (by decide +kernel) rfl ?_
    clear hl
    intro ls hl
    refine lv_iinc (v := (k4_3 + 1)) (lv' := [(3, .int (k4_3 + 1)), (1, .long (k4_1 + z4)), (0, .ref b_o)]) hx hb dX12_allRows_19 hl (k := 1) rfl rfl (by decide +kernel) rfl ?_
    clear hl
    intro ls hl
    have t_6 : (k4_3 + 1).toInt = k4_3.toInt + 1 := g5_iadd (a := k4_3.toInt) (b := 1) rfl (by decide +kernel) (by omega) (by omega)
    refine lv_goto (tgt := 4) hx hb dX12_allRows_22 (by decide +kernel) ?_
    exact ih_4_2 ((k4_3 + 1), (k4_1 + z4)) ls H locs (show Int.toNat (64 - (k4_3 + 1).toInt) < Int.toNat (64 - k4_3.toInt) from g_up (show k4_3.toInt < (k4_3 + 1).toInt by omega) (show k4_3.toInt < 64 by omega)) ⟨lv_sub hl [1, 0, 2] rfl, hP, hD, hS, ⟨by omega, by omega⟩⟩
theorem dgX12_findMeets_0 : ∀ r ∈ ([(0, (.aload_n 0, 1)), (1, (.iconst 0, 1)), (2, (.putfield 422, 3)), (5, (.iconst 0, 1)), (6, (.istore 5, 2)), (8, (.iconst 0, 1)), (9, (.istore 6, 2)), (11, (.iload 6, 2)), (13, (.sipush 1536, 3)), (16, (.if_icmp .ge 34, 3)), (19, (.aload_n 0, 1)), (20, (.getfield 95, 3)), (23, (.iload 6, 2)), (25, (.aload_n 0, 1)), (26, (.iload 6, 2)), (28, (.bipush 64, 2)), (30, (.irem, 1)), (31, (.invokevirtual 160, 3)), (34, (.ifCond .eq 8, 3)), (37, (.bipush 64, 2)), (39, (.goto 4, 3)), (42, (.iconst 0, 1)), (43, (.iastore, 1)), (44, (.iinc 6 1, 3)), (47, (.goto (-36), 3)), (50, (.iconst 0, 1)), (51, (.istore 6, 2)), (53, (.iload 6, 2)), (55, (.aload_n 0, 1)), (56, (.getfield 13, 3)), (59, (.iconst 5, 1)), (60, (.iaload, 1)), (61, (.if_icmp .ge 162, 3)), (64, (.sipush 230, 3)), (67, (.iconst 4, 1)), (68, (.iload 6, 2)), (70, (.imul, 1)), (71, (.iadd, 1)), (72, (.istore 7, 2)), (74, (.iload_n 1, 1))] : List (Nat × (Instr × Nat))), decode cX12_findMeets r.1 = .ok r.2 := by decide +kernel
theorem dX12_findMeets_0 : decode cX12_findMeets 0 = .ok (.aload_n 0, 1) := dgX12_findMeets_0 (0, (.aload_n 0, 1)) (List.mem_of_getElem? (i := 0) rfl)
theorem dX12_findMeets_1 : decode cX12_findMeets 1 = .ok (.iconst 0, 1) := dgX12_findMeets_0 (1, (.iconst 0, 1)) (List.mem_of_getElem? (i := 1) rfl)
theorem dX12_findMeets_2 : decode cX12_findMeets 2 = .ok (.putfield 422, 3) := dgX12_findMeets_0 (2, (.putfield 422, 3)) (List.mem_of_getElem? (i := 2) rfl)
theorem dX12_findMeets_5 : decode cX12_findMeets 5 = .ok (.iconst 0, 1) := dgX12_findMeets_0 (5, (.iconst 0, 1)) (List.mem_of_getElem? (i := 3) rfl)
theorem dX12_findMeets_6 : decode cX12_findMeets 6 = .ok (.istore 5, 2) := dgX12_findMeets_0 (6, (.istore 5, 2)) (List.mem_of_getElem? (i := 4) rfl)
theorem dX12_findMeets_8 : decode cX12_findMeets 8 = .ok (.iconst 0, 1) := dgX12_findMeets_0 (8, (.iconst 0, 1)) (List.mem_of_getElem? (i := 5) rfl)
theorem dX12_findMeets_9 : decode cX12_findMeets 9 = .ok (.istore 6, 2) := dgX12_findMeets_0 (9, (.istore 6, 2)) (List.mem_of_getElem? (i := 6) rfl)
theorem dX12_findMeets_11 : decode cX12_findMeets 11 = .ok (.iload 6, 2) := dgX12_findMeets_0 (11, (.iload 6, 2)) (List.mem_of_getElem? (i := 7) rfl)
theorem dX12_findMeets_13 : decode cX12_findMeets 13 = .ok (.sipush 1536, 3) := dgX12_findMeets_0 (13, (.sipush 1536, 3)) (List.mem_of_getElem? (i := 8) rfl)
theorem dX12_findMeets_16 : decode cX12_findMeets 16 = .ok (.if_icmp .ge 34, 3) := dgX12_findMeets_0 (16, (.if_icmp .ge 34, 3)) (List.mem_of_getElem? (i := 9) rfl)
theorem dX12_findMeets_19 : decode cX12_findMeets 19 = .ok (.aload_n 0, 1) := dgX12_findMeets_0 (19, (.aload_n 0, 1)) (List.mem_of_getElem? (i := 10) rfl)
theorem dX12_findMeets_20 : decode cX12_findMeets 20 = .ok (.getfield 95, 3) := dgX12_findMeets_0 (20, (.getfield 95, 3)) (List.mem_of_getElem? (i := 11) rfl)
theorem dX12_findMeets_23 : decode cX12_findMeets 23 = .ok (.iload 6, 2) := dgX12_findMeets_0 (23, (.iload 6, 2)) (List.mem_of_getElem? (i := 12) rfl)
theorem dX12_findMeets_25 : decode cX12_findMeets 25 = .ok (.aload_n 0, 1) := dgX12_findMeets_0 (25, (.aload_n 0, 1)) (List.mem_of_getElem? (i := 13) rfl)
theorem dX12_findMeets_26 : decode cX12_findMeets 26 = .ok (.iload 6, 2) := dgX12_findMeets_0 (26, (.iload 6, 2)) (List.mem_of_getElem? (i := 14) rfl)
theorem dX12_findMeets_28 : decode cX12_findMeets 28 = .ok (.bipush 64, 2) := dgX12_findMeets_0 (28, (.bipush 64, 2)) (List.mem_of_getElem? (i := 15) rfl)
theorem dX12_findMeets_30 : decode cX12_findMeets 30 = .ok (.irem, 1) := dgX12_findMeets_0 (30, (.irem, 1)) (List.mem_of_getElem? (i := 16) rfl)
theorem dX12_findMeets_31 : decode cX12_findMeets 31 = .ok (.invokevirtual 160, 3) := dgX12_findMeets_0 (31, (.invokevirtual 160, 3)) (List.mem_of_getElem? (i := 17) rfl)
theorem dX12_findMeets_34 : decode cX12_findMeets 34 = .ok (.ifCond .eq 8, 3) := dgX12_findMeets_0 (34, (.ifCond .eq 8, 3)) (List.mem_of_getElem? (i := 18) rfl)
theorem dX12_findMeets_37 : decode cX12_findMeets 37 = .ok (.bipush 64, 2) := dgX12_findMeets_0 (37, (.bipush 64, 2)) (List.mem_of_getElem? (i := 19) rfl)
theorem dX12_findMeets_39 : decode cX12_findMeets 39 = .ok (.goto 4, 3) := dgX12_findMeets_0 (39, (.goto 4, 3)) (List.mem_of_getElem? (i := 20) rfl)
theorem dX12_findMeets_42 : decode cX12_findMeets 42 = .ok (.iconst 0, 1) := dgX12_findMeets_0 (42, (.iconst 0, 1)) (List.mem_of_getElem? (i := 21) rfl)
theorem dX12_findMeets_43 : decode cX12_findMeets 43 = .ok (.iastore, 1) := dgX12_findMeets_0 (43, (.iastore, 1)) (List.mem_of_getElem? (i := 22) rfl)
theorem dX12_findMeets_44 : decode cX12_findMeets 44 = .ok (.iinc 6 1, 3) := dgX12_findMeets_0 (44, (.iinc 6 1, 3)) (List.mem_of_getElem? (i := 23) rfl)
theorem dX12_findMeets_47 : decode cX12_findMeets 47 = .ok (.goto (-36), 3) := dgX12_findMeets_0 (47, (.goto (-36), 3)) (List.mem_of_getElem? (i := 24) rfl)
theorem dX12_findMeets_50 : decode cX12_findMeets 50 = .ok (.iconst 0, 1) := dgX12_findMeets_0 (50, (.iconst 0, 1)) (List.mem_of_getElem? (i := 25) rfl)
theorem dX12_findMeets_51 : decode cX12_findMeets 51 = .ok (.istore 6, 2) := dgX12_findMeets_0 (51, (.istore 6, 2)) (List.mem_of_getElem? (i := 26) rfl)
theorem dX12_findMeets_53 : decode cX12_findMeets 53 = .ok (.iload 6, 2) := dgX12_findMeets_0 (53, (.iload 6, 2)) (List.mem_of_getElem? (i := 27) rfl)
theorem dX12_findMeets_55 : decode cX12_findMeets 55 = .ok (.aload_n 0, 1) := dgX12_findMeets_0 (55, (.aload_n 0, 1)) (List.mem_of_getElem? (i := 28) rfl)
theorem dX12_findMeets_56 : decode cX12_findMeets 56 = .ok (.getfield 13, 3) := dgX12_findMeets_0 (56, (.getfield 13, 3)) (List.mem_of_getElem? (i := 29) rfl)
theorem dX12_findMeets_59 : decode cX12_findMeets 59 = .ok (.iconst 5, 1) := dgX12_findMeets_0 (59, (.iconst 5, 1)) (List.mem_of_getElem? (i := 30) rfl)
theorem dX12_findMeets_60 : decode cX12_findMeets 60 = .ok (.iaload, 1) := dgX12_findMeets_0 (60, (.iaload, 1)) (List.mem_of_getElem? (i := 31) rfl)
theorem dX12_findMeets_61 : decode cX12_findMeets 61 = .ok (.if_icmp .ge 162, 3) := dgX12_findMeets_0 (61, (.if_icmp .ge 162, 3)) (List.mem_of_getElem? (i := 32) rfl)
theorem dX12_findMeets_64 : decode cX12_findMeets 64 = .ok (.sipush 230, 3) := dgX12_findMeets_0 (64, (.sipush 230, 3)) (List.mem_of_getElem? (i := 33) rfl)
theorem dX12_findMeets_67 : decode cX12_findMeets 67 = .ok (.iconst 4, 1) := dgX12_findMeets_0 (67, (.iconst 4, 1)) (List.mem_of_getElem? (i := 34) rfl)
theorem dX12_findMeets_68 : decode cX12_findMeets 68 = .ok (.iload 6, 2) := dgX12_findMeets_0 (68, (.iload 6, 2)) (List.mem_of_getElem? (i := 35) rfl)
theorem dX12_findMeets_70 : decode cX12_findMeets 70 = .ok (.imul, 1) := dgX12_findMeets_0 (70, (.imul, 1)) (List.mem_of_getElem? (i := 36) rfl)
theorem dX12_findMeets_71 : decode cX12_findMeets 71 = .ok (.iadd, 1) := dgX12_findMeets_0 (71, (.iadd, 1)) (List.mem_of_getElem? (i := 37) rfl)
theorem dX12_findMeets_72 : decode cX12_findMeets 72 = .ok (.istore 7, 2) := dgX12_findMeets_0 (72, (.istore 7, 2)) (List.mem_of_getElem? (i := 38) rfl)
theorem dX12_findMeets_74 : decode cX12_findMeets 74 = .ok (.iload_n 1, 1) := dgX12_findMeets_0 (74, (.iload_n 1, 1)) (List.mem_of_getElem? (i := 39) rfl)
theorem dgX12_findMeets_1 : ∀ r ∈ ([(75, (.iload 6, 2)), (77, (.invokestatic 387, 3)), (80, (.ifCond .eq 137, 3)), (83, (.aload_n 0, 1)), (84, (.getfield 13, 3)), (87, (.iload 7, 2)), (89, (.iconst 3, 1)), (90, (.iadd, 1)), (91, (.iaload, 1)), (92, (.iconst 1, 1)), (93, (.if_icmp .ne 7, 3)), (96, (.iconst 1, 1)), (97, (.goto 4, 3)), (100, (.iconst 0, 1)), (101, (.istore 8, 2)), (103, (.aload_n 0, 1)), (104, (.aload_n 0, 1)), (105, (.getfield 13, 3)), (108, (.iload 7, 2)), (110, (.iaload, 1)), (111, (.aload_n 0, 1)), (112, (.getfield 13, 3)), (115, (.iload 7, 2)), (117, (.iconst 1, 1)), (118, (.iadd, 1)), (119, (.iaload, 1)), (120, (.aload_n 0, 1)), (121, (.getfield 13, 3)), (124, (.iload 7, 2)), (126, (.iconst 2, 1)), (127, (.iadd, 1)), (128, (.iaload, 1)), (129, (.iconst 0, 1)), (130, (.invokevirtual 401, 3)), (133, (.iconst 0, 1)), (134, (.istore 9, 2)), (136, (.iload 9, 2)), (138, (.aload_n 0, 1)), (139, (.getfield 358, 3)), (142, (.if_icmp .ge 38, 3))] : List (Nat × (Instr × Nat))), decode cX12_findMeets r.1 = .ok r.2 := by decide +kernel
theorem dX12_findMeets_75 : decode cX12_findMeets 75 = .ok (.iload 6, 2) := dgX12_findMeets_1 (75, (.iload 6, 2)) (List.mem_of_getElem? (i := 0) rfl)
theorem dX12_findMeets_77 : decode cX12_findMeets 77 = .ok (.invokestatic 387, 3) := dgX12_findMeets_1 (77, (.invokestatic 387, 3)) (List.mem_of_getElem? (i := 1) rfl)
theorem dX12_findMeets_80 : decode cX12_findMeets 80 = .ok (.ifCond .eq 137, 3) := dgX12_findMeets_1 (80, (.ifCond .eq 137, 3)) (List.mem_of_getElem? (i := 2) rfl)
theorem dX12_findMeets_83 : decode cX12_findMeets 83 = .ok (.aload_n 0, 1) := dgX12_findMeets_1 (83, (.aload_n 0, 1)) (List.mem_of_getElem? (i := 3) rfl)
theorem dX12_findMeets_84 : decode cX12_findMeets 84 = .ok (.getfield 13, 3) := dgX12_findMeets_1 (84, (.getfield 13, 3)) (List.mem_of_getElem? (i := 4) rfl)
theorem dX12_findMeets_87 : decode cX12_findMeets 87 = .ok (.iload 7, 2) := dgX12_findMeets_1 (87, (.iload 7, 2)) (List.mem_of_getElem? (i := 5) rfl)
theorem dX12_findMeets_89 : decode cX12_findMeets 89 = .ok (.iconst 3, 1) := dgX12_findMeets_1 (89, (.iconst 3, 1)) (List.mem_of_getElem? (i := 6) rfl)
theorem dX12_findMeets_90 : decode cX12_findMeets 90 = .ok (.iadd, 1) := dgX12_findMeets_1 (90, (.iadd, 1)) (List.mem_of_getElem? (i := 7) rfl)
theorem dX12_findMeets_91 : decode cX12_findMeets 91 = .ok (.iaload, 1) := dgX12_findMeets_1 (91, (.iaload, 1)) (List.mem_of_getElem? (i := 8) rfl)
theorem dX12_findMeets_92 : decode cX12_findMeets 92 = .ok (.iconst 1, 1) := dgX12_findMeets_1 (92, (.iconst 1, 1)) (List.mem_of_getElem? (i := 9) rfl)
theorem dX12_findMeets_93 : decode cX12_findMeets 93 = .ok (.if_icmp .ne 7, 3) := dgX12_findMeets_1 (93, (.if_icmp .ne 7, 3)) (List.mem_of_getElem? (i := 10) rfl)
theorem dX12_findMeets_96 : decode cX12_findMeets 96 = .ok (.iconst 1, 1) := dgX12_findMeets_1 (96, (.iconst 1, 1)) (List.mem_of_getElem? (i := 11) rfl)
theorem dX12_findMeets_97 : decode cX12_findMeets 97 = .ok (.goto 4, 3) := dgX12_findMeets_1 (97, (.goto 4, 3)) (List.mem_of_getElem? (i := 12) rfl)
theorem dX12_findMeets_100 : decode cX12_findMeets 100 = .ok (.iconst 0, 1) := dgX12_findMeets_1 (100, (.iconst 0, 1)) (List.mem_of_getElem? (i := 13) rfl)
theorem dX12_findMeets_101 : decode cX12_findMeets 101 = .ok (.istore 8, 2) := dgX12_findMeets_1 (101, (.istore 8, 2)) (List.mem_of_getElem? (i := 14) rfl)
theorem dX12_findMeets_103 : decode cX12_findMeets 103 = .ok (.aload_n 0, 1) := dgX12_findMeets_1 (103, (.aload_n 0, 1)) (List.mem_of_getElem? (i := 15) rfl)
theorem dX12_findMeets_104 : decode cX12_findMeets 104 = .ok (.aload_n 0, 1) := dgX12_findMeets_1 (104, (.aload_n 0, 1)) (List.mem_of_getElem? (i := 16) rfl)
theorem dX12_findMeets_105 : decode cX12_findMeets 105 = .ok (.getfield 13, 3) := dgX12_findMeets_1 (105, (.getfield 13, 3)) (List.mem_of_getElem? (i := 17) rfl)
theorem dX12_findMeets_108 : decode cX12_findMeets 108 = .ok (.iload 7, 2) := dgX12_findMeets_1 (108, (.iload 7, 2)) (List.mem_of_getElem? (i := 18) rfl)
theorem dX12_findMeets_110 : decode cX12_findMeets 110 = .ok (.iaload, 1) := dgX12_findMeets_1 (110, (.iaload, 1)) (List.mem_of_getElem? (i := 19) rfl)
theorem dX12_findMeets_111 : decode cX12_findMeets 111 = .ok (.aload_n 0, 1) := dgX12_findMeets_1 (111, (.aload_n 0, 1)) (List.mem_of_getElem? (i := 20) rfl)
theorem dX12_findMeets_112 : decode cX12_findMeets 112 = .ok (.getfield 13, 3) := dgX12_findMeets_1 (112, (.getfield 13, 3)) (List.mem_of_getElem? (i := 21) rfl)
theorem dX12_findMeets_115 : decode cX12_findMeets 115 = .ok (.iload 7, 2) := dgX12_findMeets_1 (115, (.iload 7, 2)) (List.mem_of_getElem? (i := 22) rfl)
theorem dX12_findMeets_117 : decode cX12_findMeets 117 = .ok (.iconst 1, 1) := dgX12_findMeets_1 (117, (.iconst 1, 1)) (List.mem_of_getElem? (i := 23) rfl)
theorem dX12_findMeets_118 : decode cX12_findMeets 118 = .ok (.iadd, 1) := dgX12_findMeets_1 (118, (.iadd, 1)) (List.mem_of_getElem? (i := 24) rfl)
theorem dX12_findMeets_119 : decode cX12_findMeets 119 = .ok (.iaload, 1) := dgX12_findMeets_1 (119, (.iaload, 1)) (List.mem_of_getElem? (i := 25) rfl)
theorem dX12_findMeets_120 : decode cX12_findMeets 120 = .ok (.aload_n 0, 1) := dgX12_findMeets_1 (120, (.aload_n 0, 1)) (List.mem_of_getElem? (i := 26) rfl)
theorem dX12_findMeets_121 : decode cX12_findMeets 121 = .ok (.getfield 13, 3) := dgX12_findMeets_1 (121, (.getfield 13, 3)) (List.mem_of_getElem? (i := 27) rfl)
theorem dX12_findMeets_124 : decode cX12_findMeets 124 = .ok (.iload 7, 2) := dgX12_findMeets_1 (124, (.iload 7, 2)) (List.mem_of_getElem? (i := 28) rfl)
theorem dX12_findMeets_126 : decode cX12_findMeets 126 = .ok (.iconst 2, 1) := dgX12_findMeets_1 (126, (.iconst 2, 1)) (List.mem_of_getElem? (i := 29) rfl)
theorem dX12_findMeets_127 : decode cX12_findMeets 127 = .ok (.iadd, 1) := dgX12_findMeets_1 (127, (.iadd, 1)) (List.mem_of_getElem? (i := 30) rfl)
theorem dX12_findMeets_128 : decode cX12_findMeets 128 = .ok (.iaload, 1) := dgX12_findMeets_1 (128, (.iaload, 1)) (List.mem_of_getElem? (i := 31) rfl)
theorem dX12_findMeets_129 : decode cX12_findMeets 129 = .ok (.iconst 0, 1) := dgX12_findMeets_1 (129, (.iconst 0, 1)) (List.mem_of_getElem? (i := 32) rfl)
theorem dX12_findMeets_130 : decode cX12_findMeets 130 = .ok (.invokevirtual 401, 3) := dgX12_findMeets_1 (130, (.invokevirtual 401, 3)) (List.mem_of_getElem? (i := 33) rfl)
theorem dX12_findMeets_133 : decode cX12_findMeets 133 = .ok (.iconst 0, 1) := dgX12_findMeets_1 (133, (.iconst 0, 1)) (List.mem_of_getElem? (i := 34) rfl)
theorem dX12_findMeets_134 : decode cX12_findMeets 134 = .ok (.istore 9, 2) := dgX12_findMeets_1 (134, (.istore 9, 2)) (List.mem_of_getElem? (i := 35) rfl)
theorem dX12_findMeets_136 : decode cX12_findMeets 136 = .ok (.iload 9, 2) := dgX12_findMeets_1 (136, (.iload 9, 2)) (List.mem_of_getElem? (i := 36) rfl)
theorem dX12_findMeets_138 : decode cX12_findMeets 138 = .ok (.aload_n 0, 1) := dgX12_findMeets_1 (138, (.aload_n 0, 1)) (List.mem_of_getElem? (i := 37) rfl)
theorem dX12_findMeets_139 : decode cX12_findMeets 139 = .ok (.getfield 358, 3) := dgX12_findMeets_1 (139, (.getfield 358, 3)) (List.mem_of_getElem? (i := 38) rfl)
theorem dX12_findMeets_142 : decode cX12_findMeets 142 = .ok (.if_icmp .ge 38, 3) := dgX12_findMeets_1 (142, (.if_icmp .ge 38, 3)) (List.mem_of_getElem? (i := 39) rfl)
theorem dgX12_findMeets_2 : ∀ r ∈ ([(145, (.aload_n 0, 1)), (146, (.getfield 95, 3)), (149, (.aload_n 0, 1)), (150, (.getfield 82, 3)), (153, (.iload 9, 2)), (155, (.iaload, 1)), (156, (.dup2, 1)), (157, (.iaload, 1)), (158, (.iload 8, 2)), (160, (.ifCond .eq 10, 3)), (163, (.iconst 1, 1)), (164, (.iload 5, 2)), (166, (.ishl, 1)), (167, (.goto 5, 3)), (170, (.bipush 64, 2)), (172, (.ior, 1)), (173, (.iastore, 1)), (174, (.iinc 9 1, 3)), (177, (.goto (-41), 3)), (180, (.aload_n 0, 1)), (181, (.dup, 1)), (182, (.getfield 422, 3)), (185, (.iload 8, 2)), (187, (.ifCond .eq 10, 3)), (190, (.iconst 1, 1)), (191, (.iload 5, 2)), (193, (.ishl, 1)), (194, (.goto 4, 3)), (197, (.iconst 0, 1)), (198, (.ior, 1)), (199, (.putfield 422, 3)), (202, (.iload 5, 2)), (204, (.iload 8, 2)), (206, (.ifCond .eq 7, 3)), (209, (.iconst 1, 1)), (210, (.goto 4, 3)), (213, (.iconst 0, 1)), (214, (.iadd, 1)), (215, (.istore 5, 2)), (217, (.iinc 6 1, 3))] : List (Nat × (Instr × Nat))), decode cX12_findMeets r.1 = .ok r.2 := by decide +kernel
theorem dX12_findMeets_145 : decode cX12_findMeets 145 = .ok (.aload_n 0, 1) := dgX12_findMeets_2 (145, (.aload_n 0, 1)) (List.mem_of_getElem? (i := 0) rfl)
theorem dX12_findMeets_146 : decode cX12_findMeets 146 = .ok (.getfield 95, 3) := dgX12_findMeets_2 (146, (.getfield 95, 3)) (List.mem_of_getElem? (i := 1) rfl)
theorem dX12_findMeets_149 : decode cX12_findMeets 149 = .ok (.aload_n 0, 1) := dgX12_findMeets_2 (149, (.aload_n 0, 1)) (List.mem_of_getElem? (i := 2) rfl)
theorem dX12_findMeets_150 : decode cX12_findMeets 150 = .ok (.getfield 82, 3) := dgX12_findMeets_2 (150, (.getfield 82, 3)) (List.mem_of_getElem? (i := 3) rfl)
theorem dX12_findMeets_153 : decode cX12_findMeets 153 = .ok (.iload 9, 2) := dgX12_findMeets_2 (153, (.iload 9, 2)) (List.mem_of_getElem? (i := 4) rfl)
theorem dX12_findMeets_155 : decode cX12_findMeets 155 = .ok (.iaload, 1) := dgX12_findMeets_2 (155, (.iaload, 1)) (List.mem_of_getElem? (i := 5) rfl)
theorem dX12_findMeets_156 : decode cX12_findMeets 156 = .ok (.dup2, 1) := dgX12_findMeets_2 (156, (.dup2, 1)) (List.mem_of_getElem? (i := 6) rfl)
theorem dX12_findMeets_157 : decode cX12_findMeets 157 = .ok (.iaload, 1) := dgX12_findMeets_2 (157, (.iaload, 1)) (List.mem_of_getElem? (i := 7) rfl)
theorem dX12_findMeets_158 : decode cX12_findMeets 158 = .ok (.iload 8, 2) := dgX12_findMeets_2 (158, (.iload 8, 2)) (List.mem_of_getElem? (i := 8) rfl)
theorem dX12_findMeets_160 : decode cX12_findMeets 160 = .ok (.ifCond .eq 10, 3) := dgX12_findMeets_2 (160, (.ifCond .eq 10, 3)) (List.mem_of_getElem? (i := 9) rfl)
theorem dX12_findMeets_163 : decode cX12_findMeets 163 = .ok (.iconst 1, 1) := dgX12_findMeets_2 (163, (.iconst 1, 1)) (List.mem_of_getElem? (i := 10) rfl)
theorem dX12_findMeets_164 : decode cX12_findMeets 164 = .ok (.iload 5, 2) := dgX12_findMeets_2 (164, (.iload 5, 2)) (List.mem_of_getElem? (i := 11) rfl)
theorem dX12_findMeets_166 : decode cX12_findMeets 166 = .ok (.ishl, 1) := dgX12_findMeets_2 (166, (.ishl, 1)) (List.mem_of_getElem? (i := 12) rfl)
theorem dX12_findMeets_167 : decode cX12_findMeets 167 = .ok (.goto 5, 3) := dgX12_findMeets_2 (167, (.goto 5, 3)) (List.mem_of_getElem? (i := 13) rfl)
theorem dX12_findMeets_170 : decode cX12_findMeets 170 = .ok (.bipush 64, 2) := dgX12_findMeets_2 (170, (.bipush 64, 2)) (List.mem_of_getElem? (i := 14) rfl)
theorem dX12_findMeets_172 : decode cX12_findMeets 172 = .ok (.ior, 1) := dgX12_findMeets_2 (172, (.ior, 1)) (List.mem_of_getElem? (i := 15) rfl)
theorem dX12_findMeets_173 : decode cX12_findMeets 173 = .ok (.iastore, 1) := dgX12_findMeets_2 (173, (.iastore, 1)) (List.mem_of_getElem? (i := 16) rfl)
theorem dX12_findMeets_174 : decode cX12_findMeets 174 = .ok (.iinc 9 1, 3) := dgX12_findMeets_2 (174, (.iinc 9 1, 3)) (List.mem_of_getElem? (i := 17) rfl)
theorem dX12_findMeets_177 : decode cX12_findMeets 177 = .ok (.goto (-41), 3) := dgX12_findMeets_2 (177, (.goto (-41), 3)) (List.mem_of_getElem? (i := 18) rfl)
theorem dX12_findMeets_180 : decode cX12_findMeets 180 = .ok (.aload_n 0, 1) := dgX12_findMeets_2 (180, (.aload_n 0, 1)) (List.mem_of_getElem? (i := 19) rfl)
theorem dX12_findMeets_181 : decode cX12_findMeets 181 = .ok (.dup, 1) := dgX12_findMeets_2 (181, (.dup, 1)) (List.mem_of_getElem? (i := 20) rfl)
theorem dX12_findMeets_182 : decode cX12_findMeets 182 = .ok (.getfield 422, 3) := dgX12_findMeets_2 (182, (.getfield 422, 3)) (List.mem_of_getElem? (i := 21) rfl)
theorem dX12_findMeets_185 : decode cX12_findMeets 185 = .ok (.iload 8, 2) := dgX12_findMeets_2 (185, (.iload 8, 2)) (List.mem_of_getElem? (i := 22) rfl)
theorem dX12_findMeets_187 : decode cX12_findMeets 187 = .ok (.ifCond .eq 10, 3) := dgX12_findMeets_2 (187, (.ifCond .eq 10, 3)) (List.mem_of_getElem? (i := 23) rfl)
theorem dX12_findMeets_190 : decode cX12_findMeets 190 = .ok (.iconst 1, 1) := dgX12_findMeets_2 (190, (.iconst 1, 1)) (List.mem_of_getElem? (i := 24) rfl)
theorem dX12_findMeets_191 : decode cX12_findMeets 191 = .ok (.iload 5, 2) := dgX12_findMeets_2 (191, (.iload 5, 2)) (List.mem_of_getElem? (i := 25) rfl)
theorem dX12_findMeets_193 : decode cX12_findMeets 193 = .ok (.ishl, 1) := dgX12_findMeets_2 (193, (.ishl, 1)) (List.mem_of_getElem? (i := 26) rfl)
theorem dX12_findMeets_194 : decode cX12_findMeets 194 = .ok (.goto 4, 3) := dgX12_findMeets_2 (194, (.goto 4, 3)) (List.mem_of_getElem? (i := 27) rfl)
theorem dX12_findMeets_197 : decode cX12_findMeets 197 = .ok (.iconst 0, 1) := dgX12_findMeets_2 (197, (.iconst 0, 1)) (List.mem_of_getElem? (i := 28) rfl)
theorem dX12_findMeets_198 : decode cX12_findMeets 198 = .ok (.ior, 1) := dgX12_findMeets_2 (198, (.ior, 1)) (List.mem_of_getElem? (i := 29) rfl)
theorem dX12_findMeets_199 : decode cX12_findMeets 199 = .ok (.putfield 422, 3) := dgX12_findMeets_2 (199, (.putfield 422, 3)) (List.mem_of_getElem? (i := 30) rfl)
theorem dX12_findMeets_202 : decode cX12_findMeets 202 = .ok (.iload 5, 2) := dgX12_findMeets_2 (202, (.iload 5, 2)) (List.mem_of_getElem? (i := 31) rfl)
theorem dX12_findMeets_204 : decode cX12_findMeets 204 = .ok (.iload 8, 2) := dgX12_findMeets_2 (204, (.iload 8, 2)) (List.mem_of_getElem? (i := 32) rfl)
theorem dX12_findMeets_206 : decode cX12_findMeets 206 = .ok (.ifCond .eq 7, 3) := dgX12_findMeets_2 (206, (.ifCond .eq 7, 3)) (List.mem_of_getElem? (i := 33) rfl)
theorem dX12_findMeets_209 : decode cX12_findMeets 209 = .ok (.iconst 1, 1) := dgX12_findMeets_2 (209, (.iconst 1, 1)) (List.mem_of_getElem? (i := 34) rfl)
theorem dX12_findMeets_210 : decode cX12_findMeets 210 = .ok (.goto 4, 3) := dgX12_findMeets_2 (210, (.goto 4, 3)) (List.mem_of_getElem? (i := 35) rfl)
theorem dX12_findMeets_213 : decode cX12_findMeets 213 = .ok (.iconst 0, 1) := dgX12_findMeets_2 (213, (.iconst 0, 1)) (List.mem_of_getElem? (i := 36) rfl)
theorem dX12_findMeets_214 : decode cX12_findMeets 214 = .ok (.iadd, 1) := dgX12_findMeets_2 (214, (.iadd, 1)) (List.mem_of_getElem? (i := 37) rfl)
theorem dX12_findMeets_215 : decode cX12_findMeets 215 = .ok (.istore 5, 2) := dgX12_findMeets_2 (215, (.istore 5, 2)) (List.mem_of_getElem? (i := 38) rfl)
theorem dX12_findMeets_217 : decode cX12_findMeets 217 = .ok (.iinc 6 1, 3) := dgX12_findMeets_2 (217, (.iinc 6 1, 3)) (List.mem_of_getElem? (i := 39) rfl)
theorem dgX12_findMeets_3 : ∀ r ∈ ([(220, (.goto (-167), 3)), (223, (.iload_n 3, 1)), (224, (.iconst (-1), 1)), (225, (.if_icmp .eq 47, 3)), (228, (.aload_n 0, 1)), (229, (.iload_n 2, 1)), (230, (.iload_n 3, 1)), (231, (.iload 4, 2)), (233, (.iconst 0, 1)), (234, (.invokevirtual 401, 3)), (237, (.iconst 0, 1)), (238, (.istore 6, 2)), (240, (.iload 6, 2)), (242, (.aload_n 0, 1)), (243, (.getfield 358, 3)), (246, (.if_icmp .ge 26, 3)), (249, (.aload_n 0, 1)), (250, (.getfield 95, 3)), (253, (.aload_n 0, 1)), (254, (.getfield 82, 3)), (257, (.iload 6, 2)), (259, (.iaload, 1)), (260, (.dup2, 1)), (261, (.iaload, 1)), (262, (.bipush 64, 2)), (264, (.ior, 1)), (265, (.iastore, 1)), (266, (.iinc 6 1, 3)), (269, (.goto (-29), 3)), (272, (.return_, 1))] : List (Nat × (Instr × Nat))), decode cX12_findMeets r.1 = .ok r.2 := by decide +kernel
theorem dX12_findMeets_220 : decode cX12_findMeets 220 = .ok (.goto (-167), 3) := dgX12_findMeets_3 (220, (.goto (-167), 3)) (List.mem_of_getElem? (i := 0) rfl)
theorem dX12_findMeets_223 : decode cX12_findMeets 223 = .ok (.iload_n 3, 1) := dgX12_findMeets_3 (223, (.iload_n 3, 1)) (List.mem_of_getElem? (i := 1) rfl)
theorem dX12_findMeets_224 : decode cX12_findMeets 224 = .ok (.iconst (-1), 1) := dgX12_findMeets_3 (224, (.iconst (-1), 1)) (List.mem_of_getElem? (i := 2) rfl)
theorem dX12_findMeets_225 : decode cX12_findMeets 225 = .ok (.if_icmp .eq 47, 3) := dgX12_findMeets_3 (225, (.if_icmp .eq 47, 3)) (List.mem_of_getElem? (i := 3) rfl)
theorem dX12_findMeets_228 : decode cX12_findMeets 228 = .ok (.aload_n 0, 1) := dgX12_findMeets_3 (228, (.aload_n 0, 1)) (List.mem_of_getElem? (i := 4) rfl)
theorem dX12_findMeets_229 : decode cX12_findMeets 229 = .ok (.iload_n 2, 1) := dgX12_findMeets_3 (229, (.iload_n 2, 1)) (List.mem_of_getElem? (i := 5) rfl)
theorem dX12_findMeets_230 : decode cX12_findMeets 230 = .ok (.iload_n 3, 1) := dgX12_findMeets_3 (230, (.iload_n 3, 1)) (List.mem_of_getElem? (i := 6) rfl)
theorem dX12_findMeets_231 : decode cX12_findMeets 231 = .ok (.iload 4, 2) := dgX12_findMeets_3 (231, (.iload 4, 2)) (List.mem_of_getElem? (i := 7) rfl)
theorem dX12_findMeets_233 : decode cX12_findMeets 233 = .ok (.iconst 0, 1) := dgX12_findMeets_3 (233, (.iconst 0, 1)) (List.mem_of_getElem? (i := 8) rfl)
theorem dX12_findMeets_234 : decode cX12_findMeets 234 = .ok (.invokevirtual 401, 3) := dgX12_findMeets_3 (234, (.invokevirtual 401, 3)) (List.mem_of_getElem? (i := 9) rfl)
theorem dX12_findMeets_237 : decode cX12_findMeets 237 = .ok (.iconst 0, 1) := dgX12_findMeets_3 (237, (.iconst 0, 1)) (List.mem_of_getElem? (i := 10) rfl)
theorem dX12_findMeets_238 : decode cX12_findMeets 238 = .ok (.istore 6, 2) := dgX12_findMeets_3 (238, (.istore 6, 2)) (List.mem_of_getElem? (i := 11) rfl)
theorem dX12_findMeets_240 : decode cX12_findMeets 240 = .ok (.iload 6, 2) := dgX12_findMeets_3 (240, (.iload 6, 2)) (List.mem_of_getElem? (i := 12) rfl)
theorem dX12_findMeets_242 : decode cX12_findMeets 242 = .ok (.aload_n 0, 1) := dgX12_findMeets_3 (242, (.aload_n 0, 1)) (List.mem_of_getElem? (i := 13) rfl)
theorem dX12_findMeets_243 : decode cX12_findMeets 243 = .ok (.getfield 358, 3) := dgX12_findMeets_3 (243, (.getfield 358, 3)) (List.mem_of_getElem? (i := 14) rfl)
theorem dX12_findMeets_246 : decode cX12_findMeets 246 = .ok (.if_icmp .ge 26, 3) := dgX12_findMeets_3 (246, (.if_icmp .ge 26, 3)) (List.mem_of_getElem? (i := 15) rfl)
theorem dX12_findMeets_249 : decode cX12_findMeets 249 = .ok (.aload_n 0, 1) := dgX12_findMeets_3 (249, (.aload_n 0, 1)) (List.mem_of_getElem? (i := 16) rfl)
theorem dX12_findMeets_250 : decode cX12_findMeets 250 = .ok (.getfield 95, 3) := dgX12_findMeets_3 (250, (.getfield 95, 3)) (List.mem_of_getElem? (i := 17) rfl)
theorem dX12_findMeets_253 : decode cX12_findMeets 253 = .ok (.aload_n 0, 1) := dgX12_findMeets_3 (253, (.aload_n 0, 1)) (List.mem_of_getElem? (i := 18) rfl)
theorem dX12_findMeets_254 : decode cX12_findMeets 254 = .ok (.getfield 82, 3) := dgX12_findMeets_3 (254, (.getfield 82, 3)) (List.mem_of_getElem? (i := 19) rfl)
theorem dX12_findMeets_257 : decode cX12_findMeets 257 = .ok (.iload 6, 2) := dgX12_findMeets_3 (257, (.iload 6, 2)) (List.mem_of_getElem? (i := 20) rfl)
theorem dX12_findMeets_259 : decode cX12_findMeets 259 = .ok (.iaload, 1) := dgX12_findMeets_3 (259, (.iaload, 1)) (List.mem_of_getElem? (i := 21) rfl)
theorem dX12_findMeets_260 : decode cX12_findMeets 260 = .ok (.dup2, 1) := dgX12_findMeets_3 (260, (.dup2, 1)) (List.mem_of_getElem? (i := 22) rfl)
theorem dX12_findMeets_261 : decode cX12_findMeets 261 = .ok (.iaload, 1) := dgX12_findMeets_3 (261, (.iaload, 1)) (List.mem_of_getElem? (i := 23) rfl)
theorem dX12_findMeets_262 : decode cX12_findMeets 262 = .ok (.bipush 64, 2) := dgX12_findMeets_3 (262, (.bipush 64, 2)) (List.mem_of_getElem? (i := 24) rfl)
theorem dX12_findMeets_264 : decode cX12_findMeets 264 = .ok (.ior, 1) := dgX12_findMeets_3 (264, (.ior, 1)) (List.mem_of_getElem? (i := 25) rfl)
theorem dX12_findMeets_265 : decode cX12_findMeets 265 = .ok (.iastore, 1) := dgX12_findMeets_3 (265, (.iastore, 1)) (List.mem_of_getElem? (i := 26) rfl)
theorem dX12_findMeets_266 : decode cX12_findMeets 266 = .ok (.iinc 6 1, 3) := dgX12_findMeets_3 (266, (.iinc 6 1, 3)) (List.mem_of_getElem? (i := 27) rfl)
theorem dX12_findMeets_269 : decode cX12_findMeets 269 = .ok (.goto (-29), 3) := dgX12_findMeets_3 (269, (.goto (-29), 3)) (List.mem_of_getElem? (i := 28) rfl)
theorem dX12_findMeets_272 : decode cX12_findMeets 272 = .ok (.return_, 1) := dgX12_findMeets_3 (272, (.return_, 1)) (List.mem_of_getElem? (i := 29) rfl)
theorem fl_X12_422 : Cond.fieldLink RX12 422 "LateGlassModel" "wanted" "I" ∈ tblG := tg 1249 (by decide +kernel) (by decide +kernel)
set_option maxHeartbeats 4000000 in
set_option maxRecDepth 100000 in
theorem n_findMeets (l : Launch) (G : g5_G) (b_o b_ro b_se b_re b_pt b_me b_rf b_im b_ke b_tp b_nl b_op b_ar b_pi b_pa b_ws b_hw b_ip b_ah b_be b_tr b_ld b_wn : Nat) (sz : Nat) (u_th : Int32) (u_sa : Int32) (u_fd : Int32) (u_td : Int32) (u_fr : Int32) (u_to : Int32) (u_so : Int32) (u_fa : Int32) (u_bd : Int32) (u_nc : Int32) (u_co : Int32) (u_le : Int32) (u_pd : Int32) (u_od : Int32) (u_la : Int32) (u_bk : Int32) (u_ce : Int32) (u_ho : Int32) (u_wy : Int32) (u_bt : Int32) (u_ps : Int32) (u_tg : Int32) (u_sn : Int32) (u_ic : Int32) (u_wd : Int32) (u_id : Int32) (p_1 : Int32) (p_2 : Int32) (p_3 : Int32) (p_4 : Int32) (u_wo : Int64) (u_va : Int64) (u_su : Int64) (u_st : Int64) (v_ro : Nat → Int32) (v_se : Nat → Int64) (v_re : Nat → Int64) (v_pt : Nat → Int32) (v_me : Nat → Int32) (h_u_td : 0 ≤ u_td.toInt ∧ u_td.toInt ≤ 400) (h_u_fr : 0 ≤ u_fr.toInt ∧ u_fr.toInt ≤ 400) (h_u_to : 0 ≤ u_to.toInt ∧ u_to.toInt ≤ 400) (h_u_bd : 0 ≤ u_bd.toInt ∧ u_bd.toInt ≤ 1) (h_u_nc : 0 ≤ u_nc.toInt ∧ u_nc.toInt ≤ 12) (h_u_co : 0 ≤ u_co.toInt ∧ u_co.toInt ≤ 400) (h_u_pd : 0 ≤ u_pd.toInt ∧ u_pd.toInt ≤ 400) (h_u_la : 0 ≤ u_la.toInt ∧ u_la.toInt ≤ 4840) (h_u_bk : 0 ≤ u_bk.toInt ∧ u_bk.toInt ≤ 1) (h_u_ce : 0 ≤ u_ce.toInt ∧ u_ce.toInt ≤ 63) (h_u_ho : 0 ≤ u_ho.toInt ∧ u_ho.toInt ≤ 23) (h_u_wy : 0 ≤ u_wy.toInt ∧ u_wy.toInt ≤ 3) (h_u_bt : 0 ≤ u_bt.toInt ∧ u_bt.toInt ≤ 1000000) (h_u_ps : 0 ≤ u_ps.toInt ∧ u_ps.toInt ≤ 200) (h_u_ic : 0 ≤ u_ic.toInt ∧ u_ic.toInt ≤ 1) (h_u_id : 0 ≤ u_id.toInt ∧ u_id.toInt ≤ 1) (h_p_2 : 0 ≤ p_2.toInt ∧ p_2.toInt ≤ 63) (h_p_3 : (-1) ≤ p_3.toInt ∧ p_3.toInt ≤ 3) (h_p_4 : 0 ≤ p_4.toInt ∧ p_4.toInt ≤ 23) (r_ro : MI v_ro) (r_pt : PTI v_pt) (r_me : MEI v_me) : Met l yX12_findMeets (wsG yX12_findMeets cX12_findMeets 10 none) ({ frames := 7, cells := 0, slots := 0, locals := 176 }) (va_Pc [.ref b_o, .int p_1, .int p_2, .int p_3, .int p_4] (g5_P G [(b_o, (oc12 u_th u_sa b_rf b_ro b_im b_ke u_fd b_tp u_td u_fr u_to u_so u_wo u_fa u_bd u_nc b_nl u_co b_op b_ar u_le b_pi b_pa u_pd u_od b_ws b_hw u_la b_se b_re u_bk u_va u_su u_ce u_ho u_wy u_bt u_ps b_pt u_tg u_sn b_ip u_ic b_ah b_be b_me u_wd b_tr b_ld u_st b_wn u_id)), (b_ro, (arI G 5740 v_ro)), (b_se, (arJ G 13 v_se)), (b_re, (arJ G 400 v_re)), (b_pt, (arI G 200 v_pt)), (b_me, (arI G 1536 v_me))] sz)) (va_Qv (fun (u : va_W) => (∃ (o_la : Int32) (o_bk : Int32) (o_va : Int64) (o_su : Int64) (o_ce : Int32) (o_ho : Int32) (o_wy : Int32) (o_bt : Int32) (o_ps : Int32) (o_tg : Int32) (o_sn : Int32) (o_wd : Int32) (o_se : Nat → Int64) (o_re : Nat → Int64) (o_pt : Nat → Int32) (o_me : Nat → Int32), (0 ≤ o_la.toInt ∧ o_la.toInt ≤ 4840) ∧ (0 ≤ o_bk.toInt ∧ o_bk.toInt ≤ 1) ∧ (0 ≤ o_ce.toInt ∧ o_ce.toInt ≤ 63) ∧ (0 ≤ o_ho.toInt ∧ o_ho.toInt ≤ 23) ∧ (0 ≤ o_wy.toInt ∧ o_wy.toInt ≤ 3) ∧ (0 ≤ o_bt.toInt ∧ o_bt.toInt ≤ 1000000) ∧ (0 ≤ o_ps.toInt ∧ o_ps.toInt ≤ 200) ∧ (PTI o_pt) ∧ (MEI o_me) ∧ (u = [(b_o, (oc12 u_th u_sa b_rf b_ro b_im b_ke u_fd b_tp u_td u_fr u_to u_so u_wo u_fa u_bd u_nc b_nl u_co b_op b_ar u_le b_pi b_pa u_pd u_od b_ws b_hw o_la b_se b_re o_bk o_va o_su o_ce o_ho o_wy o_bt o_ps b_pt o_tg o_sn b_ip u_ic b_ah b_be b_me o_wd b_tr b_ld u_st b_wn u_id)), (b_ro, (arI G 5740 v_ro)), (b_se, (arJ G 13 o_se)), (b_re, (arJ G 400 o_re)), (b_pt, (arI G 200 o_pt)), (b_me, (arI G 1536 o_me))]))) (g5_B G (va_A [(b_o, (oc12 u_th u_sa b_rf b_ro b_im b_ke u_fd b_tp u_td u_fr u_to u_so u_wo u_fa u_bd u_nc b_nl u_co b_op b_ar u_le b_pi b_pa u_pd u_od b_ws b_hw u_la b_se b_re u_bk u_va u_su u_ce u_ho u_wy u_bt u_ps b_pt u_tg u_sn b_ip u_ic b_ah b_be b_me u_wd b_tr b_ld u_st b_wn u_id)), (b_ro, (arI G 5740 v_ro)), (b_se, (arJ G 13 v_se)), (b_re, (arJ G 400 v_re)), (b_pt, (arI G 200 v_pt)), (b_me, (arI G 1536 v_me))] sz)) (va_A [(b_o, (oc12 u_th u_sa b_rf b_ro b_im b_ke u_fd b_tp u_td u_fr u_to u_so u_wo u_fa u_bd u_nc b_nl u_co b_op b_ar u_le b_pi b_pa u_pd u_od b_ws b_hw u_la b_se b_re u_bk u_va u_su u_ce u_ho u_wy u_bt u_ps b_pt u_tg u_sn b_ip u_ic b_ah b_be b_me u_wd b_tr b_ld u_st b_wn u_id)), (b_ro, (arI G 5740 v_ro)), (b_se, (arJ G 13 v_se)), (b_re, (arJ G 400 v_re)), (b_pt, (arI G 200 v_pt)), (b_me, (arI G 1536 v_me))] sz)) 0 0 (va_A [(b_o, (oc12 u_th u_sa b_rf b_ro b_im b_ke u_fd b_tp u_td u_fr u_to u_so u_wo u_fa u_bd u_nc b_nl u_co b_op b_ar u_le b_pi b_pa u_pd u_od b_ws b_hw u_la b_se b_re u_bk u_va u_su u_ce u_ho u_wy u_bt u_ps b_pt u_tg u_sn b_ip u_ic b_ah b_be b_me u_wd b_tr b_ld u_st b_wn u_id)), (b_ro, (arI G 5740 v_ro)), (b_se, (arJ G 13 v_se)), (b_re, (arJ G 400 v_re)), (b_pt, (arI G 200 v_pt)), (b_me, (arI G 1536 v_me))] sz) := by
  refine Met.ofW (cc := cX12_findMeets) (maxL := 10) (ret := none) (by decide +kernel) rfl ?_
  intro p e s m args below meth c s₁ B hml hv
  obtain ⟨rfl, hsz, hP, hK, hD0, hN, hT⟩ := hv
  have hx := B.exec
  have hb := B.bytes
  have hr := B.returns
  have hts : ∀ w ∈ tblG, w.before _ s = true := fun w h => atoms_spec (ws := (wsG yX12_findMeets cX12_findMeets 10 none)) B.pre w (List.mem_cons_of_mem _ h)
  have hown : s.vm.findClass RX12 = some m.cls := findClass_of_methodNamed B.named
  have hlocks := B.notSynchronized
  subst hsz
  have hD := hD0.self (sz := s.heap.size)
  generalize hAe : va_A [(b_o, (oc12 u_th u_sa b_rf b_ro b_im b_ke u_fd b_tp u_td u_fr u_to u_so u_wo u_fa u_bd u_nc b_nl u_co b_op b_ar u_le b_pi b_pa u_pd u_od b_ws b_hw u_la b_se b_re u_bk u_va u_su u_ce u_ho u_wy u_bt u_ps b_pt u_tg u_sn b_ip u_ic b_ah b_be b_me u_wd b_tr b_ld u_st b_wn u_id)), (b_ro, (arI G 5740 v_ro)), (b_se, (arJ G 13 v_se)), (b_re, (arJ G 400 v_re)), (b_pt, (arI G 200 v_pt)), (b_me, (arI G 1536 v_me))] s.heap.size = A at hD hT ⊢
  have hA : ∀ q : Nat, s.heap.size ≤ q → A q := fun q h => by rw [← hAe]; exact Or.inr h
  have hS : va_S A s.heap s.heap [] := va_S.rf
  replace hP : va_P G.1 vwCl [(b_o, (oc12 u_th u_sa b_rf b_ro b_im b_ke u_fd b_tp u_td u_fr u_to u_so u_wo u_fa u_bd u_nc b_nl u_co b_op b_ar u_le b_pi b_pa u_pd u_od b_ws b_hw u_la b_se b_re u_bk u_va u_su u_ce u_ho u_wy u_bt u_ps b_pt u_tg u_sn b_ip u_ic b_ah b_be b_me u_wd b_tr b_ld u_st b_wn u_id)), (b_ro, (arI G 5740 v_ro)), (b_se, (arJ G 13 v_se)), (b_re, (arJ G 400 v_re)), (b_pt, (arI G 200 v_pt)), (b_me, (arI G 1536 v_me))] s.heap := hP
  have hl := lv_entry ([.ref b_o, .int p_1, .int p_2, .int p_3, .int p_4]) (n := 10) (Nat.le_of_ble_eq_true rfl)
  rw [lg_entry_eq]
  generalize (lg_sl ([.ref b_o, .int p_1, .int p_2, .int p_3, .int p_4]) ++ List.replicate (10 - (lg_sl ([.ref b_o, .int p_1, .int p_2, .int p_3, .int p_4])).length) Slot.unset).toArray = ls at hl ⊢
  replace hl : lv_has ls 10 [(0, .ref b_o), (1, .int p_1), (2, .int p_2), (3, .int p_3), (4, .int p_4)] := hl
  refine lv_aload_n hx hb dX12_findMeets_0 rfl (lv_at hl 0 rfl) ?_
  refine lv_iconst (v := 0) hx hb dX12_findMeets_1 (by decide +kernel) ?_
  refine va_put (D := G.1) (ci := 12) (v := .int 0) (ty := .int) (C := RX12) (T := TX12) (N := 52) hx hb hts inG_X12 tyX12 tyX12_ok nmX12 hown hK hP hD hS 0 rfl rfl 46 (by decide +kernel) (hts _ fl_X12_422) (fun _ h9 => h9) rfl (by decide +kernel) rfl rfl (Nat.le_of_ble_eq_true rfl) dX12_findMeets_2 ?_
  clear hP hD hS
  intro H locs hP hD hS
  refine g5_rs [(b_o, (oc12 u_th u_sa b_rf b_ro b_im b_ke u_fd b_tp u_td u_fr u_to u_so u_wo u_fa u_bd u_nc b_nl u_co b_op b_ar u_le b_pi b_pa u_pd u_od b_ws b_hw u_la b_se b_re u_bk u_va u_su u_ce u_ho u_wy u_bt u_ps b_pt u_tg u_sn b_ip u_ic b_ah b_be b_me 0 b_tr b_ld u_st b_wn u_id)), (b_ro, (arI G 5740 v_ro)), (b_se, (arJ G 13 v_se)), (b_re, (arJ G 400 v_re)), (b_pt, (arI G 200 v_pt)), (b_me, (arI G 1536 v_me))] hP hD ?_
  clear hP hD
  intro hP hD
  refine lv_iconst (v := 0) hx hb dX12_findMeets_5 (by decide +kernel) ?_
  refine lv_istore (lv' := [(5, .int 0), (0, .ref b_o), (1, .int p_1), (2, .int p_2), (3, .int p_3), (4, .int p_4)]) hx hb dX12_findMeets_6 hl (by decide +kernel) rfl ?_
  clear hl
  intro ls hl
  refine lv_iconst (v := 0) hx hb dX12_findMeets_8 (by decide +kernel) ?_
  refine lv_istore (lv' := [(6, .int 0), (5, .int 0), (0, .ref b_o), (1, .int p_1), (2, .int p_2), (3, .int p_3), (4, .int p_4)]) hx hb dX12_findMeets_9 hl (by decide +kernel) rfl ?_
  clear hl
  intro ls hl
  refine g5_loop (α := (Int32) × (Nat → Int32)) (fun (q : (Int32) × (Nat → Int32)) (ls : Array Slot) (H : Heap) (locs : List Loc) => match q with | (k11_6, k11_me) => lv_has ls 10 [(6, .int k11_6), (5, .int 0), (0, .ref b_o), (1, .int p_1), (2, .int p_2), (3, .int p_3), (4, .int p_4)] ∧ va_P G.1 vwCl [(b_o, (oc12 u_th u_sa b_rf b_ro b_im b_ke u_fd b_tp u_td u_fr u_to u_so u_wo u_fa u_bd u_nc b_nl u_co b_op b_ar u_le b_pi b_pa u_pd u_od b_ws b_hw u_la b_se b_re u_bk u_va u_su u_ce u_ho u_wy u_bt u_ps b_pt u_tg u_sn b_ip u_ic b_ah b_be b_me 0 b_tr b_ld u_st b_wn u_id)), (b_ro, (arI G 5740 v_ro)), (b_se, (arJ G 13 v_se)), (b_re, (arJ G 400 v_re)), (b_pt, (arI G 200 v_pt)), (b_me, (arI G 1536 k11_me))] H ∧ va_D A [(b_o, (oc12 u_th u_sa b_rf b_ro b_im b_ke u_fd b_tp u_td u_fr u_to u_so u_wo u_fa u_bd u_nc b_nl u_co b_op b_ar u_le b_pi b_pa u_pd u_od b_ws b_hw u_la b_se b_re u_bk u_va u_su u_ce u_ho u_wy u_bt u_ps b_pt u_tg u_sn b_ip u_ic b_ah b_be b_me 0 b_tr b_ld u_st b_wn u_id)), (b_ro, (arI G 5740 v_ro)), (b_se, (arJ G 13 v_se)), (b_re, (arJ G 400 v_re)), (b_pt, (arI G 200 v_pt)), (b_me, (arI G 1536 k11_me))] ∧ va_S A s.heap H locs ∧ (0 ≤ k11_6.toInt ∧ k11_6.toInt ≤ 1536) ∧ (MEI k11_me)) (fun (q : (Int32) × (Nat → Int32)) => match q with | (k11_6, k11_me) => Int.toNat (1536 - k11_6.toInt)) (0, v_me) ⟨lv_sub hl [0, 1, 2, 3, 4, 5, 6] rfl, hP, hD, hS, ⟨by decide, by decide⟩, r_me⟩ ?_
  rintro ⟨k11_6, k11_me⟩ ls H locs ⟨hl, hP, hD, hS, (i_1 : 0 ≤ k11_6.toInt ∧ k11_6.toInt ≤ 1536), (i_2 : MEI k11_me)⟩ ih_11_3
  replace hl : lv_has ls 10 [(6, .int k11_6), (5, .int 0), (0, .ref b_o), (1, .int p_1), (2, .int p_2), (3, .int p_3), (4, .int p_4)] := hl
  refine g5_rs [(b_o, (oc12 u_th u_sa b_rf b_ro b_im b_ke u_fd b_tp u_td u_fr u_to u_so u_wo u_fa u_bd u_nc b_nl u_co b_op b_ar u_le b_pi b_pa u_pd u_od b_ws b_hw u_la b_se b_re u_bk u_va u_su u_ce u_ho u_wy u_bt u_ps b_pt u_tg u_sn b_ip u_ic b_ah b_be b_me 0 b_tr b_ld u_st b_wn u_id)), (b_ro, (arI G 5740 v_ro)), (b_se, (arJ G 13 v_se)), (b_re, (arJ G 400 v_re)), (b_pt, (arI G 200 v_pt)), (b_me, (arI G 1536 k11_me))] hP hD ?_
  clear hP hD
  intro hP hD
  refine lv_iload hx hb dX12_findMeets_11 (lv_at hl 0 rfl) ?_
  refine lv_sipush (v := 1536) hx hb dX12_findMeets_13 (by decide +kernel) ?_
  refine lv_icmp_ge (tgt := 50) hx hb dX12_findMeets_16 (by decide +kernel) (fun c_4 => ?_) (fun c_4 => ?_)
  ·
    have i_4 : k11_6.toInt ≥ 1536 := g5_ge (a := k11_6.toInt) (b := 1536) rfl (by decide +kernel) c_4
    refine lv_iconst (v := 0) hx hb dX12_findMeets_50 (by decide +kernel) ?_
    refine lv_istore (lv' := [(6, .int 0), (5, .int 0), (0, .ref b_o), (1, .int p_1), (2, .int p_2), (3, .int p_3), (4, .int p_4)]) hx hb dX12_findMeets_51 hl (by decide +kernel) rfl ?_
    clear hl
    intro ls hl
    refine g5_loop (α := (Int32) × (Int32) × (Int32) × (Int32) × (Int64) × (Int64) × (Int32) × (Int32) × (Int32) × (Int32) × (Int32) × (Int32) × (Int32) × (Int32) × (Nat → Int64) × (Nat → Int64) × (Nat → Int32) × (Nat → Int32)) (fun (q : (Int32) × (Int32) × (Int32) × (Int32) × (Int64) × (Int64) × (Int32) × (Int32) × (Int32) × (Int32) × (Int32) × (Int32) × (Int32) × (Int32) × (Nat → Int64) × (Nat → Int64) × (Nat → Int32) × (Nat → Int32)) (ls : Array Slot) (H : Heap) (locs : List Loc) => match q with | (k53_6, k53_5, k53_la, k53_bk, k53_va, k53_su, k53_ce, k53_ho, k53_wy, k53_bt, k53_ps, k53_tg, k53_sn, k53_wd, k53_se, k53_re, k53_pt, k53_me) => lv_has ls 10 [(5, .int k53_5), (6, .int k53_6), (0, .ref b_o), (1, .int p_1), (2, .int p_2), (3, .int p_3), (4, .int p_4)] ∧ va_P G.1 vwCl [(b_o, (oc12 u_th u_sa b_rf b_ro b_im b_ke u_fd b_tp u_td u_fr u_to u_so u_wo u_fa u_bd u_nc b_nl u_co b_op b_ar u_le b_pi b_pa u_pd u_od b_ws b_hw k53_la b_se b_re k53_bk k53_va k53_su k53_ce k53_ho k53_wy k53_bt k53_ps b_pt k53_tg k53_sn b_ip u_ic b_ah b_be b_me k53_wd b_tr b_ld u_st b_wn u_id)), (b_ro, (arI G 5740 v_ro)), (b_se, (arJ G 13 k53_se)), (b_re, (arJ G 400 k53_re)), (b_pt, (arI G 200 k53_pt)), (b_me, (arI G 1536 k53_me))] H ∧ va_D A [(b_o, (oc12 u_th u_sa b_rf b_ro b_im b_ke u_fd b_tp u_td u_fr u_to u_so u_wo u_fa u_bd u_nc b_nl u_co b_op b_ar u_le b_pi b_pa u_pd u_od b_ws b_hw k53_la b_se b_re k53_bk k53_va k53_su k53_ce k53_ho k53_wy k53_bt k53_ps b_pt k53_tg k53_sn b_ip u_ic b_ah b_be b_me k53_wd b_tr b_ld u_st b_wn u_id)), (b_ro, (arI G 5740 v_ro)), (b_se, (arJ G 13 k53_se)), (b_re, (arJ G 400 k53_re)), (b_pt, (arI G 200 k53_pt)), (b_me, (arI G 1536 k53_me))] ∧ va_S A s.heap H locs ∧ (0 ≤ k53_6.toInt ∧ k53_6.toInt ≤ 10) ∧ (0 ≤ k53_5.toInt ∧ k53_5.toInt ≤ 10) ∧ (0 ≤ k53_la.toInt ∧ k53_la.toInt ≤ 4840) ∧ (0 ≤ k53_bk.toInt ∧ k53_bk.toInt ≤ 1) ∧ (0 ≤ k53_ce.toInt ∧ k53_ce.toInt ≤ 63) ∧ (0 ≤ k53_ho.toInt ∧ k53_ho.toInt ≤ 23) ∧ (0 ≤ k53_wy.toInt ∧ k53_wy.toInt ≤ 3) ∧ (0 ≤ k53_bt.toInt ∧ k53_bt.toInt ≤ 1000000) ∧ (0 ≤ k53_ps.toInt ∧ k53_ps.toInt ≤ 200) ∧ (PTI k53_pt) ∧ (MEI k53_me) ∧ (k53_5.toInt ≤ snS (fun j => v_ro (230 + j)) (v_ro 5).toInt k53_6.toInt.toNat)) (fun (q : (Int32) × (Int32) × (Int32) × (Int32) × (Int64) × (Int64) × (Int32) × (Int32) × (Int32) × (Int32) × (Int32) × (Int32) × (Int32) × (Int32) × (Nat → Int64) × (Nat → Int64) × (Nat → Int32) × (Nat → Int32)) => match q with | (k53_6, k53_5, k53_la, k53_bk, k53_va, k53_su, k53_ce, k53_ho, k53_wy, k53_bt, k53_ps, k53_tg, k53_sn, k53_wd, k53_se, k53_re, k53_pt, k53_me) => Int.toNat (10 - k53_6.toInt)) (0, 0, u_la, u_bk, u_va, u_su, u_ce, u_ho, u_wy, u_bt, u_ps, u_tg, u_sn, 0, v_se, v_re, v_pt, k11_me) ⟨lv_sub hl [1, 0, 2, 3, 4, 5, 6] rfl, hP, hD, hS, ⟨by decide, by decide⟩, ⟨by decide, by decide⟩, h_u_la, h_u_bk, h_u_ce, h_u_ho, h_u_wy, h_u_bt, h_u_ps, r_pt, i_2, Int.le_refl _⟩ ?_
    rintro ⟨k53_6, k53_5, k53_la, k53_bk, k53_va, k53_su, k53_ce, k53_ho, k53_wy, k53_bt, k53_ps, k53_tg, k53_sn, k53_wd, k53_se, k53_re, k53_pt, k53_me⟩ ls H locs ⟨hl, hP, hD, hS, (i_5 : 0 ≤ k53_6.toInt ∧ k53_6.toInt ≤ 10), (i_6 : 0 ≤ k53_5.toInt ∧ k53_5.toInt ≤ 10), (i_7 : 0 ≤ k53_la.toInt ∧ k53_la.toInt ≤ 4840), (i_8 : 0 ≤ k53_bk.toInt ∧ k53_bk.toInt ≤ 1), (i_9 : 0 ≤ k53_ce.toInt ∧ k53_ce.toInt ≤ 63), (i_10 : 0 ≤ k53_ho.toInt ∧ k53_ho.toInt ≤ 23), (i_11 : 0 ≤ k53_wy.toInt ∧ k53_wy.toInt ≤ 3), (i_12 : 0 ≤ k53_bt.toInt ∧ k53_bt.toInt ≤ 1000000), (i_13 : 0 ≤ k53_ps.toInt ∧ k53_ps.toInt ≤ 200), (i_14 : PTI k53_pt), (i_15 : MEI k53_me), (i_16 : k53_5.toInt ≤ snS (fun j => v_ro (230 + j)) (v_ro 5).toInt k53_6.toInt.toNat)⟩ ih_53_17
    replace hl : lv_has ls 10 [(5, .int k53_5), (6, .int k53_6), (0, .ref b_o), (1, .int p_1), (2, .int p_2), (3, .int p_3), (4, .int p_4)] := hl
    refine g5_rs [(b_o, (oc12 u_th u_sa b_rf b_ro b_im b_ke u_fd b_tp u_td u_fr u_to u_so u_wo u_fa u_bd u_nc b_nl u_co b_op b_ar u_le b_pi b_pa u_pd u_od b_ws b_hw k53_la b_se b_re k53_bk k53_va k53_su k53_ce k53_ho k53_wy k53_bt k53_ps b_pt k53_tg k53_sn b_ip u_ic b_ah b_be b_me k53_wd b_tr b_ld u_st b_wn u_id)), (b_ro, (arI G 5740 v_ro)), (b_se, (arJ G 13 k53_se)), (b_re, (arJ G 400 k53_re)), (b_pt, (arI G 200 k53_pt)), (b_me, (arI G 1536 k53_me))] hP hD ?_
    clear hP hD
    intro hP hD
    refine lv_iload hx hb dX12_findMeets_53 (lv_at hl 1 rfl) ?_
    refine lv_aload_n hx hb dX12_findMeets_55 rfl (lv_at hl 2 rfl) ?_
    refine va_get (D := G.1) (ci := 12) (v := .ref b_ro) (C := RX12) (T := TX12) (N := 52) hx hb hts inG_X12 hown hK hP 0 rfl rfl 3 (by decide +kernel) (hts _ fl_X12_13) (fun _ h9 => h9) rfl dX12_findMeets_56 ?_
    refine lv_iconst (v := 5) hx hb dX12_findMeets_59 (by decide +kernel) ?_
    refine va_iald hx hb hK hP 1 0 rfl rfl (i := 5) (by unfold vp_in; decide) dX12_findMeets_60 ?_
    refine g5_ti (v := (v_ro 5)) rfl ?_
    have hr_18 : 0 ≤ (v_ro 5).toInt ∧ (v_ro 5).toInt ≤ 10 := mi_5 r_ro
    refine lv_icmp_ge (tgt := 223) hx hb dX12_findMeets_61 (by decide +kernel) (fun c_19 => ?_) (fun c_19 => ?_)
    ·
      have i_19 : k53_6.toInt ≥ (v_ro 5).toInt := g5_ge (a := k53_6.toInt) (b := (v_ro 5).toInt) rfl rfl c_19
      refine lv_iload_n hx hb dX12_findMeets_223 rfl (lv_at hl 5 rfl) ?_
      refine lv_iconst (v := (-1)) hx hb dX12_findMeets_224 (by decide +kernel) ?_
      refine lv_icmp_eq (tgt := 272) hx hb dX12_findMeets_225 (by decide +kernel) (fun c_20 => ?_) (fun c_20 => ?_)
      ·
        have i_20 : p_3.toInt = (-1) := g5_eq (a := p_3.toInt) (b := (-1)) rfl (by decide +kernel) c_20
        exact W.vret hx hb hr (fun t ht hW => ⟨⟨[(b_o, (oc12 u_th u_sa b_rf b_ro b_im b_ke u_fd b_tp u_td u_fr u_to u_so u_wo u_fa u_bd u_nc b_nl u_co b_op b_ar u_le b_pi b_pa u_pd u_od b_ws b_hw k53_la b_se b_re k53_bk k53_va k53_su k53_ce k53_ho k53_wy k53_bt k53_ps b_pt k53_tg k53_sn b_ip u_ic b_ah b_be b_me k53_wd b_tr b_ld u_st b_wn u_id)), (b_ro, (arI G 5740 v_ro)), (b_se, (arJ G 13 k53_se)), (b_re, (arJ G 400 k53_re)), (b_pt, (arI G 200 k53_pt)), (b_me, (arI G 1536 k53_me))], rfl, ⟨k53_la, k53_bk, k53_va, k53_su, k53_ce, k53_ho, k53_wy, k53_bt, k53_ps, k53_tg, k53_sn, k53_wd, k53_se, k53_re, k53_pt, k53_me, i_7, i_8, i_9, i_10, i_11, i_12, i_13, i_14, i_15, rfl⟩, by rw [ht]; exact hP.sub [0, 1, 2, 3, 4, 5] rfl, hD.sub [0, 1, 2, 3, 4, 5] (by decide +kernel) rfl⟩, hS.F ht⟩) hS.2.2 dX12_findMeets_272
      ·
        have n_20 : gNe (p_3.toInt) ((-1)) := g5_eqN (a := p_3.toInt) (b := (-1)) rfl (by decide +kernel) c_20
        have i_20 : p_3.toInt ≥ 0 := by have z := g5_eqN (a := p_3.toInt) (b := (-1)) (by rfl) (by decide +kernel) c_20; omega
        refine lv_aload_n hx hb dX12_findMeets_228 rfl (lv_at hl 2 rfl) ?_
        refine lv_iload_n hx hb dX12_findMeets_229 rfl (lv_at hl 4 rfl) ?_
        refine lv_iload_n hx hb dX12_findMeets_230 rfl (lv_at hl 5 rfl) ?_
        refine lv_iload hx hb dX12_findMeets_231 (lv_at hl 6 rfl) ?_
        refine lv_iconst (v := 0) hx hb dX12_findMeets_233 (by decide +kernel) ?_
        obtain ⟨hPc, hDc, hFc⟩ := g5_sub3 (wc := [(b_o, (oc12 u_th u_sa b_rf b_ro b_im b_ke u_fd b_tp u_td u_fr u_to u_so u_wo u_fa u_bd u_nc b_nl u_co b_op b_ar u_le b_pi b_pa u_pd u_od b_ws b_hw k53_la b_se b_re k53_bk k53_va k53_su k53_ce k53_ho k53_wy k53_bt k53_ps b_pt k53_tg k53_sn b_ip u_ic b_ah b_be b_me k53_wd b_tr b_ld u_st b_wn u_id)), (b_ro, (arI G 5740 v_ro)), (b_se, (arJ G 13 k53_se)), (b_re, (arJ G 400 k53_re)), (b_pt, (arI G 200 k53_pt))]) hP hD hS hA [0, 1, 2, 3, 4] (by decide +kernel) rfl
        refine va_callv (va_runV (As := [.int p_2, .int p_3, .int p_4, .int 0]) (rest := []) ⟨hx, hb, hml, hown, hts⟩ (n_go l G b_o b_ro b_se b_re b_pt b_rf b_im b_ke b_tp b_nl b_op b_ar b_pi b_pa b_ws b_hw b_ip b_ah b_be b_me b_tr b_ld b_wn H.size u_th u_sa u_fd u_td u_fr u_to u_so u_fa u_bd u_nc u_co u_le u_pd u_od k53_la k53_bk k53_ce k53_ho k53_wy k53_bt k53_ps k53_tg k53_sn u_ic k53_wd u_id p_2 p_3 p_4 0 u_wo k53_va k53_su u_st v_ro k53_se k53_re k53_pt h_u_td h_u_fr h_u_to h_u_bd h_u_nc h_u_co h_u_pd i_7 i_8 i_9 i_10 i_11 i_12 i_13 h_u_ic h_u_id h_p_2 ⟨by omega, by omega⟩ h_p_4 (r_ro) (i_14)) (cwV 4 hts gV_X12_401 rfl rfl rfl hv_X12_go ⟨Nat.le_of_ble_eq_true rfl, Nat.le_of_ble_eq_true rfl⟩) (g5_preV hPc hK hDc hN hT hS hFc (ci := 12) (q0 := 0) rfl rfl) rfl rfl hl.1 rfl (lv_room (Nat.le_of_ble_eq_true rfl)) dX12_findMeets_234 ⟨Nat.le_of_ble_eq_true rfl, Nat.le_of_ble_eq_true rfl⟩) hS (fun q _ h => hFc q h) hFc (fun u t H locs ht hvm hw hB hz1 hk1 hS => ?_)
        obtain ⟨hP1, hD1⟩ := hB
        have hP1 := g5_ht ht hP1
        obtain ⟨z29, z30, z31, z32, z33, z34, z35, z36, z37, z38, z39, z40, z41, z42, (i_21 : 0 ≤ z29.toInt ∧ z29.toInt ≤ 4840), (i_22 : 0 ≤ z30.toInt ∧ z30.toInt ≤ 1), (i_23 : 0 ≤ z33.toInt ∧ z33.toInt ≤ 63), (i_24 : 0 ≤ z34.toInt ∧ z34.toInt ≤ 23), (i_25 : 0 ≤ z35.toInt ∧ z35.toInt ≤ 3), (i_26 : 0 ≤ z36.toInt ∧ z36.toInt ≤ 1000000), (i_27 : 0 ≤ z37.toInt ∧ z37.toInt ≤ 200), (i_28 : PTI z42), rfl⟩ := hw
        have hJ9 := va_join (wr := [(b_me, (arI G 1536 k53_me))]) hP hD [0, 1, 2, 3, 4] [5] rfl rfl (by decide +kernel) (by decide +kernel) hk1 hFc hP1 hD1
        clear hP hD hPc hDc hFc ht hvm hz1 hk1 hP1 hD1
        obtain ⟨hP, hD⟩ := hJ9
        refine g5_rs [(b_me, (arI G 1536 k53_me)), (b_o, (oc12 u_th u_sa b_rf b_ro b_im b_ke u_fd b_tp u_td u_fr u_to u_so u_wo u_fa u_bd u_nc b_nl u_co b_op b_ar u_le b_pi b_pa u_pd u_od b_ws b_hw z29 b_se b_re z30 z31 z32 z33 z34 z35 z36 z37 b_pt z38 z39 b_ip u_ic b_ah b_be b_me k53_wd b_tr b_ld u_st b_wn u_id)), (b_ro, (arI G 5740 v_ro)), (b_se, (arJ G 13 z40)), (b_re, (arJ G 400 z41)), (b_pt, (arI G 200 z42))] hP hD ?_
        clear hP hD
        intro hP hD
        refine lv_iconst (v := 0) hx hb dX12_findMeets_237 (by decide +kernel) ?_
        refine lv_istore (lv' := [(6, .int 0), (5, .int k53_5), (0, .ref b_o), (1, .int p_1), (2, .int p_2), (3, .int p_3), (4, .int p_4)]) hx hb dX12_findMeets_238 hl (by decide +kernel) rfl ?_
        clear hl
        intro ls hl
        refine g5_loop (α := (Int32) × (Nat → Int32)) (fun (q : (Int32) × (Nat → Int32)) (ls : Array Slot) (H : Heap) (locs : List Loc) => match q with | (k240_6, k240_me) => lv_has ls 10 [(6, .int k240_6), (5, .int k53_5), (0, .ref b_o), (1, .int p_1), (2, .int p_2), (3, .int p_3), (4, .int p_4)] ∧ va_P G.1 vwCl [(b_me, (arI G 1536 k240_me)), (b_o, (oc12 u_th u_sa b_rf b_ro b_im b_ke u_fd b_tp u_td u_fr u_to u_so u_wo u_fa u_bd u_nc b_nl u_co b_op b_ar u_le b_pi b_pa u_pd u_od b_ws b_hw z29 b_se b_re z30 z31 z32 z33 z34 z35 z36 z37 b_pt z38 z39 b_ip u_ic b_ah b_be b_me k53_wd b_tr b_ld u_st b_wn u_id)), (b_ro, (arI G 5740 v_ro)), (b_se, (arJ G 13 z40)), (b_re, (arJ G 400 z41)), (b_pt, (arI G 200 z42))] H ∧ va_D A [(b_me, (arI G 1536 k240_me)), (b_o, (oc12 u_th u_sa b_rf b_ro b_im b_ke u_fd b_tp u_td u_fr u_to u_so u_wo u_fa u_bd u_nc b_nl u_co b_op b_ar u_le b_pi b_pa u_pd u_od b_ws b_hw z29 b_se b_re z30 z31 z32 z33 z34 z35 z36 z37 b_pt z38 z39 b_ip u_ic b_ah b_be b_me k53_wd b_tr b_ld u_st b_wn u_id)), (b_ro, (arI G 5740 v_ro)), (b_se, (arJ G 13 z40)), (b_re, (arJ G 400 z41)), (b_pt, (arI G 200 z42))] ∧ va_S A s.heap H locs ∧ (0 ≤ k240_6.toInt ∧ k240_6.toInt ≤ 200) ∧ (MEI k240_me)) (fun (q : (Int32) × (Nat → Int32)) => match q with | (k240_6, k240_me) => Int.toNat (200 - k240_6.toInt)) (0, k53_me) ⟨lv_sub hl [0, 1, 2, 3, 4, 5, 6] rfl, hP, hD, hS, ⟨by decide, by decide⟩, i_15⟩ ?_
        rintro ⟨k240_6, k240_me⟩ ls H locs ⟨hl, hP, hD, hS, (i_43 : 0 ≤ k240_6.toInt ∧ k240_6.toInt ≤ 200), (i_44 : MEI k240_me)⟩ ih_240_45
        replace hl : lv_has ls 10 [(6, .int k240_6), (5, .int k53_5), (0, .ref b_o), (1, .int p_1), (2, .int p_2), (3, .int p_3), (4, .int p_4)] := hl
        refine g5_rs [(b_me, (arI G 1536 k240_me)), (b_o, (oc12 u_th u_sa b_rf b_ro b_im b_ke u_fd b_tp u_td u_fr u_to u_so u_wo u_fa u_bd u_nc b_nl u_co b_op b_ar u_le b_pi b_pa u_pd u_od b_ws b_hw z29 b_se b_re z30 z31 z32 z33 z34 z35 z36 z37 b_pt z38 z39 b_ip u_ic b_ah b_be b_me k53_wd b_tr b_ld u_st b_wn u_id)), (b_ro, (arI G 5740 v_ro)), (b_se, (arJ G 13 z40)), (b_re, (arJ G 400 z41)), (b_pt, (arI G 200 z42))] hP hD ?_
        clear hP hD
        intro hP hD
        refine lv_iload hx hb dX12_findMeets_240 (lv_at hl 0 rfl) ?_
        refine lv_aload_n hx hb dX12_findMeets_242 rfl (lv_at hl 2 rfl) ?_
        refine va_get (D := G.1) (ci := 12) (v := .int z37) (C := RX12) (T := TX12) (N := 52) hx hb hts inG_X12 hown hK hP 1 rfl rfl 37 (by decide +kernel) (hts _ fl_X12_358) (fun _ h9 => h9) rfl dX12_findMeets_243 ?_
        refine lv_icmp_ge (tgt := 272) hx hb dX12_findMeets_246 (by decide +kernel) (fun c_46 => ?_) (fun c_46 => ?_)
        ·
          have i_46 : k240_6.toInt ≥ z37.toInt := g5_ge (a := k240_6.toInt) (b := z37.toInt) rfl rfl c_46
          exact W.vret hx hb hr (fun t ht hW => ⟨⟨[(b_o, (oc12 u_th u_sa b_rf b_ro b_im b_ke u_fd b_tp u_td u_fr u_to u_so u_wo u_fa u_bd u_nc b_nl u_co b_op b_ar u_le b_pi b_pa u_pd u_od b_ws b_hw z29 b_se b_re z30 z31 z32 z33 z34 z35 z36 z37 b_pt z38 z39 b_ip u_ic b_ah b_be b_me k53_wd b_tr b_ld u_st b_wn u_id)), (b_ro, (arI G 5740 v_ro)), (b_se, (arJ G 13 z40)), (b_re, (arJ G 400 z41)), (b_pt, (arI G 200 z42)), (b_me, (arI G 1536 k240_me))], rfl, ⟨z29, z30, z31, z32, z33, z34, z35, z36, z37, z38, z39, k53_wd, z40, z41, z42, k240_me, i_21, i_22, i_23, i_24, i_25, i_26, i_27, i_28, i_44, rfl⟩, by rw [ht]; exact hP.sub [1, 2, 3, 4, 5, 0] rfl, hD.sub [1, 2, 3, 4, 5, 0] (by decide +kernel) rfl⟩, hS.F ht⟩) hS.2.2 dX12_findMeets_272
        ·
          have i_46 : k240_6.toInt < z37.toInt := g5_geN (a := k240_6.toInt) (b := z37.toInt) rfl rfl c_46
          refine lv_aload_n hx hb dX12_findMeets_249 rfl (lv_at hl 2 rfl) ?_
          refine va_get (D := G.1) (ci := 12) (v := .ref b_me) (C := RX12) (T := TX12) (N := 52) hx hb hts inG_X12 hown hK hP 1 rfl rfl 45 (by decide +kernel) (hts _ fl_X12_95) (fun _ h9 => h9) rfl dX12_findMeets_250 ?_
          refine lv_aload_n hx hb dX12_findMeets_253 rfl (lv_at hl 2 rfl) ?_
          refine va_get (D := G.1) (ci := 12) (v := .ref b_pt) (C := RX12) (T := TX12) (N := 52) hx hb hts inG_X12 hown hK hP 1 rfl rfl 38 (by decide +kernel) (hts _ fl_X12_82) (fun _ h9 => h9) rfl dX12_findMeets_254 ?_
          refine lv_iload hx hb dX12_findMeets_257 (lv_at hl 0 rfl) ?_
          refine va_iald hx hb hK hP 5 0 rfl rfl (i := k240_6) (vp_in_iff.mpr ⟨by omega, by omega⟩) dX12_findMeets_259 ?_
          have hr_47 : 0 ≤ (z42 k240_6.toNatClampNeg).toInt ∧ (z42 k240_6.toNatClampNeg).toInt ≤ 1535 := i_28 (k240_6.toNatClampNeg)
          refine lv_dup2_11 hx hb dX12_findMeets_260 rfl rfl ?_
          refine va_iald hx hb hK hP 0 0 rfl rfl (i := (z42 k240_6.toNatClampNeg)) (vp_in_iff.mpr ⟨by omega, by omega⟩) dX12_findMeets_261 ?_
          have hr_48 : 0 ≤ (k240_me (z42 k240_6.toNatClampNeg).toNatClampNeg).toInt ∧ ((k240_me (z42 k240_6.toNatClampNeg).toNatClampNeg).toInt < 32 ∨ 64 ≤ (k240_me (z42 k240_6.toNatClampNeg).toNatClampNeg).toInt) ∧ (k240_me (z42 k240_6.toNatClampNeg).toNatClampNeg).toInt ≤ 127 := i_44 ((z42 k240_6.toNatClampNeg).toNatClampNeg)
          refine lv_bipush (v := 64) hx hb dX12_findMeets_262 (by decide +kernel) ?_
          refine lv_ior hx hb dX12_findMeets_264 ?_
          refine va_iast hx hb hK hP hD hS 0 0 rfl rfl (i := (z42 k240_6.toNatClampNeg)) (x := ((k240_me (z42 k240_6.toNatClampNeg).toNatClampNeg) ||| 64)) (vp_in_iff.mpr ⟨by omega, by omega⟩) dX12_findMeets_265 ?_
          clear hP hD hS
          intro H locs hP hD hS
          refine g5_rs [(b_me, (arI G 1536 (upd k240_me (z42 k240_6.toNatClampNeg).toNatClampNeg ((k240_me (z42 k240_6.toNatClampNeg).toNatClampNeg) ||| 64)))), (b_o, (oc12 u_th u_sa b_rf b_ro b_im b_ke u_fd b_tp u_td u_fr u_to u_so u_wo u_fa u_bd u_nc b_nl u_co b_op b_ar u_le b_pi b_pa u_pd u_od b_ws b_hw z29 b_se b_re z30 z31 z32 z33 z34 z35 z36 z37 b_pt z38 z39 b_ip u_ic b_ah b_be b_me k53_wd b_tr b_ld u_st b_wn u_id)), (b_ro, (arI G 5740 v_ro)), (b_se, (arJ G 13 z40)), (b_re, (arJ G 400 z41)), (b_pt, (arI G 200 z42))] hP hD ?_
          clear hP hD
          intro hP hD
          refine lv_iinc (v := (k240_6 + 1)) (lv' := [(6, .int (k240_6 + 1)), (5, .int k53_5), (0, .ref b_o), (1, .int p_1), (2, .int p_2), (3, .int p_3), (4, .int p_4)]) hx hb dX12_findMeets_266 hl (k := 0) rfl rfl (by decide +kernel) rfl ?_
          clear hl
          intro ls hl
          have t_49 : (k240_6 + 1).toInt = k240_6.toInt + 1 := g5_iadd (a := k240_6.toInt) (b := 1) rfl (by decide +kernel) (by omega) (by omega)
          refine lv_goto (tgt := 240) hx hb dX12_findMeets_269 (by decide +kernel) ?_
          exact ih_240_45 ((k240_6 + 1), (upd k240_me (z42 k240_6.toNatClampNeg).toNatClampNeg ((k240_me (z42 k240_6.toNatClampNeg).toNatClampNeg) ||| 64))) ls H locs (show Int.toNat (200 - (k240_6 + 1).toInt) < Int.toNat (200 - k240_6.toInt) from g_up (show k240_6.toInt < (k240_6 + 1).toInt by omega) (show k240_6.toInt < 200 by omega)) ⟨lv_sub hl [0, 1, 2, 3, 4, 5, 6] rfl, hP, hD, hS, ⟨by omega, by omega⟩, me_upd i_44 (me_or64 (i_44 _))⟩
    ·
      have i_19 : k53_6.toInt < (v_ro 5).toInt := g5_geN (a := k53_6.toInt) (b := (v_ro 5).toInt) rfl rfl c_19
      refine lv_sipush (v := 230) hx hb dX12_findMeets_64 (by decide +kernel) ?_
      refine lv_iconst (v := 4) hx hb dX12_findMeets_67 (by decide +kernel) ?_
      refine lv_iload hx hb dX12_findMeets_68 (lv_at hl 1 rfl) ?_
      refine lv_imul hx hb dX12_findMeets_70 ?_
      have t_50 : (4 * k53_6).toInt = 4 * k53_6.toInt := g5_imul (a := 4) (b := k53_6.toInt) (by decide +kernel) (by rfl) (by omega) (by omega)
      refine lv_iadd hx hb dX12_findMeets_71 ?_
      have t_51 : (230 + (4 * k53_6)).toInt = 230 + (4 * k53_6).toInt := g5_iadd (a := 230) (b := (4 * k53_6).toInt) (by decide +kernel) (by rfl) (by omega) (by omega)
      refine lv_istore (lv' := [(7, .int (230 + (4 * k53_6))), (5, .int k53_5), (6, .int k53_6), (0, .ref b_o), (1, .int p_1), (2, .int p_2), (3, .int p_3), (4, .int p_4)]) hx hb dX12_findMeets_72 hl (by decide +kernel) rfl ?_
      clear hl
      intro ls hl
      refine lv_iload_n hx hb dX12_findMeets_74 rfl (lv_at hl 4 rfl) ?_
      refine lv_iload hx hb dX12_findMeets_75 (lv_at hl 2 rfl) ?_
      obtain ⟨hPc, hDc, hFc⟩ := g5_sub3 (wc := []) hP hD hS hA [] (by decide +kernel) rfl
      refine va_calli (va_runS (As := [.int p_1, .int k53_6]) (rest := []) ⟨hx, hb, hml, hown, hts⟩ (n_is l G H.size p_1 k53_6) (va_cwS 2 hts gS_X12_387 rfl rfl rfl hs_X12_is ⟨Nat.le_of_ble_eq_true rfl, Nat.le_of_ble_eq_true rfl⟩) (g5_preS hPc hK hDc hN hT hS hFc) rfl rfl hl.1 rfl (lv_room (Nat.le_of_ble_eq_true rfl)) dX12_findMeets_77 ⟨Nat.le_of_ble_eq_true rfl, Nat.le_of_ble_eq_true rfl⟩) hS (fun q _ h => hFc q h) hFc (fun r u t H locs ht hvm hw hB hz1 hk1 hS => ?_)
      obtain ⟨hP1, hD1⟩ := hB
      have hP1 := g5_ht ht hP1
      obtain ⟨z53, (i_52 : 0 ≤ z53.toInt ∧ z53.toInt ≤ 1), y54, rfl⟩ := hw
      have hJ9 := g5_same hP hk1
      clear hP hPc hDc hFc ht hvm hz1 hk1 hP1 hD1
      have hP := hJ9
      clear hJ9
      refine g5_ti (v := z53) y54 ?_
      refine lv_if_eq (tgt := 217) hx hb dX12_findMeets_80 (by decide +kernel) (fun c_55 => ?_) (fun c_55 => ?_)
      ·
        have i_55 : z53.toInt = 0 := g5_eq (a := z53.toInt) (b := 0) rfl (by decide +kernel) c_55
        refine lv_iinc (v := (k53_6 + 1)) (lv' := [(6, .int (k53_6 + 1)), (7, .int (230 + (4 * k53_6))), (5, .int k53_5), (0, .ref b_o), (1, .int p_1), (2, .int p_2), (3, .int p_3), (4, .int p_4)]) hx hb dX12_findMeets_217 hl (k := 2) rfl rfl (by decide +kernel) rfl ?_
        clear hl
        intro ls hl
        have t_56 : (k53_6 + 1).toInt = k53_6.toInt + 1 := g5_iadd (a := k53_6.toInt) (b := 1) rfl (by decide +kernel) (by omega) (by omega)
        refine lv_goto (tgt := 53) hx hb dX12_findMeets_220 (by decide +kernel) ?_
        exact ih_53_17 ((k53_6 + 1), k53_5, k53_la, k53_bk, k53_va, k53_su, k53_ce, k53_ho, k53_wy, k53_bt, k53_ps, k53_tg, k53_sn, k53_wd, k53_se, k53_re, k53_pt, k53_me) ls H locs (show Int.toNat (10 - (k53_6 + 1).toInt) < Int.toNat (10 - k53_6.toInt) from g_up (show k53_6.toInt < (k53_6 + 1).toInt by omega) (show k53_6.toInt < 10 by omega)) ⟨lv_sub hl [2, 0, 3, 4, 5, 6, 7] rfl, hP, hD, hS, ⟨by omega, by omega⟩, i_6, i_7, i_8, i_9, i_10, i_11, i_12, i_13, i_14, i_15, mn_stay r_ro i_16 (by omega) (by omega) (by omega)⟩
      ·
        have n_55 : gNe (z53.toInt) (0) := g5_eqN (a := z53.toInt) (b := 0) rfl (by decide +kernel) c_55
        have i_55 : z53.toInt ≥ 1 := by have z := g5_eqN (a := z53.toInt) (b := 0) (by rfl) (by decide +kernel) c_55; omega
        refine lv_aload_n hx hb dX12_findMeets_83 rfl (lv_at hl 3 rfl) ?_
        refine va_get (D := G.1) (ci := 12) (v := .ref b_ro) (C := RX12) (T := TX12) (N := 52) hx hb hts inG_X12 hown hK hP 0 rfl rfl 3 (by decide +kernel) (hts _ fl_X12_13) (fun _ h9 => h9) rfl dX12_findMeets_84 ?_
        refine lv_iload hx hb dX12_findMeets_87 (lv_at hl 0 rfl) ?_
        refine lv_iconst (v := 3) hx hb dX12_findMeets_89 (by decide +kernel) ?_
        refine lv_iadd hx hb dX12_findMeets_90 ?_
        have t_57 : ((230 + (4 * k53_6)) + 3).toInt = (230 + (4 * k53_6)).toInt + 3 := g5_iadd (a := (230 + (4 * k53_6)).toInt) (b := 3) (by rfl) (by decide +kernel) (by omega) (by omega)
        refine va_iald hx hb hK hP 1 0 rfl rfl (i := ((230 + (4 * k53_6)) + 3)) (vp_in_iff.mpr ⟨by omega, by omega⟩) dX12_findMeets_91 ?_
        refine lv_iconst (v := 1) hx hb dX12_findMeets_92 (by decide +kernel) ?_
        refine lv_icmp_ne (tgt := 100) hx hb dX12_findMeets_93 (by decide +kernel) (fun c_58 => ?_) (fun c_58 => ?_)
        ·
          have n_58 : gNe ((v_ro ((230 + (4 * k53_6)) + 3).toNatClampNeg).toInt) (1) := g5_ne (a := (v_ro ((230 + (4 * k53_6)) + 3).toNatClampNeg).toInt) (b := 1) rfl (by decide +kernel) c_58
          refine lv_iconst (v := 0) hx hb dX12_findMeets_100 (by decide +kernel) ?_
          refine lv_istore (lv' := [(8, .int 0), (7, .int (230 + (4 * k53_6))), (5, .int k53_5), (6, .int k53_6), (0, .ref b_o), (1, .int p_1), (2, .int p_2), (3, .int p_3), (4, .int p_4)]) hx hb dX12_findMeets_101 hl (by decide +kernel) rfl ?_
          clear hl
          intro ls hl
          refine lv_aload_n hx hb dX12_findMeets_103 rfl (lv_at hl 4 rfl) ?_
          refine lv_aload_n hx hb dX12_findMeets_104 rfl (lv_at hl 4 rfl) ?_
          refine va_get (D := G.1) (ci := 12) (v := .ref b_ro) (C := RX12) (T := TX12) (N := 52) hx hb hts inG_X12 hown hK hP 0 rfl rfl 3 (by decide +kernel) (hts _ fl_X12_13) (fun _ h9 => h9) rfl dX12_findMeets_105 ?_
          refine lv_iload hx hb dX12_findMeets_108 (lv_at hl 1 rfl) ?_
          refine va_iald hx hb hK hP 1 0 rfl rfl (i := (230 + (4 * k53_6))) (vp_in_iff.mpr ⟨by omega, by omega⟩) dX12_findMeets_110 ?_
          have hv_59 : 0 ≤ (v_ro (230 + (4 * k53_6)).toNatClampNeg).toInt ∧ (v_ro (230 + (4 * k53_6)).toNatClampNeg).toInt ≤ 63 := mi_230_0 r_ro (by have zz := g5_clamp (230 + (4 * k53_6)); omega) (by have zz := g5_clamp (230 + (4 * k53_6)); omega) (by have zz := g5_clamp (230 + (4 * k53_6)); omega)
          refine lv_aload_n hx hb dX12_findMeets_111 rfl (lv_at hl 4 rfl) ?_
          refine va_get (D := G.1) (ci := 12) (v := .ref b_ro) (C := RX12) (T := TX12) (N := 52) hx hb hts inG_X12 hown hK hP 0 rfl rfl 3 (by decide +kernel) (hts _ fl_X12_13) (fun _ h9 => h9) rfl dX12_findMeets_112 ?_
          refine lv_iload hx hb dX12_findMeets_115 (lv_at hl 1 rfl) ?_
          refine lv_iconst (v := 1) hx hb dX12_findMeets_117 (by decide +kernel) ?_
          refine lv_iadd hx hb dX12_findMeets_118 ?_
          have t_60 : ((230 + (4 * k53_6)) + 1).toInt = (230 + (4 * k53_6)).toInt + 1 := g5_iadd (a := (230 + (4 * k53_6)).toInt) (b := 1) (by rfl) (by decide +kernel) (by omega) (by omega)
          refine va_iald hx hb hK hP 1 0 rfl rfl (i := ((230 + (4 * k53_6)) + 1)) (vp_in_iff.mpr ⟨by omega, by omega⟩) dX12_findMeets_119 ?_
          have hv_61 : 0 ≤ (v_ro ((230 + (4 * k53_6)) + 1).toNatClampNeg).toInt ∧ (v_ro ((230 + (4 * k53_6)) + 1).toNatClampNeg).toInt ≤ 3 := mi_230_1 r_ro (by have zz := g5_clamp ((230 + (4 * k53_6)) + 1); omega) (by have zz := g5_clamp ((230 + (4 * k53_6)) + 1); omega) (by have zz := g5_clamp ((230 + (4 * k53_6)) + 1); omega)
          refine lv_aload_n hx hb dX12_findMeets_120 rfl (lv_at hl 4 rfl) ?_
          refine va_get (D := G.1) (ci := 12) (v := .ref b_ro) (C := RX12) (T := TX12) (N := 52) hx hb hts inG_X12 hown hK hP 0 rfl rfl 3 (by decide +kernel) (hts _ fl_X12_13) (fun _ h9 => h9) rfl dX12_findMeets_121 ?_
          refine lv_iload hx hb dX12_findMeets_124 (lv_at hl 1 rfl) ?_
          refine lv_iconst (v := 2) hx hb dX12_findMeets_126 (by decide +kernel) ?_
          refine lv_iadd hx hb dX12_findMeets_127 ?_
          have t_62 : ((230 + (4 * k53_6)) + 2).toInt = (230 + (4 * k53_6)).toInt + 2 := g5_iadd (a := (230 + (4 * k53_6)).toInt) (b := 2) (by rfl) (by decide +kernel) (by omega) (by omega)
          refine va_iald hx hb hK hP 1 0 rfl rfl (i := ((230 + (4 * k53_6)) + 2)) (vp_in_iff.mpr ⟨by omega, by omega⟩) dX12_findMeets_128 ?_
          have hv_63 : 0 ≤ (v_ro ((230 + (4 * k53_6)) + 2).toNatClampNeg).toInt ∧ (v_ro ((230 + (4 * k53_6)) + 2).toNatClampNeg).toInt ≤ 23 := mi_230_2 r_ro (by have zz := g5_clamp ((230 + (4 * k53_6)) + 2); omega) (by have zz := g5_clamp ((230 + (4 * k53_6)) + 2); omega) (by have zz := g5_clamp ((230 + (4 * k53_6)) + 2); omega)
          refine lv_iconst (v := 0) hx hb dX12_findMeets_129 (by decide +kernel) ?_
          obtain ⟨hPc, hDc, hFc⟩ := g5_sub3 (wc := [(b_o, (oc12 u_th u_sa b_rf b_ro b_im b_ke u_fd b_tp u_td u_fr u_to u_so u_wo u_fa u_bd u_nc b_nl u_co b_op b_ar u_le b_pi b_pa u_pd u_od b_ws b_hw k53_la b_se b_re k53_bk k53_va k53_su k53_ce k53_ho k53_wy k53_bt k53_ps b_pt k53_tg k53_sn b_ip u_ic b_ah b_be b_me k53_wd b_tr b_ld u_st b_wn u_id)), (b_ro, (arI G 5740 v_ro)), (b_se, (arJ G 13 k53_se)), (b_re, (arJ G 400 k53_re)), (b_pt, (arI G 200 k53_pt))]) hP hD hS hA [0, 1, 2, 3, 4] (by decide +kernel) rfl
          refine va_callv (va_runV (As := [.int (v_ro (230 + (4 * k53_6)).toNatClampNeg), .int (v_ro ((230 + (4 * k53_6)) + 1).toNatClampNeg), .int (v_ro ((230 + (4 * k53_6)) + 2).toNatClampNeg), .int 0]) (rest := []) ⟨hx, hb, hml, hown, hts⟩ (n_go l G b_o b_ro b_se b_re b_pt b_rf b_im b_ke b_tp b_nl b_op b_ar b_pi b_pa b_ws b_hw b_ip b_ah b_be b_me b_tr b_ld b_wn H.size u_th u_sa u_fd u_td u_fr u_to u_so u_fa u_bd u_nc u_co u_le u_pd u_od k53_la k53_bk k53_ce k53_ho k53_wy k53_bt k53_ps k53_tg k53_sn u_ic k53_wd u_id (v_ro (230 + (4 * k53_6)).toNatClampNeg) (v_ro ((230 + (4 * k53_6)) + 1).toNatClampNeg) (v_ro ((230 + (4 * k53_6)) + 2).toNatClampNeg) 0 u_wo k53_va k53_su u_st v_ro k53_se k53_re k53_pt h_u_td h_u_fr h_u_to h_u_bd h_u_nc h_u_co h_u_pd i_7 i_8 i_9 i_10 i_11 i_12 i_13 h_u_ic h_u_id ⟨by omega, by omega⟩ ⟨by omega, by omega⟩ ⟨by omega, by omega⟩ (r_ro) (i_14)) (cwV 4 hts gV_X12_401 rfl rfl rfl hv_X12_go ⟨Nat.le_of_ble_eq_true rfl, Nat.le_of_ble_eq_true rfl⟩) (g5_preV hPc hK hDc hN hT hS hFc (ci := 12) (q0 := 0) rfl rfl) rfl rfl hl.1 rfl (lv_room (Nat.le_of_ble_eq_true rfl)) dX12_findMeets_130 ⟨Nat.le_of_ble_eq_true rfl, Nat.le_of_ble_eq_true rfl⟩) hS (fun q _ h => hFc q h) hFc (fun u t H locs ht hvm hw hB hz1 hk1 hS => ?_)
          obtain ⟨hP1, hD1⟩ := hB
          have hP1 := g5_ht ht hP1
          obtain ⟨z72, z73, z74, z75, z76, z77, z78, z79, z80, z81, z82, z83, z84, z85, (i_64 : 0 ≤ z72.toInt ∧ z72.toInt ≤ 4840), (i_65 : 0 ≤ z73.toInt ∧ z73.toInt ≤ 1), (i_66 : 0 ≤ z76.toInt ∧ z76.toInt ≤ 63), (i_67 : 0 ≤ z77.toInt ∧ z77.toInt ≤ 23), (i_68 : 0 ≤ z78.toInt ∧ z78.toInt ≤ 3), (i_69 : 0 ≤ z79.toInt ∧ z79.toInt ≤ 1000000), (i_70 : 0 ≤ z80.toInt ∧ z80.toInt ≤ 200), (i_71 : PTI z85), rfl⟩ := hw
          have hJ9 := va_join (wr := [(b_me, (arI G 1536 k53_me))]) hP hD [0, 1, 2, 3, 4] [5] rfl rfl (by decide +kernel) (by decide +kernel) hk1 hFc hP1 hD1
          clear hP hD hPc hDc hFc ht hvm hz1 hk1 hP1 hD1
          obtain ⟨hP, hD⟩ := hJ9
          refine g5_rs [(b_me, (arI G 1536 k53_me)), (b_o, (oc12 u_th u_sa b_rf b_ro b_im b_ke u_fd b_tp u_td u_fr u_to u_so u_wo u_fa u_bd u_nc b_nl u_co b_op b_ar u_le b_pi b_pa u_pd u_od b_ws b_hw z72 b_se b_re z73 z74 z75 z76 z77 z78 z79 z80 b_pt z81 z82 b_ip u_ic b_ah b_be b_me k53_wd b_tr b_ld u_st b_wn u_id)), (b_ro, (arI G 5740 v_ro)), (b_se, (arJ G 13 z83)), (b_re, (arJ G 400 z84)), (b_pt, (arI G 200 z85))] hP hD ?_
          clear hP hD
          intro hP hD
          refine lv_iconst (v := 0) hx hb dX12_findMeets_133 (by decide +kernel) ?_
          refine lv_istore (lv' := [(9, .int 0), (8, .int 0), (7, .int (230 + (4 * k53_6))), (5, .int k53_5), (6, .int k53_6), (0, .ref b_o), (1, .int p_1), (2, .int p_2), (3, .int p_3), (4, .int p_4)]) hx hb dX12_findMeets_134 hl (by decide +kernel) rfl ?_
          clear hl
          intro ls hl
          refine g5_loop (α := (Int32) × (Nat → Int32)) (fun (q : (Int32) × (Nat → Int32)) (ls : Array Slot) (H : Heap) (locs : List Loc) => match q with | (k136_9, k136_me) => lv_has ls 10 [(9, .int k136_9), (8, .int 0), (7, .int (230 + (4 * k53_6))), (5, .int k53_5), (6, .int k53_6), (0, .ref b_o), (1, .int p_1), (2, .int p_2), (3, .int p_3), (4, .int p_4)] ∧ va_P G.1 vwCl [(b_me, (arI G 1536 k136_me)), (b_o, (oc12 u_th u_sa b_rf b_ro b_im b_ke u_fd b_tp u_td u_fr u_to u_so u_wo u_fa u_bd u_nc b_nl u_co b_op b_ar u_le b_pi b_pa u_pd u_od b_ws b_hw z72 b_se b_re z73 z74 z75 z76 z77 z78 z79 z80 b_pt z81 z82 b_ip u_ic b_ah b_be b_me k53_wd b_tr b_ld u_st b_wn u_id)), (b_ro, (arI G 5740 v_ro)), (b_se, (arJ G 13 z83)), (b_re, (arJ G 400 z84)), (b_pt, (arI G 200 z85))] H ∧ va_D A [(b_me, (arI G 1536 k136_me)), (b_o, (oc12 u_th u_sa b_rf b_ro b_im b_ke u_fd b_tp u_td u_fr u_to u_so u_wo u_fa u_bd u_nc b_nl u_co b_op b_ar u_le b_pi b_pa u_pd u_od b_ws b_hw z72 b_se b_re z73 z74 z75 z76 z77 z78 z79 z80 b_pt z81 z82 b_ip u_ic b_ah b_be b_me k53_wd b_tr b_ld u_st b_wn u_id)), (b_ro, (arI G 5740 v_ro)), (b_se, (arJ G 13 z83)), (b_re, (arJ G 400 z84)), (b_pt, (arI G 200 z85))] ∧ va_S A s.heap H locs ∧ (0 ≤ k136_9.toInt ∧ k136_9.toInt ≤ 200) ∧ (MEI k136_me)) (fun (q : (Int32) × (Nat → Int32)) => match q with | (k136_9, k136_me) => Int.toNat (200 - k136_9.toInt)) (0, k53_me) ⟨lv_sub hl [0, 1, 2, 3, 4, 5, 6, 7, 8, 9] rfl, hP, hD, hS, ⟨by decide, by decide⟩, i_15⟩ ?_
          rintro ⟨k136_9, k136_me⟩ ls H locs ⟨hl, hP, hD, hS, (i_86 : 0 ≤ k136_9.toInt ∧ k136_9.toInt ≤ 200), (i_87 : MEI k136_me)⟩ ih_136_88
          replace hl : lv_has ls 10 [(9, .int k136_9), (8, .int 0), (7, .int (230 + (4 * k53_6))), (5, .int k53_5), (6, .int k53_6), (0, .ref b_o), (1, .int p_1), (2, .int p_2), (3, .int p_3), (4, .int p_4)] := hl
          refine g5_rs [(b_me, (arI G 1536 k136_me)), (b_o, (oc12 u_th u_sa b_rf b_ro b_im b_ke u_fd b_tp u_td u_fr u_to u_so u_wo u_fa u_bd u_nc b_nl u_co b_op b_ar u_le b_pi b_pa u_pd u_od b_ws b_hw z72 b_se b_re z73 z74 z75 z76 z77 z78 z79 z80 b_pt z81 z82 b_ip u_ic b_ah b_be b_me k53_wd b_tr b_ld u_st b_wn u_id)), (b_ro, (arI G 5740 v_ro)), (b_se, (arJ G 13 z83)), (b_re, (arJ G 400 z84)), (b_pt, (arI G 200 z85))] hP hD ?_
          clear hP hD
          intro hP hD
          refine lv_iload hx hb dX12_findMeets_136 (lv_at hl 0 rfl) ?_
          refine lv_aload_n hx hb dX12_findMeets_138 rfl (lv_at hl 5 rfl) ?_
          refine va_get (D := G.1) (ci := 12) (v := .int z80) (C := RX12) (T := TX12) (N := 52) hx hb hts inG_X12 hown hK hP 1 rfl rfl 37 (by decide +kernel) (hts _ fl_X12_358) (fun _ h9 => h9) rfl dX12_findMeets_139 ?_
          refine lv_icmp_ge (tgt := 180) hx hb dX12_findMeets_142 (by decide +kernel) (fun c_89 => ?_) (fun c_89 => ?_)
          ·
            have i_89 : k136_9.toInt ≥ z80.toInt := g5_ge (a := k136_9.toInt) (b := z80.toInt) rfl rfl c_89
            refine lv_aload_n hx hb dX12_findMeets_180 rfl (lv_at hl 5 rfl) ?_
            refine lv_dup hx hb dX12_findMeets_181 rfl ?_
            refine va_get (D := G.1) (ci := 12) (v := .int k53_wd) (C := RX12) (T := TX12) (N := 52) hx hb hts inG_X12 hown hK hP 1 rfl rfl 46 (by decide +kernel) (hts _ fl_X12_422) (fun _ h9 => h9) rfl dX12_findMeets_182 ?_
            refine lv_iload hx hb dX12_findMeets_185 (lv_at hl 1 rfl) ?_
            refine lv_if_eq (tgt := 197) hx hb dX12_findMeets_187 (by decide +kernel) (fun c_90 => ?_) (fun c_90 => ?_)
            ·
              refine lv_iconst (v := 0) hx hb dX12_findMeets_197 (by decide +kernel) ?_
              refine lv_ior hx hb dX12_findMeets_198 ?_
              refine g5_ti (v := k53_wd) (by simp) ?_
              refine va_put (D := G.1) (ci := 12) (v := .int k53_wd) (ty := .int) (C := RX12) (T := TX12) (N := 52) hx hb hts inG_X12 tyX12 tyX12_ok nmX12 hown hK hP hD hS 1 rfl rfl 46 (by decide +kernel) (hts _ fl_X12_422) (fun _ h9 => h9) rfl (by decide +kernel) rfl rfl (Nat.le_of_ble_eq_true rfl) dX12_findMeets_199 ?_
              clear hP hD hS
              intro H locs hP hD hS
              refine g5_rs [(b_me, (arI G 1536 k136_me)), (b_o, (oc12 u_th u_sa b_rf b_ro b_im b_ke u_fd b_tp u_td u_fr u_to u_so u_wo u_fa u_bd u_nc b_nl u_co b_op b_ar u_le b_pi b_pa u_pd u_od b_ws b_hw z72 b_se b_re z73 z74 z75 z76 z77 z78 z79 z80 b_pt z81 z82 b_ip u_ic b_ah b_be b_me k53_wd b_tr b_ld u_st b_wn u_id)), (b_ro, (arI G 5740 v_ro)), (b_se, (arJ G 13 z83)), (b_re, (arJ G 400 z84)), (b_pt, (arI G 200 z85))] hP hD ?_
              clear hP hD
              intro hP hD
              refine lv_iload hx hb dX12_findMeets_202 (lv_at hl 3 rfl) ?_
              refine lv_iload hx hb dX12_findMeets_204 (lv_at hl 1 rfl) ?_
              refine lv_if_eq (tgt := 213) hx hb dX12_findMeets_206 (by decide +kernel) (fun c_91 => ?_) (fun c_91 => ?_)
              ·
                refine lv_iconst (v := 0) hx hb dX12_findMeets_213 (by decide +kernel) ?_
                refine lv_iadd hx hb dX12_findMeets_214 ?_
                refine g5_ti (v := k53_5) (by simp) ?_
                refine lv_istore (lv' := [(5, .int k53_5), (9, .int k136_9), (8, .int 0), (7, .int (230 + (4 * k53_6))), (6, .int k53_6), (0, .ref b_o), (1, .int p_1), (2, .int p_2), (3, .int p_3), (4, .int p_4)]) hx hb dX12_findMeets_215 hl (by decide +kernel) rfl ?_
                clear hl
                intro ls hl
                refine lv_iinc (v := (k53_6 + 1)) (lv' := [(6, .int (k53_6 + 1)), (5, .int k53_5), (9, .int k136_9), (8, .int 0), (7, .int (230 + (4 * k53_6))), (0, .ref b_o), (1, .int p_1), (2, .int p_2), (3, .int p_3), (4, .int p_4)]) hx hb dX12_findMeets_217 hl (k := 4) rfl rfl (by decide +kernel) rfl ?_
                clear hl
                intro ls hl
                have t_92 : (k53_6 + 1).toInt = k53_6.toInt + 1 := g5_iadd (a := k53_6.toInt) (b := 1) rfl (by decide +kernel) (by omega) (by omega)
                refine lv_goto (tgt := 53) hx hb dX12_findMeets_220 (by decide +kernel) ?_
                exact ih_53_17 ((k53_6 + 1), k53_5, z72, z73, z74, z75, z76, z77, z78, z79, z80, z81, z82, k53_wd, z83, z84, z85, k136_me) ls H locs (show Int.toNat (10 - (k53_6 + 1).toInt) < Int.toNat (10 - k53_6.toInt) from g_up (show k53_6.toInt < (k53_6 + 1).toInt by omega) (show k53_6.toInt < 10 by omega)) ⟨lv_sub hl [1, 0, 5, 6, 7, 8, 9] rfl, hP.sub [1, 2, 3, 4, 5, 0] rfl, hD.sub [1, 2, 3, 4, 5, 0] (by decide +kernel) rfl, hS, ⟨by omega, by omega⟩, i_6, i_64, i_65, i_66, i_67, i_68, i_69, i_70, i_71, i_87, mn_stay r_ro i_16 (by omega) (by omega) (by omega)⟩
              ·
                exact absurd c_91 (by decide +kernel)
            ·
              exact absurd c_90 (by decide +kernel)
          ·
            have i_89 : k136_9.toInt < z80.toInt := g5_geN (a := k136_9.toInt) (b := z80.toInt) rfl rfl c_89
            refine lv_aload_n hx hb dX12_findMeets_145 rfl (lv_at hl 5 rfl) ?_
            refine va_get (D := G.1) (ci := 12) (v := .ref b_me) (C := RX12) (T := TX12) (N := 52) hx hb hts inG_X12 hown hK hP 1 rfl rfl 45 (by decide +kernel) (hts _ fl_X12_95) (fun _ h9 => h9) rfl dX12_findMeets_146 ?_
            refine lv_aload_n hx hb dX12_findMeets_149 rfl (lv_at hl 5 rfl) ?_
            refine va_get (D := G.1) (ci := 12) (v := .ref b_pt) (C := RX12) (T := TX12) (N := 52) hx hb hts inG_X12 hown hK hP 1 rfl rfl 38 (by decide +kernel) (hts _ fl_X12_82) (fun _ h9 => h9) rfl dX12_findMeets_150 ?_
            refine lv_iload hx hb dX12_findMeets_153 (lv_at hl 0 rfl) ?_
            refine va_iald hx hb hK hP 5 0 rfl rfl (i := k136_9) (vp_in_iff.mpr ⟨by omega, by omega⟩) dX12_findMeets_155 ?_
            have hr_93 : 0 ≤ (z85 k136_9.toNatClampNeg).toInt ∧ (z85 k136_9.toNatClampNeg).toInt ≤ 1535 := i_71 (k136_9.toNatClampNeg)
            refine lv_dup2_11 hx hb dX12_findMeets_156 rfl rfl ?_
            refine va_iald hx hb hK hP 0 0 rfl rfl (i := (z85 k136_9.toNatClampNeg)) (vp_in_iff.mpr ⟨by omega, by omega⟩) dX12_findMeets_157 ?_
            have hr_94 : 0 ≤ (k136_me (z85 k136_9.toNatClampNeg).toNatClampNeg).toInt ∧ ((k136_me (z85 k136_9.toNatClampNeg).toNatClampNeg).toInt < 32 ∨ 64 ≤ (k136_me (z85 k136_9.toNatClampNeg).toNatClampNeg).toInt) ∧ (k136_me (z85 k136_9.toNatClampNeg).toNatClampNeg).toInt ≤ 127 := i_87 ((z85 k136_9.toNatClampNeg).toNatClampNeg)
            refine lv_iload hx hb dX12_findMeets_158 (lv_at hl 1 rfl) ?_
            refine lv_if_eq (tgt := 170) hx hb dX12_findMeets_160 (by decide +kernel) (fun c_95 => ?_) (fun c_95 => ?_)
            ·
              refine lv_bipush (v := 64) hx hb dX12_findMeets_170 (by decide +kernel) ?_
              refine lv_ior hx hb dX12_findMeets_172 ?_
              refine va_iast hx hb hK hP hD hS 0 0 rfl rfl (i := (z85 k136_9.toNatClampNeg)) (x := ((k136_me (z85 k136_9.toNatClampNeg).toNatClampNeg) ||| 64)) (vp_in_iff.mpr ⟨by omega, by omega⟩) dX12_findMeets_173 ?_
              clear hP hD hS
              intro H locs hP hD hS
              refine g5_rs [(b_me, (arI G 1536 (upd k136_me (z85 k136_9.toNatClampNeg).toNatClampNeg ((k136_me (z85 k136_9.toNatClampNeg).toNatClampNeg) ||| 64)))), (b_o, (oc12 u_th u_sa b_rf b_ro b_im b_ke u_fd b_tp u_td u_fr u_to u_so u_wo u_fa u_bd u_nc b_nl u_co b_op b_ar u_le b_pi b_pa u_pd u_od b_ws b_hw z72 b_se b_re z73 z74 z75 z76 z77 z78 z79 z80 b_pt z81 z82 b_ip u_ic b_ah b_be b_me k53_wd b_tr b_ld u_st b_wn u_id)), (b_ro, (arI G 5740 v_ro)), (b_se, (arJ G 13 z83)), (b_re, (arJ G 400 z84)), (b_pt, (arI G 200 z85))] hP hD ?_
              clear hP hD
              intro hP hD
              refine lv_iinc (v := (k136_9 + 1)) (lv' := [(9, .int (k136_9 + 1)), (8, .int 0), (7, .int (230 + (4 * k53_6))), (5, .int k53_5), (6, .int k53_6), (0, .ref b_o), (1, .int p_1), (2, .int p_2), (3, .int p_3), (4, .int p_4)]) hx hb dX12_findMeets_174 hl (k := 0) rfl rfl (by decide +kernel) rfl ?_
              clear hl
              intro ls hl
              have t_96 : (k136_9 + 1).toInt = k136_9.toInt + 1 := g5_iadd (a := k136_9.toInt) (b := 1) rfl (by decide +kernel) (by omega) (by omega)
              refine lv_goto (tgt := 136) hx hb dX12_findMeets_177 (by decide +kernel) ?_
              exact ih_136_88 ((k136_9 + 1), (upd k136_me (z85 k136_9.toNatClampNeg).toNatClampNeg ((k136_me (z85 k136_9.toNatClampNeg).toNatClampNeg) ||| 64))) ls H locs (show Int.toNat (200 - (k136_9 + 1).toInt) < Int.toNat (200 - k136_9.toInt) from g_up (show k136_9.toInt < (k136_9 + 1).toInt by omega) (show k136_9.toInt < 200 by omega)) ⟨lv_sub hl [0, 1, 2, 3, 4, 5, 6, 7, 8, 9] rfl, hP, hD, hS, ⟨by omega, by omega⟩, me_upd i_87 (me_or64 (i_87 _))⟩
            ·
              exact absurd c_95 (by decide +kernel)
        ·
          have i_58 : (v_ro ((230 + (4 * k53_6)) + 3).toNatClampNeg).toInt = 1 := g5_neN (a := (v_ro ((230 + (4 * k53_6)) + 3).toNatClampNeg).toInt) (b := 1) rfl (by decide +kernel) c_58
          refine lv_iconst (v := 1) hx hb dX12_findMeets_96 (by decide +kernel) ?_
          refine lv_goto (tgt := 101) hx hb dX12_findMeets_97 (by decide +kernel) ?_
          refine lv_istore (lv' := [(8, .int 1), (7, .int (230 + (4 * k53_6))), (5, .int k53_5), (6, .int k53_6), (0, .ref b_o), (1, .int p_1), (2, .int p_2), (3, .int p_3), (4, .int p_4)]) hx hb dX12_findMeets_101 hl (by decide +kernel) rfl ?_
          clear hl
          intro ls hl
          refine lv_aload_n hx hb dX12_findMeets_103 rfl (lv_at hl 4 rfl) ?_
          refine lv_aload_n hx hb dX12_findMeets_104 rfl (lv_at hl 4 rfl) ?_
          refine va_get (D := G.1) (ci := 12) (v := .ref b_ro) (C := RX12) (T := TX12) (N := 52) hx hb hts inG_X12 hown hK hP 0 rfl rfl 3 (by decide +kernel) (hts _ fl_X12_13) (fun _ h9 => h9) rfl dX12_findMeets_105 ?_
          refine lv_iload hx hb dX12_findMeets_108 (lv_at hl 1 rfl) ?_
          refine va_iald hx hb hK hP 1 0 rfl rfl (i := (230 + (4 * k53_6))) (vp_in_iff.mpr ⟨by omega, by omega⟩) dX12_findMeets_110 ?_
          have hv_97 : 0 ≤ (v_ro (230 + (4 * k53_6)).toNatClampNeg).toInt ∧ (v_ro (230 + (4 * k53_6)).toNatClampNeg).toInt ≤ 63 := mi_230_0 r_ro (by have zz := g5_clamp (230 + (4 * k53_6)); omega) (by have zz := g5_clamp (230 + (4 * k53_6)); omega) (by have zz := g5_clamp (230 + (4 * k53_6)); omega)
          refine lv_aload_n hx hb dX12_findMeets_111 rfl (lv_at hl 4 rfl) ?_
          refine va_get (D := G.1) (ci := 12) (v := .ref b_ro) (C := RX12) (T := TX12) (N := 52) hx hb hts inG_X12 hown hK hP 0 rfl rfl 3 (by decide +kernel) (hts _ fl_X12_13) (fun _ h9 => h9) rfl dX12_findMeets_112 ?_
          refine lv_iload hx hb dX12_findMeets_115 (lv_at hl 1 rfl) ?_
          refine lv_iconst (v := 1) hx hb dX12_findMeets_117 (by decide +kernel) ?_
          refine lv_iadd hx hb dX12_findMeets_118 ?_
          have t_98 : ((230 + (4 * k53_6)) + 1).toInt = (230 + (4 * k53_6)).toInt + 1 := g5_iadd (a := (230 + (4 * k53_6)).toInt) (b := 1) (by rfl) (by decide +kernel) (by omega) (by omega)
          refine va_iald hx hb hK hP 1 0 rfl rfl (i := ((230 + (4 * k53_6)) + 1)) (vp_in_iff.mpr ⟨by omega, by omega⟩) dX12_findMeets_119 ?_
          have hv_99 : 0 ≤ (v_ro ((230 + (4 * k53_6)) + 1).toNatClampNeg).toInt ∧ (v_ro ((230 + (4 * k53_6)) + 1).toNatClampNeg).toInt ≤ 3 := mi_230_1 r_ro (by have zz := g5_clamp ((230 + (4 * k53_6)) + 1); omega) (by have zz := g5_clamp ((230 + (4 * k53_6)) + 1); omega) (by have zz := g5_clamp ((230 + (4 * k53_6)) + 1); omega)
          refine lv_aload_n hx hb dX12_findMeets_120 rfl (lv_at hl 4 rfl) ?_
          refine va_get (D := G.1) (ci := 12) (v := .ref b_ro) (C := RX12) (T := TX12) (N := 52) hx hb hts inG_X12 hown hK hP 0 rfl rfl 3 (by decide +kernel) (hts _ fl_X12_13) (fun _ h9 => h9) rfl dX12_findMeets_121 ?_
          refine lv_iload hx hb dX12_findMeets_124 (lv_at hl 1 rfl) ?_
          refine lv_iconst (v := 2) hx hb dX12_findMeets_126 (by decide +kernel) ?_
          refine lv_iadd hx hb dX12_findMeets_127 ?_
          have t_100 : ((230 + (4 * k53_6)) + 2).toInt = (230 + (4 * k53_6)).toInt + 2 := g5_iadd (a := (230 + (4 * k53_6)).toInt) (b := 2) (by rfl) (by decide +kernel) (by omega) (by omega)
          refine va_iald hx hb hK hP 1 0 rfl rfl (i := ((230 + (4 * k53_6)) + 2)) (vp_in_iff.mpr ⟨by omega, by omega⟩) dX12_findMeets_128 ?_
          have hv_101 : 0 ≤ (v_ro ((230 + (4 * k53_6)) + 2).toNatClampNeg).toInt ∧ (v_ro ((230 + (4 * k53_6)) + 2).toNatClampNeg).toInt ≤ 23 := mi_230_2 r_ro (by have zz := g5_clamp ((230 + (4 * k53_6)) + 2); omega) (by have zz := g5_clamp ((230 + (4 * k53_6)) + 2); omega) (by have zz := g5_clamp ((230 + (4 * k53_6)) + 2); omega)
          refine lv_iconst (v := 0) hx hb dX12_findMeets_129 (by decide +kernel) ?_
          obtain ⟨hPc, hDc, hFc⟩ := g5_sub3 (wc := [(b_o, (oc12 u_th u_sa b_rf b_ro b_im b_ke u_fd b_tp u_td u_fr u_to u_so u_wo u_fa u_bd u_nc b_nl u_co b_op b_ar u_le b_pi b_pa u_pd u_od b_ws b_hw k53_la b_se b_re k53_bk k53_va k53_su k53_ce k53_ho k53_wy k53_bt k53_ps b_pt k53_tg k53_sn b_ip u_ic b_ah b_be b_me k53_wd b_tr b_ld u_st b_wn u_id)), (b_ro, (arI G 5740 v_ro)), (b_se, (arJ G 13 k53_se)), (b_re, (arJ G 400 k53_re)), (b_pt, (arI G 200 k53_pt))]) hP hD hS hA [0, 1, 2, 3, 4] (by decide +kernel) rfl
          refine va_callv (va_runV (As := [.int (v_ro (230 + (4 * k53_6)).toNatClampNeg), .int (v_ro ((230 + (4 * k53_6)) + 1).toNatClampNeg), .int (v_ro ((230 + (4 * k53_6)) + 2).toNatClampNeg), .int 0]) (rest := []) ⟨hx, hb, hml, hown, hts⟩ (n_go l G b_o b_ro b_se b_re b_pt b_rf b_im b_ke b_tp b_nl b_op b_ar b_pi b_pa b_ws b_hw b_ip b_ah b_be b_me b_tr b_ld b_wn H.size u_th u_sa u_fd u_td u_fr u_to u_so u_fa u_bd u_nc u_co u_le u_pd u_od k53_la k53_bk k53_ce k53_ho k53_wy k53_bt k53_ps k53_tg k53_sn u_ic k53_wd u_id (v_ro (230 + (4 * k53_6)).toNatClampNeg) (v_ro ((230 + (4 * k53_6)) + 1).toNatClampNeg) (v_ro ((230 + (4 * k53_6)) + 2).toNatClampNeg) 0 u_wo k53_va k53_su u_st v_ro k53_se k53_re k53_pt h_u_td h_u_fr h_u_to h_u_bd h_u_nc h_u_co h_u_pd i_7 i_8 i_9 i_10 i_11 i_12 i_13 h_u_ic h_u_id ⟨by omega, by omega⟩ ⟨by omega, by omega⟩ ⟨by omega, by omega⟩ (r_ro) (i_14)) (cwV 4 hts gV_X12_401 rfl rfl rfl hv_X12_go ⟨Nat.le_of_ble_eq_true rfl, Nat.le_of_ble_eq_true rfl⟩) (g5_preV hPc hK hDc hN hT hS hFc (ci := 12) (q0 := 0) rfl rfl) rfl rfl hl.1 rfl (lv_room (Nat.le_of_ble_eq_true rfl)) dX12_findMeets_130 ⟨Nat.le_of_ble_eq_true rfl, Nat.le_of_ble_eq_true rfl⟩) hS (fun q _ h => hFc q h) hFc (fun u t H locs ht hvm hw hB hz1 hk1 hS => ?_)
          obtain ⟨hP1, hD1⟩ := hB
          have hP1 := g5_ht ht hP1
          obtain ⟨z110, z111, z112, z113, z114, z115, z116, z117, z118, z119, z120, z121, z122, z123, (i_102 : 0 ≤ z110.toInt ∧ z110.toInt ≤ 4840), (i_103 : 0 ≤ z111.toInt ∧ z111.toInt ≤ 1), (i_104 : 0 ≤ z114.toInt ∧ z114.toInt ≤ 63), (i_105 : 0 ≤ z115.toInt ∧ z115.toInt ≤ 23), (i_106 : 0 ≤ z116.toInt ∧ z116.toInt ≤ 3), (i_107 : 0 ≤ z117.toInt ∧ z117.toInt ≤ 1000000), (i_108 : 0 ≤ z118.toInt ∧ z118.toInt ≤ 200), (i_109 : PTI z123), rfl⟩ := hw
          have hJ9 := va_join (wr := [(b_me, (arI G 1536 k53_me))]) hP hD [0, 1, 2, 3, 4] [5] rfl rfl (by decide +kernel) (by decide +kernel) hk1 hFc hP1 hD1
          clear hP hD hPc hDc hFc ht hvm hz1 hk1 hP1 hD1
          obtain ⟨hP, hD⟩ := hJ9
          refine g5_rs [(b_me, (arI G 1536 k53_me)), (b_o, (oc12 u_th u_sa b_rf b_ro b_im b_ke u_fd b_tp u_td u_fr u_to u_so u_wo u_fa u_bd u_nc b_nl u_co b_op b_ar u_le b_pi b_pa u_pd u_od b_ws b_hw z110 b_se b_re z111 z112 z113 z114 z115 z116 z117 z118 b_pt z119 z120 b_ip u_ic b_ah b_be b_me k53_wd b_tr b_ld u_st b_wn u_id)), (b_ro, (arI G 5740 v_ro)), (b_se, (arJ G 13 z121)), (b_re, (arJ G 400 z122)), (b_pt, (arI G 200 z123))] hP hD ?_
          clear hP hD
          intro hP hD
          have hlt9 : k53_5.toInt < 5 := mn_lt (x := ((230 + (4 * k53_6)) + 3)) r_ro i_16 (by omega) (by omega) (by omega) (by omega)
          refine lv_iconst (v := 0) hx hb dX12_findMeets_133 (by decide +kernel) ?_
          refine lv_istore (lv' := [(9, .int 0), (8, .int 1), (7, .int (230 + (4 * k53_6))), (5, .int k53_5), (6, .int k53_6), (0, .ref b_o), (1, .int p_1), (2, .int p_2), (3, .int p_3), (4, .int p_4)]) hx hb dX12_findMeets_134 hl (by decide +kernel) rfl ?_
          clear hl
          intro ls hl
          refine g5_loop (α := (Int32) × (Nat → Int32)) (fun (q : (Int32) × (Nat → Int32)) (ls : Array Slot) (H : Heap) (locs : List Loc) => match q with | (k136_9, k136_me) => lv_has ls 10 [(9, .int k136_9), (8, .int 1), (7, .int (230 + (4 * k53_6))), (5, .int k53_5), (6, .int k53_6), (0, .ref b_o), (1, .int p_1), (2, .int p_2), (3, .int p_3), (4, .int p_4)] ∧ va_P G.1 vwCl [(b_me, (arI G 1536 k136_me)), (b_o, (oc12 u_th u_sa b_rf b_ro b_im b_ke u_fd b_tp u_td u_fr u_to u_so u_wo u_fa u_bd u_nc b_nl u_co b_op b_ar u_le b_pi b_pa u_pd u_od b_ws b_hw z110 b_se b_re z111 z112 z113 z114 z115 z116 z117 z118 b_pt z119 z120 b_ip u_ic b_ah b_be b_me k53_wd b_tr b_ld u_st b_wn u_id)), (b_ro, (arI G 5740 v_ro)), (b_se, (arJ G 13 z121)), (b_re, (arJ G 400 z122)), (b_pt, (arI G 200 z123))] H ∧ va_D A [(b_me, (arI G 1536 k136_me)), (b_o, (oc12 u_th u_sa b_rf b_ro b_im b_ke u_fd b_tp u_td u_fr u_to u_so u_wo u_fa u_bd u_nc b_nl u_co b_op b_ar u_le b_pi b_pa u_pd u_od b_ws b_hw z110 b_se b_re z111 z112 z113 z114 z115 z116 z117 z118 b_pt z119 z120 b_ip u_ic b_ah b_be b_me k53_wd b_tr b_ld u_st b_wn u_id)), (b_ro, (arI G 5740 v_ro)), (b_se, (arJ G 13 z121)), (b_re, (arJ G 400 z122)), (b_pt, (arI G 200 z123))] ∧ va_S A s.heap H locs ∧ (0 ≤ k136_9.toInt ∧ k136_9.toInt ≤ 200) ∧ (MEI k136_me)) (fun (q : (Int32) × (Nat → Int32)) => match q with | (k136_9, k136_me) => Int.toNat (200 - k136_9.toInt)) (0, k53_me) ⟨lv_sub hl [0, 1, 2, 3, 4, 5, 6, 7, 8, 9] rfl, hP, hD, hS, ⟨by decide, by decide⟩, i_15⟩ ?_
          rintro ⟨k136_9, k136_me⟩ ls H locs ⟨hl, hP, hD, hS, (i_124 : 0 ≤ k136_9.toInt ∧ k136_9.toInt ≤ 200), (i_125 : MEI k136_me)⟩ ih_136_126
          replace hl : lv_has ls 10 [(9, .int k136_9), (8, .int 1), (7, .int (230 + (4 * k53_6))), (5, .int k53_5), (6, .int k53_6), (0, .ref b_o), (1, .int p_1), (2, .int p_2), (3, .int p_3), (4, .int p_4)] := hl
          refine g5_rs [(b_me, (arI G 1536 k136_me)), (b_o, (oc12 u_th u_sa b_rf b_ro b_im b_ke u_fd b_tp u_td u_fr u_to u_so u_wo u_fa u_bd u_nc b_nl u_co b_op b_ar u_le b_pi b_pa u_pd u_od b_ws b_hw z110 b_se b_re z111 z112 z113 z114 z115 z116 z117 z118 b_pt z119 z120 b_ip u_ic b_ah b_be b_me k53_wd b_tr b_ld u_st b_wn u_id)), (b_ro, (arI G 5740 v_ro)), (b_se, (arJ G 13 z121)), (b_re, (arJ G 400 z122)), (b_pt, (arI G 200 z123))] hP hD ?_
          clear hP hD
          intro hP hD
          refine lv_iload hx hb dX12_findMeets_136 (lv_at hl 0 rfl) ?_
          refine lv_aload_n hx hb dX12_findMeets_138 rfl (lv_at hl 5 rfl) ?_
          refine va_get (D := G.1) (ci := 12) (v := .int z118) (C := RX12) (T := TX12) (N := 52) hx hb hts inG_X12 hown hK hP 1 rfl rfl 37 (by decide +kernel) (hts _ fl_X12_358) (fun _ h9 => h9) rfl dX12_findMeets_139 ?_
          refine lv_icmp_ge (tgt := 180) hx hb dX12_findMeets_142 (by decide +kernel) (fun c_127 => ?_) (fun c_127 => ?_)
          ·
            have i_127 : k136_9.toInt ≥ z118.toInt := g5_ge (a := k136_9.toInt) (b := z118.toInt) rfl rfl c_127
            refine lv_aload_n hx hb dX12_findMeets_180 rfl (lv_at hl 5 rfl) ?_
            refine lv_dup hx hb dX12_findMeets_181 rfl ?_
            refine va_get (D := G.1) (ci := 12) (v := .int k53_wd) (C := RX12) (T := TX12) (N := 52) hx hb hts inG_X12 hown hK hP 1 rfl rfl 46 (by decide +kernel) (hts _ fl_X12_422) (fun _ h9 => h9) rfl dX12_findMeets_182 ?_
            refine lv_iload hx hb dX12_findMeets_185 (lv_at hl 1 rfl) ?_
            refine lv_if_eq (tgt := 197) hx hb dX12_findMeets_187 (by decide +kernel) (fun c_128 => ?_) (fun c_128 => ?_)
            ·
              exact absurd c_128 (by decide +kernel)
            ·
              refine lv_iconst (v := 1) hx hb dX12_findMeets_190 (by decide +kernel) ?_
              refine lv_iload hx hb dX12_findMeets_191 (lv_at hl 3 rfl) ?_
              refine lv_ishl hx hb dX12_findMeets_193 ?_
              refine lv_goto (tgt := 198) hx hb dX12_findMeets_194 (by decide +kernel) ?_
              refine lv_ior hx hb dX12_findMeets_198 ?_
              refine va_put (D := G.1) (ci := 12) (v := .int (k53_wd ||| (1 <<< (k53_5 &&& 31)))) (ty := .int) (C := RX12) (T := TX12) (N := 52) hx hb hts inG_X12 tyX12 tyX12_ok nmX12 hown hK hP hD hS 1 rfl rfl 46 (by decide +kernel) (hts _ fl_X12_422) (fun _ h9 => h9) rfl (by decide +kernel) rfl rfl (Nat.le_of_ble_eq_true rfl) dX12_findMeets_199 ?_
              clear hP hD hS
              intro H locs hP hD hS
              refine g5_rs [(b_me, (arI G 1536 k136_me)), (b_o, (oc12 u_th u_sa b_rf b_ro b_im b_ke u_fd b_tp u_td u_fr u_to u_so u_wo u_fa u_bd u_nc b_nl u_co b_op b_ar u_le b_pi b_pa u_pd u_od b_ws b_hw z110 b_se b_re z111 z112 z113 z114 z115 z116 z117 z118 b_pt z119 z120 b_ip u_ic b_ah b_be b_me (k53_wd ||| (1 <<< (k53_5 &&& 31))) b_tr b_ld u_st b_wn u_id)), (b_ro, (arI G 5740 v_ro)), (b_se, (arJ G 13 z121)), (b_re, (arJ G 400 z122)), (b_pt, (arI G 200 z123))] hP hD ?_
              clear hP hD
              intro hP hD
              refine lv_iload hx hb dX12_findMeets_202 (lv_at hl 3 rfl) ?_
              refine lv_iload hx hb dX12_findMeets_204 (lv_at hl 1 rfl) ?_
              refine lv_if_eq (tgt := 213) hx hb dX12_findMeets_206 (by decide +kernel) (fun c_129 => ?_) (fun c_129 => ?_)
              ·
                exact absurd c_129 (by decide +kernel)
              ·
                refine lv_iconst (v := 1) hx hb dX12_findMeets_209 (by decide +kernel) ?_
                refine lv_goto (tgt := 214) hx hb dX12_findMeets_210 (by decide +kernel) ?_
                refine lv_iadd hx hb dX12_findMeets_214 ?_
                have t_130 : (k53_5 + 1).toInt = k53_5.toInt + 1 := g5_iadd (a := k53_5.toInt) (b := 1) (by rfl) (by decide +kernel) (by omega) (by omega)
                refine lv_istore (lv' := [(5, .int (k53_5 + 1)), (9, .int k136_9), (8, .int 1), (7, .int (230 + (4 * k53_6))), (6, .int k53_6), (0, .ref b_o), (1, .int p_1), (2, .int p_2), (3, .int p_3), (4, .int p_4)]) hx hb dX12_findMeets_215 hl (by decide +kernel) rfl ?_
                clear hl
                intro ls hl
                refine lv_iinc (v := (k53_6 + 1)) (lv' := [(6, .int (k53_6 + 1)), (5, .int (k53_5 + 1)), (9, .int k136_9), (8, .int 1), (7, .int (230 + (4 * k53_6))), (0, .ref b_o), (1, .int p_1), (2, .int p_2), (3, .int p_3), (4, .int p_4)]) hx hb dX12_findMeets_217 hl (k := 4) rfl rfl (by decide +kernel) rfl ?_
                clear hl
                intro ls hl
                have t_131 : (k53_6 + 1).toInt = k53_6.toInt + 1 := g5_iadd (a := k53_6.toInt) (b := 1) rfl (by decide +kernel) (by omega) (by omega)
                refine lv_goto (tgt := 53) hx hb dX12_findMeets_220 (by decide +kernel) ?_
                exact ih_53_17 ((k53_6 + 1), (k53_5 + 1), z110, z111, z112, z113, z114, z115, z116, z117, z118, z119, z120, (k53_wd ||| (1 <<< (k53_5 &&& 31))), z121, z122, z123, k136_me) ls H locs (show Int.toNat (10 - (k53_6 + 1).toInt) < Int.toNat (10 - k53_6.toInt) from g_up (show k53_6.toInt < (k53_6 + 1).toInt by omega) (show k53_6.toInt < 10 by omega)) ⟨lv_sub hl [1, 0, 5, 6, 7, 8, 9] rfl, hP.sub [1, 2, 3, 4, 5, 0] rfl, hD.sub [1, 2, 3, 4, 5, 0] (by decide +kernel) rfl, hS, ⟨by omega, by omega⟩, ⟨by omega, by omega⟩, i_102, i_103, i_104, i_105, i_106, i_107, i_108, i_109, i_125, mn_go (x := ((230 + (4 * k53_6)) + 3)) i_16 (by omega) (by omega) (by omega) (by omega) (by omega) (by omega)⟩
          ·
            have i_127 : k136_9.toInt < z118.toInt := g5_geN (a := k136_9.toInt) (b := z118.toInt) rfl rfl c_127
            refine lv_aload_n hx hb dX12_findMeets_145 rfl (lv_at hl 5 rfl) ?_
            refine va_get (D := G.1) (ci := 12) (v := .ref b_me) (C := RX12) (T := TX12) (N := 52) hx hb hts inG_X12 hown hK hP 1 rfl rfl 45 (by decide +kernel) (hts _ fl_X12_95) (fun _ h9 => h9) rfl dX12_findMeets_146 ?_
            refine lv_aload_n hx hb dX12_findMeets_149 rfl (lv_at hl 5 rfl) ?_
            refine va_get (D := G.1) (ci := 12) (v := .ref b_pt) (C := RX12) (T := TX12) (N := 52) hx hb hts inG_X12 hown hK hP 1 rfl rfl 38 (by decide +kernel) (hts _ fl_X12_82) (fun _ h9 => h9) rfl dX12_findMeets_150 ?_
            refine lv_iload hx hb dX12_findMeets_153 (lv_at hl 0 rfl) ?_
            refine va_iald hx hb hK hP 5 0 rfl rfl (i := k136_9) (vp_in_iff.mpr ⟨by omega, by omega⟩) dX12_findMeets_155 ?_
            have hr_132 : 0 ≤ (z123 k136_9.toNatClampNeg).toInt ∧ (z123 k136_9.toNatClampNeg).toInt ≤ 1535 := i_109 (k136_9.toNatClampNeg)
            refine lv_dup2_11 hx hb dX12_findMeets_156 rfl rfl ?_
            refine va_iald hx hb hK hP 0 0 rfl rfl (i := (z123 k136_9.toNatClampNeg)) (vp_in_iff.mpr ⟨by omega, by omega⟩) dX12_findMeets_157 ?_
            have hr_133 : 0 ≤ (k136_me (z123 k136_9.toNatClampNeg).toNatClampNeg).toInt ∧ ((k136_me (z123 k136_9.toNatClampNeg).toNatClampNeg).toInt < 32 ∨ 64 ≤ (k136_me (z123 k136_9.toNatClampNeg).toNatClampNeg).toInt) ∧ (k136_me (z123 k136_9.toNatClampNeg).toNatClampNeg).toInt ≤ 127 := i_125 ((z123 k136_9.toNatClampNeg).toNatClampNeg)
            refine lv_iload hx hb dX12_findMeets_158 (lv_at hl 1 rfl) ?_
            refine lv_if_eq (tgt := 170) hx hb dX12_findMeets_160 (by decide +kernel) (fun c_134 => ?_) (fun c_134 => ?_)
            ·
              exact absurd c_134 (by decide +kernel)
            ·
              refine lv_iconst (v := 1) hx hb dX12_findMeets_163 (by decide +kernel) ?_
              refine lv_iload hx hb dX12_findMeets_164 (lv_at hl 3 rfl) ?_
              refine lv_ishl hx hb dX12_findMeets_166 ?_
              refine lv_goto (tgt := 172) hx hb dX12_findMeets_167 (by decide +kernel) ?_
              refine lv_ior hx hb dX12_findMeets_172 ?_
              refine va_iast hx hb hK hP hD hS 0 0 rfl rfl (i := (z123 k136_9.toNatClampNeg)) (x := ((k136_me (z123 k136_9.toNatClampNeg).toNatClampNeg) ||| (1 <<< (k53_5 &&& 31)))) (vp_in_iff.mpr ⟨by omega, by omega⟩) dX12_findMeets_173 ?_
              clear hP hD hS
              intro H locs hP hD hS
              refine g5_rs [(b_me, (arI G 1536 (upd k136_me (z123 k136_9.toNatClampNeg).toNatClampNeg ((k136_me (z123 k136_9.toNatClampNeg).toNatClampNeg) ||| (1 <<< (k53_5 &&& 31)))))), (b_o, (oc12 u_th u_sa b_rf b_ro b_im b_ke u_fd b_tp u_td u_fr u_to u_so u_wo u_fa u_bd u_nc b_nl u_co b_op b_ar u_le b_pi b_pa u_pd u_od b_ws b_hw z110 b_se b_re z111 z112 z113 z114 z115 z116 z117 z118 b_pt z119 z120 b_ip u_ic b_ah b_be b_me k53_wd b_tr b_ld u_st b_wn u_id)), (b_ro, (arI G 5740 v_ro)), (b_se, (arJ G 13 z121)), (b_re, (arJ G 400 z122)), (b_pt, (arI G 200 z123))] hP hD ?_
              clear hP hD
              intro hP hD
              refine lv_iinc (v := (k136_9 + 1)) (lv' := [(9, .int (k136_9 + 1)), (8, .int 1), (7, .int (230 + (4 * k53_6))), (5, .int k53_5), (6, .int k53_6), (0, .ref b_o), (1, .int p_1), (2, .int p_2), (3, .int p_3), (4, .int p_4)]) hx hb dX12_findMeets_174 hl (k := 0) rfl rfl (by decide +kernel) rfl ?_
              clear hl
              intro ls hl
              have t_135 : (k136_9 + 1).toInt = k136_9.toInt + 1 := g5_iadd (a := k136_9.toInt) (b := 1) rfl (by decide +kernel) (by omega) (by omega)
              refine lv_goto (tgt := 136) hx hb dX12_findMeets_177 (by decide +kernel) ?_
              exact ih_136_126 ((k136_9 + 1), (upd k136_me (z123 k136_9.toNatClampNeg).toNatClampNeg ((k136_me (z123 k136_9.toNatClampNeg).toNatClampNeg) ||| (1 <<< (k53_5 &&& 31))))) ls H locs (show Int.toNat (200 - (k136_9 + 1).toInt) < Int.toNat (200 - k136_9.toInt) from g_up (show k136_9.toInt < (k136_9 + 1).toInt by omega) (show k136_9.toInt < 200 by omega)) ⟨lv_sub hl [0, 1, 2, 3, 4, 5, 6, 7, 8, 9] rfl, hP, hD, hS, ⟨by omega, by omega⟩, me_upd i_125 (me_or1 (i_125 _) (by omega))⟩
  ·
    have i_4 : k11_6.toInt < 1536 := g5_geN (a := k11_6.toInt) (b := 1536) rfl (by decide +kernel) c_4
    refine lv_aload_n hx hb dX12_findMeets_19 rfl (lv_at hl 2 rfl) ?_
    refine va_get (D := G.1) (ci := 12) (v := .ref b_me) (C := RX12) (T := TX12) (N := 52) hx hb hts inG_X12 hown hK hP 0 rfl rfl 45 (by decide +kernel) (hts _ fl_X12_95) (fun _ h9 => h9) rfl dX12_findMeets_20 ?_
    refine lv_iload hx hb dX12_findMeets_23 (lv_at hl 0 rfl) ?_
    refine lv_aload_n hx hb dX12_findMeets_25 rfl (lv_at hl 2 rfl) ?_
    refine lv_iload hx hb dX12_findMeets_26 (lv_at hl 0 rfl) ?_
    refine lv_bipush (v := 64) hx hb dX12_findMeets_28 (by decide +kernel) ?_
    refine lv_irem hx hb dX12_findMeets_30 (by decide +kernel) ?_
    have t_136 : (k11_6 - k11_6 / 64 * 64).toInt = k11_6.toInt % 64 := g5_irem (a := k11_6.toInt) (b := 64) rfl (by decide +kernel) (by omega) (by decide +kernel)
    obtain ⟨hPc, hDc, hFc⟩ := g5_sub3 (wc := [(b_o, (oc12 u_th u_sa b_rf b_ro b_im b_ke u_fd b_tp u_td u_fr u_to u_so u_wo u_fa u_bd u_nc b_nl u_co b_op b_ar u_le b_pi b_pa u_pd u_od b_ws b_hw u_la b_se b_re u_bk u_va u_su u_ce u_ho u_wy u_bt u_ps b_pt u_tg u_sn b_ip u_ic b_ah b_be b_me 0 b_tr b_ld u_st b_wn u_id)), (b_ro, (arI G 5740 v_ro))]) hP hD hS hA [0, 1] (by decide +kernel) rfl
    refine va_calli (va_runV (As := [.int (k11_6 - k11_6 / 64 * 64)]) (rest := [.int k11_6, .ref b_me]) ⟨hx, hb, hml, hown, hts⟩ (n_isWall l G b_o b_ro b_rf b_im b_ke b_tp b_nl b_op b_ar b_pi b_pa b_ws b_hw b_se b_re b_pt b_ip b_ah b_be b_me b_tr b_ld b_wn H.size u_th u_sa u_fd u_td u_fr u_to u_so u_fa u_bd u_nc u_co u_le u_pd u_od u_la u_bk u_ce u_ho u_wy u_bt u_ps u_tg u_sn u_ic 0 u_id (k11_6 - k11_6 / 64 * 64) u_wo u_va u_su u_st v_ro h_u_td h_u_fr h_u_to h_u_bd h_u_nc h_u_co h_u_pd h_u_la h_u_bk h_u_ce h_u_ho h_u_wy h_u_bt h_u_ps h_u_ic h_u_id ⟨by omega, by omega⟩ (r_ro)) (cwV 1 hts gV_X12_160 rfl rfl rfl hv_X12_isWall ⟨Nat.le_of_ble_eq_true rfl, Nat.le_of_ble_eq_true rfl⟩) (g5_preV hPc hK hDc hN hT hS hFc (ci := 12) (q0 := 0) rfl rfl) rfl rfl hl.1 rfl (lv_room (Nat.le_of_ble_eq_true rfl)) dX12_findMeets_31 ⟨Nat.le_of_ble_eq_true rfl, Nat.le_of_ble_eq_true rfl⟩) hS (fun q _ h => hFc q h) hFc (fun r u t H locs ht hvm hw hB hz1 hk1 hS => ?_)
    obtain ⟨hP1, hD1⟩ := hB
    have hP1 := g5_ht ht hP1
    obtain ⟨z138, (i_137 : 0 ≤ z138.toInt ∧ z138.toInt ≤ 1), y139, rfl⟩ := hw
    have hJ9 := va_join (wr := [(b_se, (arJ G 13 v_se)), (b_re, (arJ G 400 v_re)), (b_pt, (arI G 200 v_pt)), (b_me, (arI G 1536 k11_me))]) hP hD [0, 1] [2, 3, 4, 5] rfl rfl (by decide +kernel) (by decide +kernel) hk1 hFc hP1 hD1
    clear hP hD hPc hDc hFc ht hvm hz1 hk1 hP1 hD1
    obtain ⟨hP, hD⟩ := hJ9
    refine g5_rs [(b_se, (arJ G 13 v_se)), (b_re, (arJ G 400 v_re)), (b_pt, (arI G 200 v_pt)), (b_me, (arI G 1536 k11_me)), (b_o, (oc12 u_th u_sa b_rf b_ro b_im b_ke u_fd b_tp u_td u_fr u_to u_so u_wo u_fa u_bd u_nc b_nl u_co b_op b_ar u_le b_pi b_pa u_pd u_od b_ws b_hw u_la b_se b_re u_bk u_va u_su u_ce u_ho u_wy u_bt u_ps b_pt u_tg u_sn b_ip u_ic b_ah b_be b_me 0 b_tr b_ld u_st b_wn u_id)), (b_ro, (arI G 5740 v_ro))] hP hD ?_
    clear hP hD
    intro hP hD
    refine g5_ti (v := z138) y139 ?_
    refine lv_if_eq (tgt := 42) hx hb dX12_findMeets_34 (by decide +kernel) (fun c_140 => ?_) (fun c_140 => ?_)
    ·
      have i_140 : z138.toInt = 0 := g5_eq (a := z138.toInt) (b := 0) rfl (by decide +kernel) c_140
      refine lv_iconst (v := 0) hx hb dX12_findMeets_42 (by decide +kernel) ?_
      refine va_iast hx hb hK hP hD hS 3 0 rfl rfl (i := k11_6) (x := 0) (vp_in_iff.mpr ⟨by omega, by omega⟩) dX12_findMeets_43 ?_
      clear hP hD hS
      intro H locs hP hD hS
      refine g5_rs [(b_se, (arJ G 13 v_se)), (b_re, (arJ G 400 v_re)), (b_pt, (arI G 200 v_pt)), (b_me, (arI G 1536 (upd k11_me k11_6.toNatClampNeg 0))), (b_o, (oc12 u_th u_sa b_rf b_ro b_im b_ke u_fd b_tp u_td u_fr u_to u_so u_wo u_fa u_bd u_nc b_nl u_co b_op b_ar u_le b_pi b_pa u_pd u_od b_ws b_hw u_la b_se b_re u_bk u_va u_su u_ce u_ho u_wy u_bt u_ps b_pt u_tg u_sn b_ip u_ic b_ah b_be b_me 0 b_tr b_ld u_st b_wn u_id)), (b_ro, (arI G 5740 v_ro))] hP hD ?_
      clear hP hD
      intro hP hD
      refine lv_iinc (v := (k11_6 + 1)) (lv' := [(6, .int (k11_6 + 1)), (5, .int 0), (0, .ref b_o), (1, .int p_1), (2, .int p_2), (3, .int p_3), (4, .int p_4)]) hx hb dX12_findMeets_44 hl (k := 0) rfl rfl (by decide +kernel) rfl ?_
      clear hl
      intro ls hl
      have t_141 : (k11_6 + 1).toInt = k11_6.toInt + 1 := g5_iadd (a := k11_6.toInt) (b := 1) rfl (by decide +kernel) (by omega) (by omega)
      refine lv_goto (tgt := 11) hx hb dX12_findMeets_47 (by decide +kernel) ?_
      exact ih_11_3 ((k11_6 + 1), (upd k11_me k11_6.toNatClampNeg 0)) ls H locs (show Int.toNat (1536 - (k11_6 + 1).toInt) < Int.toNat (1536 - k11_6.toInt) from g_up (show k11_6.toInt < (k11_6 + 1).toInt by omega) (show k11_6.toInt < 1536 by omega)) ⟨lv_sub hl [0, 1, 2, 3, 4, 5, 6] rfl, hP.sub [4, 5, 0, 1, 2, 3] rfl, hD.sub [4, 5, 0, 1, 2, 3] (by decide +kernel) rfl, hS, ⟨by omega, by omega⟩, me_upd i_2 (by decide +kernel)⟩
    ·
      have n_140 : gNe (z138.toInt) (0) := g5_eqN (a := z138.toInt) (b := 0) rfl (by decide +kernel) c_140
      have i_140 : z138.toInt ≥ 1 := by have z := g5_eqN (a := z138.toInt) (b := 0) (by rfl) (by decide +kernel) c_140; omega
      refine lv_bipush (v := 64) hx hb dX12_findMeets_37 (by decide +kernel) ?_
      refine lv_goto (tgt := 43) hx hb dX12_findMeets_39 (by decide +kernel) ?_
      refine va_iast hx hb hK hP hD hS 3 0 rfl rfl (i := k11_6) (x := 64) (vp_in_iff.mpr ⟨by omega, by omega⟩) dX12_findMeets_43 ?_
      clear hP hD hS
      intro H locs hP hD hS
      refine g5_rs [(b_se, (arJ G 13 v_se)), (b_re, (arJ G 400 v_re)), (b_pt, (arI G 200 v_pt)), (b_me, (arI G 1536 (upd k11_me k11_6.toNatClampNeg 64))), (b_o, (oc12 u_th u_sa b_rf b_ro b_im b_ke u_fd b_tp u_td u_fr u_to u_so u_wo u_fa u_bd u_nc b_nl u_co b_op b_ar u_le b_pi b_pa u_pd u_od b_ws b_hw u_la b_se b_re u_bk u_va u_su u_ce u_ho u_wy u_bt u_ps b_pt u_tg u_sn b_ip u_ic b_ah b_be b_me 0 b_tr b_ld u_st b_wn u_id)), (b_ro, (arI G 5740 v_ro))] hP hD ?_
      clear hP hD
      intro hP hD
      refine lv_iinc (v := (k11_6 + 1)) (lv' := [(6, .int (k11_6 + 1)), (5, .int 0), (0, .ref b_o), (1, .int p_1), (2, .int p_2), (3, .int p_3), (4, .int p_4)]) hx hb dX12_findMeets_44 hl (k := 0) rfl rfl (by decide +kernel) rfl ?_
      clear hl
      intro ls hl
      have t_142 : (k11_6 + 1).toInt = k11_6.toInt + 1 := g5_iadd (a := k11_6.toInt) (b := 1) rfl (by decide +kernel) (by omega) (by omega)
      refine lv_goto (tgt := 11) hx hb dX12_findMeets_47 (by decide +kernel) ?_
      exact ih_11_3 ((k11_6 + 1), (upd k11_me k11_6.toNatClampNeg 64)) ls H locs (show Int.toNat (1536 - (k11_6 + 1).toInt) < Int.toNat (1536 - k11_6.toInt) from g_up (show k11_6.toInt < (k11_6 + 1).toInt by omega) (show k11_6.toInt < 1536 by omega)) ⟨lv_sub hl [0, 1, 2, 3, 4, 5, 6] rfl, hP.sub [4, 5, 0, 1, 2, 3] rfl, hD.sub [4, 5, 0, 1, 2, 3] (by decide +kernel) rfl, hS, ⟨by omega, by omega⟩, me_upd i_2 (by decide +kernel)⟩
theorem dgX12_countFor_0 : ∀ r ∈ ([(0, (.aload_n 0, 1)), (1, (.iconst 0, 1)), (2, (.putfield 113, 3)), (5, (.aload_n 0, 1)), (6, (.iload_n 1, 1)), (7, (.iload_n 2, 1)), (8, (.iload_n 3, 1)), (9, (.iload 4, 2)), (11, (.invokevirtual 428, 3)), (14, (.iconst 0, 1)), (15, (.istore 5, 2)), (17, (.iload 5, 2)), (19, (.ldc 88, 2)), (21, (.if_icmp .ge 25, 3)), (24, (.aload_n 0, 1)), (25, (.getfield 89, 3)), (28, (.iload 5, 2)), (30, (.lconst 0, 1)), (31, (.lastore, 1)), (32, (.aload_n 0, 1)), (33, (.getfield 92, 3)), (36, (.iload 5, 2)), (38, (.lconst 0, 1)), (39, (.lastore, 1)), (40, (.iinc 5 1, 3)), (43, (.goto (-26), 3)), (46, (.iconst 0, 1)), (47, (.istore 5, 2)), (49, (.iload 5, 2)), (51, (.bipush 64, 2)), (53, (.if_icmp .ge 110, 3)), (56, (.aload_n 0, 1)), (57, (.getfield 95, 3)), (60, (.iload 5, 2)), (62, (.iaload, 1)), (63, (.bipush 64, 2)), (65, (.if_icmp .ge 45, 3)), (68, (.aload_n 0, 1)), (69, (.getfield 13, 3)), (72, (.bipush 6, 2))] : List (Nat × (Instr × Nat))), decode cX12_countFor r.1 = .ok r.2 := by decide +kernel
theorem dX12_countFor_0 : decode cX12_countFor 0 = .ok (.aload_n 0, 1) := dgX12_countFor_0 (0, (.aload_n 0, 1)) (List.mem_of_getElem? (i := 0) rfl)
theorem dX12_countFor_1 : decode cX12_countFor 1 = .ok (.iconst 0, 1) := dgX12_countFor_0 (1, (.iconst 0, 1)) (List.mem_of_getElem? (i := 1) rfl)
theorem dX12_countFor_2 : decode cX12_countFor 2 = .ok (.putfield 113, 3) := dgX12_countFor_0 (2, (.putfield 113, 3)) (List.mem_of_getElem? (i := 2) rfl)
theorem dX12_countFor_5 : decode cX12_countFor 5 = .ok (.aload_n 0, 1) := dgX12_countFor_0 (5, (.aload_n 0, 1)) (List.mem_of_getElem? (i := 3) rfl)
theorem dX12_countFor_6 : decode cX12_countFor 6 = .ok (.iload_n 1, 1) := dgX12_countFor_0 (6, (.iload_n 1, 1)) (List.mem_of_getElem? (i := 4) rfl)
theorem dX12_countFor_7 : decode cX12_countFor 7 = .ok (.iload_n 2, 1) := dgX12_countFor_0 (7, (.iload_n 2, 1)) (List.mem_of_getElem? (i := 5) rfl)
theorem dX12_countFor_8 : decode cX12_countFor 8 = .ok (.iload_n 3, 1) := dgX12_countFor_0 (8, (.iload_n 3, 1)) (List.mem_of_getElem? (i := 6) rfl)
theorem dX12_countFor_9 : decode cX12_countFor 9 = .ok (.iload 4, 2) := dgX12_countFor_0 (9, (.iload 4, 2)) (List.mem_of_getElem? (i := 7) rfl)
theorem dX12_countFor_11 : decode cX12_countFor 11 = .ok (.invokevirtual 428, 3) := dgX12_countFor_0 (11, (.invokevirtual 428, 3)) (List.mem_of_getElem? (i := 8) rfl)
theorem dX12_countFor_14 : decode cX12_countFor 14 = .ok (.iconst 0, 1) := dgX12_countFor_0 (14, (.iconst 0, 1)) (List.mem_of_getElem? (i := 9) rfl)
theorem dX12_countFor_15 : decode cX12_countFor 15 = .ok (.istore 5, 2) := dgX12_countFor_0 (15, (.istore 5, 2)) (List.mem_of_getElem? (i := 10) rfl)
theorem dX12_countFor_17 : decode cX12_countFor 17 = .ok (.iload 5, 2) := dgX12_countFor_0 (17, (.iload 5, 2)) (List.mem_of_getElem? (i := 11) rfl)
theorem dX12_countFor_19 : decode cX12_countFor 19 = .ok (.ldc 88, 2) := dgX12_countFor_0 (19, (.ldc 88, 2)) (List.mem_of_getElem? (i := 12) rfl)
theorem dX12_countFor_21 : decode cX12_countFor 21 = .ok (.if_icmp .ge 25, 3) := dgX12_countFor_0 (21, (.if_icmp .ge 25, 3)) (List.mem_of_getElem? (i := 13) rfl)
theorem dX12_countFor_24 : decode cX12_countFor 24 = .ok (.aload_n 0, 1) := dgX12_countFor_0 (24, (.aload_n 0, 1)) (List.mem_of_getElem? (i := 14) rfl)
theorem dX12_countFor_25 : decode cX12_countFor 25 = .ok (.getfield 89, 3) := dgX12_countFor_0 (25, (.getfield 89, 3)) (List.mem_of_getElem? (i := 15) rfl)
theorem dX12_countFor_28 : decode cX12_countFor 28 = .ok (.iload 5, 2) := dgX12_countFor_0 (28, (.iload 5, 2)) (List.mem_of_getElem? (i := 16) rfl)
theorem dX12_countFor_30 : decode cX12_countFor 30 = .ok (.lconst 0, 1) := dgX12_countFor_0 (30, (.lconst 0, 1)) (List.mem_of_getElem? (i := 17) rfl)
theorem dX12_countFor_31 : decode cX12_countFor 31 = .ok (.lastore, 1) := dgX12_countFor_0 (31, (.lastore, 1)) (List.mem_of_getElem? (i := 18) rfl)
theorem dX12_countFor_32 : decode cX12_countFor 32 = .ok (.aload_n 0, 1) := dgX12_countFor_0 (32, (.aload_n 0, 1)) (List.mem_of_getElem? (i := 19) rfl)
theorem dX12_countFor_33 : decode cX12_countFor 33 = .ok (.getfield 92, 3) := dgX12_countFor_0 (33, (.getfield 92, 3)) (List.mem_of_getElem? (i := 20) rfl)
theorem dX12_countFor_36 : decode cX12_countFor 36 = .ok (.iload 5, 2) := dgX12_countFor_0 (36, (.iload 5, 2)) (List.mem_of_getElem? (i := 21) rfl)
theorem dX12_countFor_38 : decode cX12_countFor 38 = .ok (.lconst 0, 1) := dgX12_countFor_0 (38, (.lconst 0, 1)) (List.mem_of_getElem? (i := 22) rfl)
theorem dX12_countFor_39 : decode cX12_countFor 39 = .ok (.lastore, 1) := dgX12_countFor_0 (39, (.lastore, 1)) (List.mem_of_getElem? (i := 23) rfl)
theorem dX12_countFor_40 : decode cX12_countFor 40 = .ok (.iinc 5 1, 3) := dgX12_countFor_0 (40, (.iinc 5 1, 3)) (List.mem_of_getElem? (i := 24) rfl)
theorem dX12_countFor_43 : decode cX12_countFor 43 = .ok (.goto (-26), 3) := dgX12_countFor_0 (43, (.goto (-26), 3)) (List.mem_of_getElem? (i := 25) rfl)
theorem dX12_countFor_46 : decode cX12_countFor 46 = .ok (.iconst 0, 1) := dgX12_countFor_0 (46, (.iconst 0, 1)) (List.mem_of_getElem? (i := 26) rfl)
theorem dX12_countFor_47 : decode cX12_countFor 47 = .ok (.istore 5, 2) := dgX12_countFor_0 (47, (.istore 5, 2)) (List.mem_of_getElem? (i := 27) rfl)
theorem dX12_countFor_49 : decode cX12_countFor 49 = .ok (.iload 5, 2) := dgX12_countFor_0 (49, (.iload 5, 2)) (List.mem_of_getElem? (i := 28) rfl)
theorem dX12_countFor_51 : decode cX12_countFor 51 = .ok (.bipush 64, 2) := dgX12_countFor_0 (51, (.bipush 64, 2)) (List.mem_of_getElem? (i := 29) rfl)
theorem dX12_countFor_53 : decode cX12_countFor 53 = .ok (.if_icmp .ge 110, 3) := dgX12_countFor_0 (53, (.if_icmp .ge 110, 3)) (List.mem_of_getElem? (i := 30) rfl)
theorem dX12_countFor_56 : decode cX12_countFor 56 = .ok (.aload_n 0, 1) := dgX12_countFor_0 (56, (.aload_n 0, 1)) (List.mem_of_getElem? (i := 31) rfl)
theorem dX12_countFor_57 : decode cX12_countFor 57 = .ok (.getfield 95, 3) := dgX12_countFor_0 (57, (.getfield 95, 3)) (List.mem_of_getElem? (i := 32) rfl)
theorem dX12_countFor_60 : decode cX12_countFor 60 = .ok (.iload 5, 2) := dgX12_countFor_0 (60, (.iload 5, 2)) (List.mem_of_getElem? (i := 33) rfl)
theorem dX12_countFor_62 : decode cX12_countFor 62 = .ok (.iaload, 1) := dgX12_countFor_0 (62, (.iaload, 1)) (List.mem_of_getElem? (i := 34) rfl)
theorem dX12_countFor_63 : decode cX12_countFor 63 = .ok (.bipush 64, 2) := dgX12_countFor_0 (63, (.bipush 64, 2)) (List.mem_of_getElem? (i := 35) rfl)
theorem dX12_countFor_65 : decode cX12_countFor 65 = .ok (.if_icmp .ge 45, 3) := dgX12_countFor_0 (65, (.if_icmp .ge 45, 3)) (List.mem_of_getElem? (i := 36) rfl)
theorem dX12_countFor_68 : decode cX12_countFor 68 = .ok (.aload_n 0, 1) := dgX12_countFor_0 (68, (.aload_n 0, 1)) (List.mem_of_getElem? (i := 37) rfl)
theorem dX12_countFor_69 : decode cX12_countFor 69 = .ok (.getfield 13, 3) := dgX12_countFor_0 (69, (.getfield 13, 3)) (List.mem_of_getElem? (i := 38) rfl)
theorem dX12_countFor_72 : decode cX12_countFor 72 = .ok (.bipush 6, 2) := dgX12_countFor_0 (72, (.bipush 6, 2)) (List.mem_of_getElem? (i := 39) rfl)
theorem dgX12_countFor_1 : ∀ r ∈ ([(74, (.iaload, 1)), (75, (.iconst (-1), 1)), (76, (.if_icmp .eq 15, 3)), (79, (.aload_n 0, 1)), (80, (.getfield 13, 3)), (83, (.bipush 6, 2)), (85, (.iaload, 1)), (86, (.iload 5, 2)), (88, (.if_icmp .ne 22, 3)), (91, (.aload_n 0, 1)), (92, (.getfield 89, 3)), (95, (.bipush 32, 2)), (97, (.iload 5, 2)), (99, (.imul, 1)), (100, (.aload_n 0, 1)), (101, (.getfield 95, 3)), (104, (.iload 5, 2)), (106, (.iaload, 1)), (107, (.iadd, 1)), (108, (.lconst 1, 1)), (109, (.lastore, 1)), (110, (.iconst 0, 1)), (111, (.istore 6, 2)), (113, (.iload 6, 2)), (115, (.bipush 32, 2)), (117, (.if_icmp .ge 40, 3)), (120, (.aload_n 0, 1)), (121, (.getfield 92, 3)), (124, (.bipush 32, 2)), (126, (.sipush 1472, 3)), (129, (.iload 5, 2)), (131, (.iadd, 1)), (132, (.imul, 1)), (133, (.iload 6, 2)), (135, (.iadd, 1)), (136, (.iload 6, 2)), (138, (.aload_n 0, 1)), (139, (.getfield 422, 3)), (142, (.if_icmp .ne 7, 3)), (145, (.lconst 1, 1))] : List (Nat × (Instr × Nat))), decode cX12_countFor r.1 = .ok r.2 := by decide +kernel
theorem dX12_countFor_74 : decode cX12_countFor 74 = .ok (.iaload, 1) := dgX12_countFor_1 (74, (.iaload, 1)) (List.mem_of_getElem? (i := 0) rfl)
theorem dX12_countFor_75 : decode cX12_countFor 75 = .ok (.iconst (-1), 1) := dgX12_countFor_1 (75, (.iconst (-1), 1)) (List.mem_of_getElem? (i := 1) rfl)
theorem dX12_countFor_76 : decode cX12_countFor 76 = .ok (.if_icmp .eq 15, 3) := dgX12_countFor_1 (76, (.if_icmp .eq 15, 3)) (List.mem_of_getElem? (i := 2) rfl)
theorem dX12_countFor_79 : decode cX12_countFor 79 = .ok (.aload_n 0, 1) := dgX12_countFor_1 (79, (.aload_n 0, 1)) (List.mem_of_getElem? (i := 3) rfl)
theorem dX12_countFor_80 : decode cX12_countFor 80 = .ok (.getfield 13, 3) := dgX12_countFor_1 (80, (.getfield 13, 3)) (List.mem_of_getElem? (i := 4) rfl)
theorem dX12_countFor_83 : decode cX12_countFor 83 = .ok (.bipush 6, 2) := dgX12_countFor_1 (83, (.bipush 6, 2)) (List.mem_of_getElem? (i := 5) rfl)
theorem dX12_countFor_85 : decode cX12_countFor 85 = .ok (.iaload, 1) := dgX12_countFor_1 (85, (.iaload, 1)) (List.mem_of_getElem? (i := 6) rfl)
theorem dX12_countFor_86 : decode cX12_countFor 86 = .ok (.iload 5, 2) := dgX12_countFor_1 (86, (.iload 5, 2)) (List.mem_of_getElem? (i := 7) rfl)
theorem dX12_countFor_88 : decode cX12_countFor 88 = .ok (.if_icmp .ne 22, 3) := dgX12_countFor_1 (88, (.if_icmp .ne 22, 3)) (List.mem_of_getElem? (i := 8) rfl)
theorem dX12_countFor_91 : decode cX12_countFor 91 = .ok (.aload_n 0, 1) := dgX12_countFor_1 (91, (.aload_n 0, 1)) (List.mem_of_getElem? (i := 9) rfl)
theorem dX12_countFor_92 : decode cX12_countFor 92 = .ok (.getfield 89, 3) := dgX12_countFor_1 (92, (.getfield 89, 3)) (List.mem_of_getElem? (i := 10) rfl)
theorem dX12_countFor_95 : decode cX12_countFor 95 = .ok (.bipush 32, 2) := dgX12_countFor_1 (95, (.bipush 32, 2)) (List.mem_of_getElem? (i := 11) rfl)
theorem dX12_countFor_97 : decode cX12_countFor 97 = .ok (.iload 5, 2) := dgX12_countFor_1 (97, (.iload 5, 2)) (List.mem_of_getElem? (i := 12) rfl)
theorem dX12_countFor_99 : decode cX12_countFor 99 = .ok (.imul, 1) := dgX12_countFor_1 (99, (.imul, 1)) (List.mem_of_getElem? (i := 13) rfl)
theorem dX12_countFor_100 : decode cX12_countFor 100 = .ok (.aload_n 0, 1) := dgX12_countFor_1 (100, (.aload_n 0, 1)) (List.mem_of_getElem? (i := 14) rfl)
theorem dX12_countFor_101 : decode cX12_countFor 101 = .ok (.getfield 95, 3) := dgX12_countFor_1 (101, (.getfield 95, 3)) (List.mem_of_getElem? (i := 15) rfl)
theorem dX12_countFor_104 : decode cX12_countFor 104 = .ok (.iload 5, 2) := dgX12_countFor_1 (104, (.iload 5, 2)) (List.mem_of_getElem? (i := 16) rfl)
theorem dX12_countFor_106 : decode cX12_countFor 106 = .ok (.iaload, 1) := dgX12_countFor_1 (106, (.iaload, 1)) (List.mem_of_getElem? (i := 17) rfl)
theorem dX12_countFor_107 : decode cX12_countFor 107 = .ok (.iadd, 1) := dgX12_countFor_1 (107, (.iadd, 1)) (List.mem_of_getElem? (i := 18) rfl)
theorem dX12_countFor_108 : decode cX12_countFor 108 = .ok (.lconst 1, 1) := dgX12_countFor_1 (108, (.lconst 1, 1)) (List.mem_of_getElem? (i := 19) rfl)
theorem dX12_countFor_109 : decode cX12_countFor 109 = .ok (.lastore, 1) := dgX12_countFor_1 (109, (.lastore, 1)) (List.mem_of_getElem? (i := 20) rfl)
theorem dX12_countFor_110 : decode cX12_countFor 110 = .ok (.iconst 0, 1) := dgX12_countFor_1 (110, (.iconst 0, 1)) (List.mem_of_getElem? (i := 21) rfl)
theorem dX12_countFor_111 : decode cX12_countFor 111 = .ok (.istore 6, 2) := dgX12_countFor_1 (111, (.istore 6, 2)) (List.mem_of_getElem? (i := 22) rfl)
theorem dX12_countFor_113 : decode cX12_countFor 113 = .ok (.iload 6, 2) := dgX12_countFor_1 (113, (.iload 6, 2)) (List.mem_of_getElem? (i := 23) rfl)
theorem dX12_countFor_115 : decode cX12_countFor 115 = .ok (.bipush 32, 2) := dgX12_countFor_1 (115, (.bipush 32, 2)) (List.mem_of_getElem? (i := 24) rfl)
theorem dX12_countFor_117 : decode cX12_countFor 117 = .ok (.if_icmp .ge 40, 3) := dgX12_countFor_1 (117, (.if_icmp .ge 40, 3)) (List.mem_of_getElem? (i := 25) rfl)
theorem dX12_countFor_120 : decode cX12_countFor 120 = .ok (.aload_n 0, 1) := dgX12_countFor_1 (120, (.aload_n 0, 1)) (List.mem_of_getElem? (i := 26) rfl)
theorem dX12_countFor_121 : decode cX12_countFor 121 = .ok (.getfield 92, 3) := dgX12_countFor_1 (121, (.getfield 92, 3)) (List.mem_of_getElem? (i := 27) rfl)
theorem dX12_countFor_124 : decode cX12_countFor 124 = .ok (.bipush 32, 2) := dgX12_countFor_1 (124, (.bipush 32, 2)) (List.mem_of_getElem? (i := 28) rfl)
theorem dX12_countFor_126 : decode cX12_countFor 126 = .ok (.sipush 1472, 3) := dgX12_countFor_1 (126, (.sipush 1472, 3)) (List.mem_of_getElem? (i := 29) rfl)
theorem dX12_countFor_129 : decode cX12_countFor 129 = .ok (.iload 5, 2) := dgX12_countFor_1 (129, (.iload 5, 2)) (List.mem_of_getElem? (i := 30) rfl)
theorem dX12_countFor_131 : decode cX12_countFor 131 = .ok (.iadd, 1) := dgX12_countFor_1 (131, (.iadd, 1)) (List.mem_of_getElem? (i := 31) rfl)
theorem dX12_countFor_132 : decode cX12_countFor 132 = .ok (.imul, 1) := dgX12_countFor_1 (132, (.imul, 1)) (List.mem_of_getElem? (i := 32) rfl)
theorem dX12_countFor_133 : decode cX12_countFor 133 = .ok (.iload 6, 2) := dgX12_countFor_1 (133, (.iload 6, 2)) (List.mem_of_getElem? (i := 33) rfl)
theorem dX12_countFor_135 : decode cX12_countFor 135 = .ok (.iadd, 1) := dgX12_countFor_1 (135, (.iadd, 1)) (List.mem_of_getElem? (i := 34) rfl)
theorem dX12_countFor_136 : decode cX12_countFor 136 = .ok (.iload 6, 2) := dgX12_countFor_1 (136, (.iload 6, 2)) (List.mem_of_getElem? (i := 35) rfl)
theorem dX12_countFor_138 : decode cX12_countFor 138 = .ok (.aload_n 0, 1) := dgX12_countFor_1 (138, (.aload_n 0, 1)) (List.mem_of_getElem? (i := 36) rfl)
theorem dX12_countFor_139 : decode cX12_countFor 139 = .ok (.getfield 422, 3) := dgX12_countFor_1 (139, (.getfield 422, 3)) (List.mem_of_getElem? (i := 37) rfl)
theorem dX12_countFor_142 : decode cX12_countFor 142 = .ok (.if_icmp .ne 7, 3) := dgX12_countFor_1 (142, (.if_icmp .ne 7, 3)) (List.mem_of_getElem? (i := 38) rfl)
theorem dX12_countFor_145 : decode cX12_countFor 145 = .ok (.lconst 1, 1) := dgX12_countFor_1 (145, (.lconst 1, 1)) (List.mem_of_getElem? (i := 39) rfl)
theorem dgX12_countFor_2 : ∀ r ∈ ([(146, (.goto 4, 3)), (149, (.lconst 0, 1)), (150, (.lastore, 1)), (151, (.iinc 6 1, 3)), (154, (.goto (-41), 3)), (157, (.iinc 5 1, 3)), (160, (.goto (-111), 3)), (163, (.iconst 0, 1)), (164, (.istore 5, 2)), (166, (.iload 5, 2)), (168, (.bipush 23, 2)), (170, (.if_icmp .ge 33, 3)), (173, (.iconst 0, 1)), (174, (.istore 6, 2)), (176, (.iload 6, 2)), (178, (.bipush 64, 2)), (180, (.if_icmp .ge 17, 3)), (183, (.aload_n 0, 1)), (184, (.iload 5, 2)), (186, (.iload 6, 2)), (188, (.invokevirtual 431, 3)), (191, (.iinc 6 1, 3)), (194, (.goto (-18), 3)), (197, (.iinc 5 1, 3)), (200, (.goto (-34), 3)), (203, (.bipush 22, 2)), (205, (.istore 5, 2)), (207, (.iload 5, 2)), (209, (.ifCond .lt 33, 3)), (212, (.iconst 0, 1)), (213, (.istore 6, 2)), (215, (.iload 6, 2)), (217, (.bipush 64, 2)), (219, (.if_icmp .ge 17, 3)), (222, (.aload_n 0, 1)), (223, (.iload 5, 2)), (225, (.iload 6, 2)), (227, (.invokevirtual 434, 3)), (230, (.iinc 6 1, 3)), (233, (.goto (-18), 3))] : List (Nat × (Instr × Nat))), decode cX12_countFor r.1 = .ok r.2 := by decide +kernel
theorem dX12_countFor_146 : decode cX12_countFor 146 = .ok (.goto 4, 3) := dgX12_countFor_2 (146, (.goto 4, 3)) (List.mem_of_getElem? (i := 0) rfl)
theorem dX12_countFor_149 : decode cX12_countFor 149 = .ok (.lconst 0, 1) := dgX12_countFor_2 (149, (.lconst 0, 1)) (List.mem_of_getElem? (i := 1) rfl)
theorem dX12_countFor_150 : decode cX12_countFor 150 = .ok (.lastore, 1) := dgX12_countFor_2 (150, (.lastore, 1)) (List.mem_of_getElem? (i := 2) rfl)
theorem dX12_countFor_151 : decode cX12_countFor 151 = .ok (.iinc 6 1, 3) := dgX12_countFor_2 (151, (.iinc 6 1, 3)) (List.mem_of_getElem? (i := 3) rfl)
theorem dX12_countFor_154 : decode cX12_countFor 154 = .ok (.goto (-41), 3) := dgX12_countFor_2 (154, (.goto (-41), 3)) (List.mem_of_getElem? (i := 4) rfl)
theorem dX12_countFor_157 : decode cX12_countFor 157 = .ok (.iinc 5 1, 3) := dgX12_countFor_2 (157, (.iinc 5 1, 3)) (List.mem_of_getElem? (i := 5) rfl)
theorem dX12_countFor_160 : decode cX12_countFor 160 = .ok (.goto (-111), 3) := dgX12_countFor_2 (160, (.goto (-111), 3)) (List.mem_of_getElem? (i := 6) rfl)
theorem dX12_countFor_163 : decode cX12_countFor 163 = .ok (.iconst 0, 1) := dgX12_countFor_2 (163, (.iconst 0, 1)) (List.mem_of_getElem? (i := 7) rfl)
theorem dX12_countFor_164 : decode cX12_countFor 164 = .ok (.istore 5, 2) := dgX12_countFor_2 (164, (.istore 5, 2)) (List.mem_of_getElem? (i := 8) rfl)
theorem dX12_countFor_166 : decode cX12_countFor 166 = .ok (.iload 5, 2) := dgX12_countFor_2 (166, (.iload 5, 2)) (List.mem_of_getElem? (i := 9) rfl)
theorem dX12_countFor_168 : decode cX12_countFor 168 = .ok (.bipush 23, 2) := dgX12_countFor_2 (168, (.bipush 23, 2)) (List.mem_of_getElem? (i := 10) rfl)
theorem dX12_countFor_170 : decode cX12_countFor 170 = .ok (.if_icmp .ge 33, 3) := dgX12_countFor_2 (170, (.if_icmp .ge 33, 3)) (List.mem_of_getElem? (i := 11) rfl)
theorem dX12_countFor_173 : decode cX12_countFor 173 = .ok (.iconst 0, 1) := dgX12_countFor_2 (173, (.iconst 0, 1)) (List.mem_of_getElem? (i := 12) rfl)
theorem dX12_countFor_174 : decode cX12_countFor 174 = .ok (.istore 6, 2) := dgX12_countFor_2 (174, (.istore 6, 2)) (List.mem_of_getElem? (i := 13) rfl)
theorem dX12_countFor_176 : decode cX12_countFor 176 = .ok (.iload 6, 2) := dgX12_countFor_2 (176, (.iload 6, 2)) (List.mem_of_getElem? (i := 14) rfl)
theorem dX12_countFor_178 : decode cX12_countFor 178 = .ok (.bipush 64, 2) := dgX12_countFor_2 (178, (.bipush 64, 2)) (List.mem_of_getElem? (i := 15) rfl)
theorem dX12_countFor_180 : decode cX12_countFor 180 = .ok (.if_icmp .ge 17, 3) := dgX12_countFor_2 (180, (.if_icmp .ge 17, 3)) (List.mem_of_getElem? (i := 16) rfl)
theorem dX12_countFor_183 : decode cX12_countFor 183 = .ok (.aload_n 0, 1) := dgX12_countFor_2 (183, (.aload_n 0, 1)) (List.mem_of_getElem? (i := 17) rfl)
theorem dX12_countFor_184 : decode cX12_countFor 184 = .ok (.iload 5, 2) := dgX12_countFor_2 (184, (.iload 5, 2)) (List.mem_of_getElem? (i := 18) rfl)
theorem dX12_countFor_186 : decode cX12_countFor 186 = .ok (.iload 6, 2) := dgX12_countFor_2 (186, (.iload 6, 2)) (List.mem_of_getElem? (i := 19) rfl)
theorem dX12_countFor_188 : decode cX12_countFor 188 = .ok (.invokevirtual 431, 3) := dgX12_countFor_2 (188, (.invokevirtual 431, 3)) (List.mem_of_getElem? (i := 20) rfl)
theorem dX12_countFor_191 : decode cX12_countFor 191 = .ok (.iinc 6 1, 3) := dgX12_countFor_2 (191, (.iinc 6 1, 3)) (List.mem_of_getElem? (i := 21) rfl)
theorem dX12_countFor_194 : decode cX12_countFor 194 = .ok (.goto (-18), 3) := dgX12_countFor_2 (194, (.goto (-18), 3)) (List.mem_of_getElem? (i := 22) rfl)
theorem dX12_countFor_197 : decode cX12_countFor 197 = .ok (.iinc 5 1, 3) := dgX12_countFor_2 (197, (.iinc 5 1, 3)) (List.mem_of_getElem? (i := 23) rfl)
theorem dX12_countFor_200 : decode cX12_countFor 200 = .ok (.goto (-34), 3) := dgX12_countFor_2 (200, (.goto (-34), 3)) (List.mem_of_getElem? (i := 24) rfl)
theorem dX12_countFor_203 : decode cX12_countFor 203 = .ok (.bipush 22, 2) := dgX12_countFor_2 (203, (.bipush 22, 2)) (List.mem_of_getElem? (i := 25) rfl)
theorem dX12_countFor_205 : decode cX12_countFor 205 = .ok (.istore 5, 2) := dgX12_countFor_2 (205, (.istore 5, 2)) (List.mem_of_getElem? (i := 26) rfl)
theorem dX12_countFor_207 : decode cX12_countFor 207 = .ok (.iload 5, 2) := dgX12_countFor_2 (207, (.iload 5, 2)) (List.mem_of_getElem? (i := 27) rfl)
theorem dX12_countFor_209 : decode cX12_countFor 209 = .ok (.ifCond .lt 33, 3) := dgX12_countFor_2 (209, (.ifCond .lt 33, 3)) (List.mem_of_getElem? (i := 28) rfl)
theorem dX12_countFor_212 : decode cX12_countFor 212 = .ok (.iconst 0, 1) := dgX12_countFor_2 (212, (.iconst 0, 1)) (List.mem_of_getElem? (i := 29) rfl)
theorem dX12_countFor_213 : decode cX12_countFor 213 = .ok (.istore 6, 2) := dgX12_countFor_2 (213, (.istore 6, 2)) (List.mem_of_getElem? (i := 30) rfl)
theorem dX12_countFor_215 : decode cX12_countFor 215 = .ok (.iload 6, 2) := dgX12_countFor_2 (215, (.iload 6, 2)) (List.mem_of_getElem? (i := 31) rfl)
theorem dX12_countFor_217 : decode cX12_countFor 217 = .ok (.bipush 64, 2) := dgX12_countFor_2 (217, (.bipush 64, 2)) (List.mem_of_getElem? (i := 32) rfl)
theorem dX12_countFor_219 : decode cX12_countFor 219 = .ok (.if_icmp .ge 17, 3) := dgX12_countFor_2 (219, (.if_icmp .ge 17, 3)) (List.mem_of_getElem? (i := 33) rfl)
theorem dX12_countFor_222 : decode cX12_countFor 222 = .ok (.aload_n 0, 1) := dgX12_countFor_2 (222, (.aload_n 0, 1)) (List.mem_of_getElem? (i := 34) rfl)
theorem dX12_countFor_223 : decode cX12_countFor 223 = .ok (.iload 5, 2) := dgX12_countFor_2 (223, (.iload 5, 2)) (List.mem_of_getElem? (i := 35) rfl)
theorem dX12_countFor_225 : decode cX12_countFor 225 = .ok (.iload 6, 2) := dgX12_countFor_2 (225, (.iload 6, 2)) (List.mem_of_getElem? (i := 36) rfl)
theorem dX12_countFor_227 : decode cX12_countFor 227 = .ok (.invokevirtual 434, 3) := dgX12_countFor_2 (227, (.invokevirtual 434, 3)) (List.mem_of_getElem? (i := 37) rfl)
theorem dX12_countFor_230 : decode cX12_countFor 230 = .ok (.iinc 6 1, 3) := dgX12_countFor_2 (230, (.iinc 6 1, 3)) (List.mem_of_getElem? (i := 38) rfl)
theorem dX12_countFor_233 : decode cX12_countFor 233 = .ok (.goto (-18), 3) := dgX12_countFor_2 (233, (.goto (-18), 3)) (List.mem_of_getElem? (i := 39) rfl)
theorem dgX12_countFor_3 : ∀ r ∈ ([(236, (.iinc 5 (-1), 3)), (239, (.goto (-32), 3)), (242, (.return_, 1))] : List (Nat × (Instr × Nat))), decode cX12_countFor r.1 = .ok r.2 := by decide +kernel
theorem dX12_countFor_236 : decode cX12_countFor 236 = .ok (.iinc 5 (-1), 3) := dgX12_countFor_3 (236, (.iinc 5 (-1), 3)) (List.mem_of_getElem? (i := 0) rfl)
theorem dX12_countFor_239 : decode cX12_countFor 239 = .ok (.goto (-32), 3) := dgX12_countFor_3 (239, (.goto (-32), 3)) (List.mem_of_getElem? (i := 1) rfl)
theorem dX12_countFor_242 : decode cX12_countFor 242 = .ok (.return_, 1) := dgX12_countFor_3 (242, (.return_, 1)) (List.mem_of_getElem? (i := 2) rfl)
theorem ml_X12_428 : Cond.methodLink RX12 428 yX12_findMeets ∈ tblG := tg 1720 (by decide +kernel) (by decide +kernel)
theorem im_X12_findMeets : Cond.instanceMethod yX12_findMeets ∈ tblG := tg 1722 (by decide +kernel) (by decide +kernel)
theorem se_X12_findMeets : Cond.selects RX12 yX12_findMeets yX12_findMeets ∈ tblG := tg 77 (by decide +kernel) (by decide +kernel)
theorem cd_X12_findMeets : Cond.code yX12_findMeets cX12_findMeets 10 none ∈ tblG := tg 1723 (by decide +kernel) (by decide +kernel)
theorem gW_X12_findMeets : GoodIn tblG (wsG yX12_findMeets cX12_findMeets 10 none) := tgi cd_X12_findMeets
theorem gV_X12_428 : GoodIn tblG (wsV RX12 428 RX12 yX12_findMeets (wsG yX12_findMeets cX12_findMeets 10 none)) := tgV ml_X12_428 im_X12_findMeets se_X12_findMeets ini_X12 gW_X12_findMeets
theorem hv_X12_findMeets : yX12_findMeets.cls = RX12 ∧ yX12_findMeets.cls ≠ "java/lang/invoke/MethodHandle" ∧ yX12_findMeets.cls ≠ "java/lang/invoke/VarHandle" ∧ (parseMethodDescriptor yX12_findMeets.desc).map (fun d => d.parameters.length) = some 4 := by decide +kernel
theorem ki_X12_88 : Cond.constant RX12 88 49152 ∈ tblG := tg 1202 (by decide +kernel) (by decide +kernel)
theorem ml_X12_434 : Cond.methodLink RX12 434 yX12_comesFrom ∈ tblG := tg 1732 (by decide +kernel) (by decide +kernel)
theorem im_X12_comesFrom : Cond.instanceMethod yX12_comesFrom ∈ tblG := tg 1734 (by decide +kernel) (by decide +kernel)
theorem se_X12_comesFrom : Cond.selects RX12 yX12_comesFrom yX12_comesFrom ∈ tblG := tg 80 (by decide +kernel) (by decide +kernel)
theorem cd_X12_comesFrom : Cond.code yX12_comesFrom cX12_comesFrom 6 none ∈ tblG := tg 1735 (by decide +kernel) (by decide +kernel)
theorem gW_X12_comesFrom : GoodIn tblG (wsG yX12_comesFrom cX12_comesFrom 6 none) := tgi cd_X12_comesFrom
theorem gV_X12_434 : GoodIn tblG (wsV RX12 434 RX12 yX12_comesFrom (wsG yX12_comesFrom cX12_comesFrom 6 none)) := tgV ml_X12_434 im_X12_comesFrom se_X12_comesFrom ini_X12 gW_X12_comesFrom
theorem hv_X12_comesFrom : yX12_comesFrom.cls = RX12 ∧ yX12_comesFrom.cls ≠ "java/lang/invoke/MethodHandle" ∧ yX12_comesFrom.cls ≠ "java/lang/invoke/VarHandle" ∧ (parseMethodDescriptor yX12_comesFrom.desc).map (fun d => d.parameters.length) = some 2 := by decide +kernel
theorem ml_X12_431 : Cond.methodLink RX12 431 yX12_goesOn ∈ tblG := tg 1724 (by decide +kernel) (by decide +kernel)
theorem im_X12_goesOn : Cond.instanceMethod yX12_goesOn ∈ tblG := tg 1726 (by decide +kernel) (by decide +kernel)
theorem se_X12_goesOn : Cond.selects RX12 yX12_goesOn yX12_goesOn ∈ tblG := tg 78 (by decide +kernel) (by decide +kernel)
theorem cd_X12_goesOn : Cond.code yX12_goesOn cX12_goesOn 6 none ∈ tblG := tg 1727 (by decide +kernel) (by decide +kernel)
theorem gW_X12_goesOn : GoodIn tblG (wsG yX12_goesOn cX12_goesOn 6 none) := tgi cd_X12_goesOn
theorem gV_X12_431 : GoodIn tblG (wsV RX12 431 RX12 yX12_goesOn (wsG yX12_goesOn cX12_goesOn 6 none)) := tgV ml_X12_431 im_X12_goesOn se_X12_goesOn ini_X12 gW_X12_goesOn
theorem hv_X12_goesOn : yX12_goesOn.cls = RX12 ∧ yX12_goesOn.cls ≠ "java/lang/invoke/MethodHandle" ∧ yX12_goesOn.cls ≠ "java/lang/invoke/VarHandle" ∧ (parseMethodDescriptor yX12_goesOn.desc).map (fun d => d.parameters.length) = some 2 := by decide +kernel
theorem dgX12_countRows_0 : ∀ r ∈ ([(0, (.aload_n 0, 1)), (1, (.getfield 113, 3)), (4, (.ifCond .eq 4, 3)), (7, (.return_, 1)), (8, (.aload_n 0, 1)), (9, (.sipush 1023, 3)), (12, (.iconst 0, 1)), (13, (.iconst (-1), 1)), (14, (.iconst 0, 1)), (15, (.invokevirtual 425, 3)), (18, (.aload_n 0, 1)), (19, (.iconst 1, 1)), (20, (.putfield 113, 3)), (23, (.return_, 1))] : List (Nat × (Instr × Nat))), decode cX12_countRows r.1 = .ok r.2 := by decide +kernel
theorem dX12_countRows_0 : decode cX12_countRows 0 = .ok (.aload_n 0, 1) := dgX12_countRows_0 (0, (.aload_n 0, 1)) (List.mem_of_getElem? (i := 0) rfl)
theorem dX12_countRows_1 : decode cX12_countRows 1 = .ok (.getfield 113, 3) := dgX12_countRows_0 (1, (.getfield 113, 3)) (List.mem_of_getElem? (i := 1) rfl)
theorem dX12_countRows_4 : decode cX12_countRows 4 = .ok (.ifCond .eq 4, 3) := dgX12_countRows_0 (4, (.ifCond .eq 4, 3)) (List.mem_of_getElem? (i := 2) rfl)
theorem dX12_countRows_7 : decode cX12_countRows 7 = .ok (.return_, 1) := dgX12_countRows_0 (7, (.return_, 1)) (List.mem_of_getElem? (i := 3) rfl)
theorem dX12_countRows_8 : decode cX12_countRows 8 = .ok (.aload_n 0, 1) := dgX12_countRows_0 (8, (.aload_n 0, 1)) (List.mem_of_getElem? (i := 4) rfl)
theorem dX12_countRows_9 : decode cX12_countRows 9 = .ok (.sipush 1023, 3) := dgX12_countRows_0 (9, (.sipush 1023, 3)) (List.mem_of_getElem? (i := 5) rfl)
theorem dX12_countRows_12 : decode cX12_countRows 12 = .ok (.iconst 0, 1) := dgX12_countRows_0 (12, (.iconst 0, 1)) (List.mem_of_getElem? (i := 6) rfl)
theorem dX12_countRows_13 : decode cX12_countRows 13 = .ok (.iconst (-1), 1) := dgX12_countRows_0 (13, (.iconst (-1), 1)) (List.mem_of_getElem? (i := 7) rfl)
theorem dX12_countRows_14 : decode cX12_countRows 14 = .ok (.iconst 0, 1) := dgX12_countRows_0 (14, (.iconst 0, 1)) (List.mem_of_getElem? (i := 8) rfl)
theorem dX12_countRows_15 : decode cX12_countRows 15 = .ok (.invokevirtual 425, 3) := dgX12_countRows_0 (15, (.invokevirtual 425, 3)) (List.mem_of_getElem? (i := 9) rfl)
theorem dX12_countRows_18 : decode cX12_countRows 18 = .ok (.aload_n 0, 1) := dgX12_countRows_0 (18, (.aload_n 0, 1)) (List.mem_of_getElem? (i := 10) rfl)
theorem dX12_countRows_19 : decode cX12_countRows 19 = .ok (.iconst 1, 1) := dgX12_countRows_0 (19, (.iconst 1, 1)) (List.mem_of_getElem? (i := 11) rfl)
theorem dX12_countRows_20 : decode cX12_countRows 20 = .ok (.putfield 113, 3) := dgX12_countRows_0 (20, (.putfield 113, 3)) (List.mem_of_getElem? (i := 12) rfl)
theorem dX12_countRows_23 : decode cX12_countRows 23 = .ok (.return_, 1) := dgX12_countRows_0 (23, (.return_, 1)) (List.mem_of_getElem? (i := 13) rfl)
theorem ml_X12_425 : Cond.methodLink RX12 425 yX12_countFor ∈ tblG := tg 1716 (by decide +kernel) (by decide +kernel)
theorem im_X12_countFor : Cond.instanceMethod yX12_countFor ∈ tblG := tg 1718 (by decide +kernel) (by decide +kernel)
theorem se_X12_countFor : Cond.selects RX12 yX12_countFor yX12_countFor ∈ tblG := tg 76 (by decide +kernel) (by decide +kernel)
theorem cd_X12_countFor : Cond.code yX12_countFor cX12_countFor 7 none ∈ tblG := tg 1719 (by decide +kernel) (by decide +kernel)
theorem gW_X12_countFor : GoodIn tblG (wsG yX12_countFor cX12_countFor 7 none) := tgi cd_X12_countFor
theorem gV_X12_425 : GoodIn tblG (wsV RX12 425 RX12 yX12_countFor (wsG yX12_countFor cX12_countFor 7 none)) := tgV ml_X12_425 im_X12_countFor se_X12_countFor ini_X12 gW_X12_countFor
theorem hv_X12_countFor : yX12_countFor.cls = RX12 ∧ yX12_countFor.cls ≠ "java/lang/invoke/MethodHandle" ∧ yX12_countFor.cls ≠ "java/lang/invoke/VarHandle" ∧ (parseMethodDescriptor yX12_countFor.desc).map (fun d => d.parameters.length) = some 4 := by decide +kernel
theorem dgX12_fits__0 : ∀ r ∈ ([(0, (.aload_n 0, 1)), (1, (.iconst 0, 1)), (2, (.putfield 107, 3)), (5, (.aload_n 0, 1)), (6, (.invokevirtual 444, 3)), (9, (.aload_n 0, 1)), (10, (.invokevirtual 447, 3)), (13, (.lreturn, 1))] : List (Nat × (Instr × Nat))), decode cX12_fits_ r.1 = .ok r.2 := by decide +kernel
theorem dX12_fits__0 : decode cX12_fits_ 0 = .ok (.aload_n 0, 1) := dgX12_fits__0 (0, (.aload_n 0, 1)) (List.mem_of_getElem? (i := 0) rfl)
theorem dX12_fits__1 : decode cX12_fits_ 1 = .ok (.iconst 0, 1) := dgX12_fits__0 (1, (.iconst 0, 1)) (List.mem_of_getElem? (i := 1) rfl)
theorem dX12_fits__2 : decode cX12_fits_ 2 = .ok (.putfield 107, 3) := dgX12_fits__0 (2, (.putfield 107, 3)) (List.mem_of_getElem? (i := 2) rfl)
theorem dX12_fits__5 : decode cX12_fits_ 5 = .ok (.aload_n 0, 1) := dgX12_fits__0 (5, (.aload_n 0, 1)) (List.mem_of_getElem? (i := 3) rfl)
theorem dX12_fits__6 : decode cX12_fits_ 6 = .ok (.invokevirtual 444, 3) := dgX12_fits__0 (6, (.invokevirtual 444, 3)) (List.mem_of_getElem? (i := 4) rfl)
theorem dX12_fits__9 : decode cX12_fits_ 9 = .ok (.aload_n 0, 1) := dgX12_fits__0 (9, (.aload_n 0, 1)) (List.mem_of_getElem? (i := 5) rfl)
theorem dX12_fits__10 : decode cX12_fits_ 10 = .ok (.invokevirtual 447, 3) := dgX12_fits__0 (10, (.invokevirtual 447, 3)) (List.mem_of_getElem? (i := 6) rfl)
theorem dX12_fits__13 : decode cX12_fits_ 13 = .ok (.lreturn, 1) := dgX12_fits__0 (13, (.lreturn, 1)) (List.mem_of_getElem? (i := 7) rfl)
theorem ml_X12_444 : Cond.methodLink RX12 444 yX12_countRows ∈ tblG := tg 1712 (by decide +kernel) (by decide +kernel)
theorem im_X12_countRows : Cond.instanceMethod yX12_countRows ∈ tblG := tg 1714 (by decide +kernel) (by decide +kernel)
theorem se_X12_countRows : Cond.selects RX12 yX12_countRows yX12_countRows ∈ tblG := tg 75 (by decide +kernel) (by decide +kernel)
theorem cd_X12_countRows : Cond.code yX12_countRows cX12_countRows 1 none ∈ tblG := tg 1715 (by decide +kernel) (by decide +kernel)
theorem gW_X12_countRows : GoodIn tblG (wsG yX12_countRows cX12_countRows 1 none) := tgi cd_X12_countRows
theorem gV_X12_444 : GoodIn tblG (wsV RX12 444 RX12 yX12_countRows (wsG yX12_countRows cX12_countRows 1 none)) := tgV ml_X12_444 im_X12_countRows se_X12_countRows ini_X12 gW_X12_countRows
theorem hv_X12_countRows : yX12_countRows.cls = RX12 ∧ yX12_countRows.cls ≠ "java/lang/invoke/MethodHandle" ∧ yX12_countRows.cls ≠ "java/lang/invoke/VarHandle" ∧ (parseMethodDescriptor yX12_countRows.desc).map (fun d => d.parameters.length) = some 0 := by decide +kernel
theorem ml_X12_447 : Cond.methodLink RX12 447 yX12_allRows ∈ tblG := tg 1736 (by decide +kernel) (by decide +kernel)
theorem im_X12_allRows : Cond.instanceMethod yX12_allRows ∈ tblG := tg 1738 (by decide +kernel) (by decide +kernel)
theorem se_X12_allRows : Cond.selects RX12 yX12_allRows yX12_allRows ∈ tblG := tg 81 (by decide +kernel) (by decide +kernel)
theorem cd_X12_allRows : Cond.code yX12_allRows cX12_allRows 4 (some .long) ∈ tblG := tg 1739 (by decide +kernel) (by decide +kernel)
theorem gW_X12_allRows : GoodIn tblG (wsG yX12_allRows cX12_allRows 4 (some .long)) := tgi cd_X12_allRows
theorem gV_X12_447 : GoodIn tblG (wsV RX12 447 RX12 yX12_allRows (wsG yX12_allRows cX12_allRows 4 (some .long))) := tgV ml_X12_447 im_X12_allRows se_X12_allRows ini_X12 gW_X12_allRows
theorem hv_X12_allRows : yX12_allRows.cls = RX12 ∧ yX12_allRows.cls ≠ "java/lang/invoke/MethodHandle" ∧ yX12_allRows.cls ≠ "java/lang/invoke/VarHandle" ∧ (parseMethodDescriptor yX12_allRows.desc).map (fun d => d.parameters.length) = some 0 := by decide +kernel
theorem dgX12_canFit_0 : ∀ r ∈ ([(0, (.aload_n 0, 1)), (1, (.iload_n 1, 1)), (2, (.iconst 0, 1)), (3, (.iconst (-1), 1)), (4, (.iconst 0, 1)), (5, (.invokevirtual 425, 3)), (8, (.aload_n 0, 1)), (9, (.invokevirtual 447, 3)), (12, (.lconst 0, 1)), (13, (.lcmp, 1)), (14, (.ifCond .le 7, 3)), (17, (.iconst 1, 1)), (18, (.goto 4, 3)), (21, (.iconst 0, 1)), (22, (.ireturn, 1))] : List (Nat × (Instr × Nat))), decode cX12_canFit r.1 = .ok r.2 := by decide +kernel
theorem dX12_canFit_0 : decode cX12_canFit 0 = .ok (.aload_n 0, 1) := dgX12_canFit_0 (0, (.aload_n 0, 1)) (List.mem_of_getElem? (i := 0) rfl)
theorem dX12_canFit_1 : decode cX12_canFit 1 = .ok (.iload_n 1, 1) := dgX12_canFit_0 (1, (.iload_n 1, 1)) (List.mem_of_getElem? (i := 1) rfl)
theorem dX12_canFit_2 : decode cX12_canFit 2 = .ok (.iconst 0, 1) := dgX12_canFit_0 (2, (.iconst 0, 1)) (List.mem_of_getElem? (i := 2) rfl)
theorem dX12_canFit_3 : decode cX12_canFit 3 = .ok (.iconst (-1), 1) := dgX12_canFit_0 (3, (.iconst (-1), 1)) (List.mem_of_getElem? (i := 3) rfl)
theorem dX12_canFit_4 : decode cX12_canFit 4 = .ok (.iconst 0, 1) := dgX12_canFit_0 (4, (.iconst 0, 1)) (List.mem_of_getElem? (i := 4) rfl)
theorem dX12_canFit_5 : decode cX12_canFit 5 = .ok (.invokevirtual 425, 3) := dgX12_canFit_0 (5, (.invokevirtual 425, 3)) (List.mem_of_getElem? (i := 5) rfl)
theorem dX12_canFit_8 : decode cX12_canFit 8 = .ok (.aload_n 0, 1) := dgX12_canFit_0 (8, (.aload_n 0, 1)) (List.mem_of_getElem? (i := 6) rfl)
theorem dX12_canFit_9 : decode cX12_canFit 9 = .ok (.invokevirtual 447, 3) := dgX12_canFit_0 (9, (.invokevirtual 447, 3)) (List.mem_of_getElem? (i := 7) rfl)
theorem dX12_canFit_12 : decode cX12_canFit 12 = .ok (.lconst 0, 1) := dgX12_canFit_0 (12, (.lconst 0, 1)) (List.mem_of_getElem? (i := 8) rfl)
theorem dX12_canFit_13 : decode cX12_canFit 13 = .ok (.lcmp, 1) := dgX12_canFit_0 (13, (.lcmp, 1)) (List.mem_of_getElem? (i := 9) rfl)
theorem dX12_canFit_14 : decode cX12_canFit 14 = .ok (.ifCond .le 7, 3) := dgX12_canFit_0 (14, (.ifCond .le 7, 3)) (List.mem_of_getElem? (i := 10) rfl)
theorem dX12_canFit_17 : decode cX12_canFit 17 = .ok (.iconst 1, 1) := dgX12_canFit_0 (17, (.iconst 1, 1)) (List.mem_of_getElem? (i := 11) rfl)
theorem dX12_canFit_18 : decode cX12_canFit 18 = .ok (.goto 4, 3) := dgX12_canFit_0 (18, (.goto 4, 3)) (List.mem_of_getElem? (i := 12) rfl)
theorem dX12_canFit_21 : decode cX12_canFit 21 = .ok (.iconst 0, 1) := dgX12_canFit_0 (21, (.iconst 0, 1)) (List.mem_of_getElem? (i := 13) rfl)
theorem dX12_canFit_22 : decode cX12_canFit 22 = .ok (.ireturn, 1) := dgX12_canFit_0 (22, (.ireturn, 1)) (List.mem_of_getElem? (i := 14) rfl)
theorem dgX12_core_0 : ∀ r ∈ ([(0, (.aload_n 0, 1)), (1, (.iconst 0, 1)), (2, (.putfield 107, 3)), (5, (.iconst 1, 1)), (6, (.aload_n 0, 1)), (7, (.getfield 13, 3)), (10, (.iconst 5, 1)), (11, (.iaload, 1)), (12, (.ishl, 1)), (13, (.iconst 1, 1)), (14, (.isub, 1)), (15, (.istore_n 1, 1)), (16, (.aload_n 0, 1)), (17, (.iload_n 1, 1)), (18, (.invokevirtual 451, 3)), (21, (.ifCond .eq 5, 3)), (24, (.iconst 0, 1)), (25, (.ireturn, 1)), (26, (.aload_n 0, 1)), (27, (.iconst 0, 1)), (28, (.invokevirtual 451, 3)), (31, (.ifCond .ne 5, 3)), (34, (.iconst (-1), 1)), (35, (.ireturn, 1)), (36, (.iconst 0, 1)), (37, (.istore_n 2, 1)), (38, (.iload_n 2, 1)), (39, (.aload_n 0, 1)), (40, (.getfield 13, 3)), (43, (.iconst 5, 1)), (44, (.iaload, 1)), (45, (.if_icmp .ge 35, 3)), (48, (.aload_n 0, 1)), (49, (.iload_n 1, 1)), (50, (.iconst 1, 1)), (51, (.iload_n 2, 1)), (52, (.ishl, 1)), (53, (.iconst (-1), 1)), (54, (.ixor, 1)), (55, (.iand, 1))] : List (Nat × (Instr × Nat))), decode cX12_core r.1 = .ok r.2 := by decide +kernel
theorem dX12_core_0 : decode cX12_core 0 = .ok (.aload_n 0, 1) := dgX12_core_0 (0, (.aload_n 0, 1)) (List.mem_of_getElem? (i := 0) rfl)
theorem dX12_core_1 : decode cX12_core 1 = .ok (.iconst 0, 1) := dgX12_core_0 (1, (.iconst 0, 1)) (List.mem_of_getElem? (i := 1) rfl)
theorem dX12_core_2 : decode cX12_core 2 = .ok (.putfield 107, 3) := dgX12_core_0 (2, (.putfield 107, 3)) (List.mem_of_getElem? (i := 2) rfl)
theorem dX12_core_5 : decode cX12_core 5 = .ok (.iconst 1, 1) := dgX12_core_0 (5, (.iconst 1, 1)) (List.mem_of_getElem? (i := 3) rfl)
theorem dX12_core_6 : decode cX12_core 6 = .ok (.aload_n 0, 1) := dgX12_core_0 (6, (.aload_n 0, 1)) (List.mem_of_getElem? (i := 4) rfl)
theorem dX12_core_7 : decode cX12_core 7 = .ok (.getfield 13, 3) := dgX12_core_0 (7, (.getfield 13, 3)) (List.mem_of_getElem? (i := 5) rfl)
theorem dX12_core_10 : decode cX12_core 10 = .ok (.iconst 5, 1) := dgX12_core_0 (10, (.iconst 5, 1)) (List.mem_of_getElem? (i := 6) rfl)
theorem dX12_core_11 : decode cX12_core 11 = .ok (.iaload, 1) := dgX12_core_0 (11, (.iaload, 1)) (List.mem_of_getElem? (i := 7) rfl)
theorem dX12_core_12 : decode cX12_core 12 = .ok (.ishl, 1) := dgX12_core_0 (12, (.ishl, 1)) (List.mem_of_getElem? (i := 8) rfl)
theorem dX12_core_13 : decode cX12_core 13 = .ok (.iconst 1, 1) := dgX12_core_0 (13, (.iconst 1, 1)) (List.mem_of_getElem? (i := 9) rfl)
theorem dX12_core_14 : decode cX12_core 14 = .ok (.isub, 1) := dgX12_core_0 (14, (.isub, 1)) (List.mem_of_getElem? (i := 10) rfl)
theorem dX12_core_15 : decode cX12_core 15 = .ok (.istore_n 1, 1) := dgX12_core_0 (15, (.istore_n 1, 1)) (List.mem_of_getElem? (i := 11) rfl)
theorem dX12_core_16 : decode cX12_core 16 = .ok (.aload_n 0, 1) := dgX12_core_0 (16, (.aload_n 0, 1)) (List.mem_of_getElem? (i := 12) rfl)
theorem dX12_core_17 : decode cX12_core 17 = .ok (.iload_n 1, 1) := dgX12_core_0 (17, (.iload_n 1, 1)) (List.mem_of_getElem? (i := 13) rfl)
theorem dX12_core_18 : decode cX12_core 18 = .ok (.invokevirtual 451, 3) := dgX12_core_0 (18, (.invokevirtual 451, 3)) (List.mem_of_getElem? (i := 14) rfl)
theorem dX12_core_21 : decode cX12_core 21 = .ok (.ifCond .eq 5, 3) := dgX12_core_0 (21, (.ifCond .eq 5, 3)) (List.mem_of_getElem? (i := 15) rfl)
theorem dX12_core_24 : decode cX12_core 24 = .ok (.iconst 0, 1) := dgX12_core_0 (24, (.iconst 0, 1)) (List.mem_of_getElem? (i := 16) rfl)
theorem dX12_core_25 : decode cX12_core 25 = .ok (.ireturn, 1) := dgX12_core_0 (25, (.ireturn, 1)) (List.mem_of_getElem? (i := 17) rfl)
theorem dX12_core_26 : decode cX12_core 26 = .ok (.aload_n 0, 1) := dgX12_core_0 (26, (.aload_n 0, 1)) (List.mem_of_getElem? (i := 18) rfl)
theorem dX12_core_27 : decode cX12_core 27 = .ok (.iconst 0, 1) := dgX12_core_0 (27, (.iconst 0, 1)) (List.mem_of_getElem? (i := 19) rfl)
theorem dX12_core_28 : decode cX12_core 28 = .ok (.invokevirtual 451, 3) := dgX12_core_0 (28, (.invokevirtual 451, 3)) (List.mem_of_getElem? (i := 20) rfl)
theorem dX12_core_31 : decode cX12_core 31 = .ok (.ifCond .ne 5, 3) := dgX12_core_0 (31, (.ifCond .ne 5, 3)) (List.mem_of_getElem? (i := 21) rfl)
theorem dX12_core_34 : decode cX12_core 34 = .ok (.iconst (-1), 1) := dgX12_core_0 (34, (.iconst (-1), 1)) (List.mem_of_getElem? (i := 22) rfl)
theorem dX12_core_35 : decode cX12_core 35 = .ok (.ireturn, 1) := dgX12_core_0 (35, (.ireturn, 1)) (List.mem_of_getElem? (i := 23) rfl)
theorem dX12_core_36 : decode cX12_core 36 = .ok (.iconst 0, 1) := dgX12_core_0 (36, (.iconst 0, 1)) (List.mem_of_getElem? (i := 24) rfl)
theorem dX12_core_37 : decode cX12_core 37 = .ok (.istore_n 2, 1) := dgX12_core_0 (37, (.istore_n 2, 1)) (List.mem_of_getElem? (i := 25) rfl)
theorem dX12_core_38 : decode cX12_core 38 = .ok (.iload_n 2, 1) := dgX12_core_0 (38, (.iload_n 2, 1)) (List.mem_of_getElem? (i := 26) rfl)
theorem dX12_core_39 : decode cX12_core 39 = .ok (.aload_n 0, 1) := dgX12_core_0 (39, (.aload_n 0, 1)) (List.mem_of_getElem? (i := 27) rfl)
theorem dX12_core_40 : decode cX12_core 40 = .ok (.getfield 13, 3) := dgX12_core_0 (40, (.getfield 13, 3)) (List.mem_of_getElem? (i := 28) rfl)
theorem dX12_core_43 : decode cX12_core 43 = .ok (.iconst 5, 1) := dgX12_core_0 (43, (.iconst 5, 1)) (List.mem_of_getElem? (i := 29) rfl)
theorem dX12_core_44 : decode cX12_core 44 = .ok (.iaload, 1) := dgX12_core_0 (44, (.iaload, 1)) (List.mem_of_getElem? (i := 30) rfl)
theorem dX12_core_45 : decode cX12_core 45 = .ok (.if_icmp .ge 35, 3) := dgX12_core_0 (45, (.if_icmp .ge 35, 3)) (List.mem_of_getElem? (i := 31) rfl)
theorem dX12_core_48 : decode cX12_core 48 = .ok (.aload_n 0, 1) := dgX12_core_0 (48, (.aload_n 0, 1)) (List.mem_of_getElem? (i := 32) rfl)
theorem dX12_core_49 : decode cX12_core 49 = .ok (.iload_n 1, 1) := dgX12_core_0 (49, (.iload_n 1, 1)) (List.mem_of_getElem? (i := 33) rfl)
theorem dX12_core_50 : decode cX12_core 50 = .ok (.iconst 1, 1) := dgX12_core_0 (50, (.iconst 1, 1)) (List.mem_of_getElem? (i := 34) rfl)
theorem dX12_core_51 : decode cX12_core 51 = .ok (.iload_n 2, 1) := dgX12_core_0 (51, (.iload_n 2, 1)) (List.mem_of_getElem? (i := 35) rfl)
theorem dX12_core_52 : decode cX12_core 52 = .ok (.ishl, 1) := dgX12_core_0 (52, (.ishl, 1)) (List.mem_of_getElem? (i := 36) rfl)
theorem dX12_core_53 : decode cX12_core 53 = .ok (.iconst (-1), 1) := dgX12_core_0 (53, (.iconst (-1), 1)) (List.mem_of_getElem? (i := 37) rfl)
theorem dX12_core_54 : decode cX12_core 54 = .ok (.ixor, 1) := dgX12_core_0 (54, (.ixor, 1)) (List.mem_of_getElem? (i := 38) rfl)
theorem dX12_core_55 : decode cX12_core 55 = .ok (.iand, 1) := dgX12_core_0 (55, (.iand, 1)) (List.mem_of_getElem? (i := 39) rfl)
theorem dgX12_core_1 : ∀ r ∈ ([(56, (.invokevirtual 451, 3)), (59, (.ifCond .eq 7, 3)), (62, (.iload_n 1, 1)), (63, (.goto 10, 3)), (66, (.iload_n 1, 1)), (67, (.iconst 1, 1)), (68, (.iload_n 2, 1)), (69, (.ishl, 1)), (70, (.iconst (-1), 1)), (71, (.ixor, 1)), (72, (.iand, 1)), (73, (.istore_n 1, 1)), (74, (.iinc 2 1, 3)), (77, (.goto (-39), 3)), (80, (.iload_n 1, 1)), (81, (.ireturn, 1))] : List (Nat × (Instr × Nat))), decode cX12_core r.1 = .ok r.2 := by decide +kernel
theorem dX12_core_56 : decode cX12_core 56 = .ok (.invokevirtual 451, 3) := dgX12_core_1 (56, (.invokevirtual 451, 3)) (List.mem_of_getElem? (i := 0) rfl)
theorem dX12_core_59 : decode cX12_core 59 = .ok (.ifCond .eq 7, 3) := dgX12_core_1 (59, (.ifCond .eq 7, 3)) (List.mem_of_getElem? (i := 1) rfl)
theorem dX12_core_62 : decode cX12_core 62 = .ok (.iload_n 1, 1) := dgX12_core_1 (62, (.iload_n 1, 1)) (List.mem_of_getElem? (i := 2) rfl)
theorem dX12_core_63 : decode cX12_core 63 = .ok (.goto 10, 3) := dgX12_core_1 (63, (.goto 10, 3)) (List.mem_of_getElem? (i := 3) rfl)
theorem dX12_core_66 : decode cX12_core 66 = .ok (.iload_n 1, 1) := dgX12_core_1 (66, (.iload_n 1, 1)) (List.mem_of_getElem? (i := 4) rfl)
theorem dX12_core_67 : decode cX12_core 67 = .ok (.iconst 1, 1) := dgX12_core_1 (67, (.iconst 1, 1)) (List.mem_of_getElem? (i := 5) rfl)
theorem dX12_core_68 : decode cX12_core 68 = .ok (.iload_n 2, 1) := dgX12_core_1 (68, (.iload_n 2, 1)) (List.mem_of_getElem? (i := 6) rfl)
theorem dX12_core_69 : decode cX12_core 69 = .ok (.ishl, 1) := dgX12_core_1 (69, (.ishl, 1)) (List.mem_of_getElem? (i := 7) rfl)
theorem dX12_core_70 : decode cX12_core 70 = .ok (.iconst (-1), 1) := dgX12_core_1 (70, (.iconst (-1), 1)) (List.mem_of_getElem? (i := 8) rfl)
theorem dX12_core_71 : decode cX12_core 71 = .ok (.ixor, 1) := dgX12_core_1 (71, (.ixor, 1)) (List.mem_of_getElem? (i := 9) rfl)
theorem dX12_core_72 : decode cX12_core 72 = .ok (.iand, 1) := dgX12_core_1 (72, (.iand, 1)) (List.mem_of_getElem? (i := 10) rfl)
theorem dX12_core_73 : decode cX12_core 73 = .ok (.istore_n 1, 1) := dgX12_core_1 (73, (.istore_n 1, 1)) (List.mem_of_getElem? (i := 11) rfl)
theorem dX12_core_74 : decode cX12_core 74 = .ok (.iinc 2 1, 3) := dgX12_core_1 (74, (.iinc 2 1, 3)) (List.mem_of_getElem? (i := 12) rfl)
theorem dX12_core_77 : decode cX12_core 77 = .ok (.goto (-39), 3) := dgX12_core_1 (77, (.goto (-39), 3)) (List.mem_of_getElem? (i := 13) rfl)
theorem dX12_core_80 : decode cX12_core 80 = .ok (.iload_n 1, 1) := dgX12_core_1 (80, (.iload_n 1, 1)) (List.mem_of_getElem? (i := 14) rfl)
theorem dX12_core_81 : decode cX12_core 81 = .ok (.ireturn, 1) := dgX12_core_1 (81, (.ireturn, 1)) (List.mem_of_getElem? (i := 15) rfl)
theorem ml_X12_451 : Cond.methodLink RX12 451 yX12_canFit ∈ tblG := tg 1748 (by decide +kernel) (by decide +kernel)
theorem im_X12_canFit : Cond.instanceMethod yX12_canFit ∈ tblG := tg 1750 (by decide +kernel) (by decide +kernel)
theorem se_X12_canFit : Cond.selects RX12 yX12_canFit yX12_canFit ∈ tblG := tg 83 (by decide +kernel) (by decide +kernel)
theorem cd_X12_canFit : Cond.code yX12_canFit cX12_canFit 2 (some .boolean) ∈ tblG := tg 1751 (by decide +kernel) (by decide +kernel)
theorem gW_X12_canFit : GoodIn tblG (wsG yX12_canFit cX12_canFit 2 (some .boolean)) := tgi cd_X12_canFit
theorem gV_X12_451 : GoodIn tblG (wsV RX12 451 RX12 yX12_canFit (wsG yX12_canFit cX12_canFit 2 (some .boolean))) := tgV ml_X12_451 im_X12_canFit se_X12_canFit ini_X12 gW_X12_canFit
theorem hv_X12_canFit : yX12_canFit.cls = RX12 ∧ yX12_canFit.cls ≠ "java/lang/invoke/MethodHandle" ∧ yX12_canFit.cls ≠ "java/lang/invoke/VarHandle" ∧ (parseMethodDescriptor yX12_canFit.desc).map (fun d => d.parameters.length) = some 1 := by decide +kernel
theorem dgX12_tells_0 : ∀ r ∈ ([(0, (.aload_n 0, 1)), (1, (.iconst 0, 1)), (2, (.putfield 107, 3)), (5, (.iload_n 1, 1)), (6, (.iload_n 2, 1)), (7, (.iload_n 3, 1)), (8, (.invokestatic 397, 3)), (11, (.ifCond .ne 7, 3)), (14, (.ldc2_w 178, 3)), (17, (.lreturn, 1)), (18, (.aload_n 0, 1)), (19, (.sipush 1023, 3)), (22, (.iload_n 1, 1)), (23, (.iload_n 2, 1)), (24, (.iload_n 3, 1)), (25, (.invokevirtual 425, 3)), (28, (.aload_n 0, 1)), (29, (.invokevirtual 447, 3)), (32, (.lstore 4, 2)), (34, (.aload_n 0, 1)), (35, (.invokevirtual 444, 3)), (38, (.aload_n 0, 1)), (39, (.invokevirtual 447, 3)), (42, (.lload 4, 2)), (44, (.lsub, 1)), (45, (.lreturn, 1))] : List (Nat × (Instr × Nat))), decode cX12_tells r.1 = .ok r.2 := by decide +kernel
theorem dX12_tells_0 : decode cX12_tells 0 = .ok (.aload_n 0, 1) := dgX12_tells_0 (0, (.aload_n 0, 1)) (List.mem_of_getElem? (i := 0) rfl)
theorem dX12_tells_1 : decode cX12_tells 1 = .ok (.iconst 0, 1) := dgX12_tells_0 (1, (.iconst 0, 1)) (List.mem_of_getElem? (i := 1) rfl)
theorem dX12_tells_2 : decode cX12_tells 2 = .ok (.putfield 107, 3) := dgX12_tells_0 (2, (.putfield 107, 3)) (List.mem_of_getElem? (i := 2) rfl)
theorem dX12_tells_5 : decode cX12_tells 5 = .ok (.iload_n 1, 1) := dgX12_tells_0 (5, (.iload_n 1, 1)) (List.mem_of_getElem? (i := 3) rfl)
theorem dX12_tells_6 : decode cX12_tells 6 = .ok (.iload_n 2, 1) := dgX12_tells_0 (6, (.iload_n 2, 1)) (List.mem_of_getElem? (i := 4) rfl)
theorem dX12_tells_7 : decode cX12_tells 7 = .ok (.iload_n 3, 1) := dgX12_tells_0 (7, (.iload_n 3, 1)) (List.mem_of_getElem? (i := 5) rfl)
theorem dX12_tells_8 : decode cX12_tells 8 = .ok (.invokestatic 397, 3) := dgX12_tells_0 (8, (.invokestatic 397, 3)) (List.mem_of_getElem? (i := 6) rfl)
theorem dX12_tells_11 : decode cX12_tells 11 = .ok (.ifCond .ne 7, 3) := dgX12_tells_0 (11, (.ifCond .ne 7, 3)) (List.mem_of_getElem? (i := 7) rfl)
theorem dX12_tells_14 : decode cX12_tells 14 = .ok (.ldc2_w 178, 3) := dgX12_tells_0 (14, (.ldc2_w 178, 3)) (List.mem_of_getElem? (i := 8) rfl)
theorem dX12_tells_17 : decode cX12_tells 17 = .ok (.lreturn, 1) := dgX12_tells_0 (17, (.lreturn, 1)) (List.mem_of_getElem? (i := 9) rfl)
theorem dX12_tells_18 : decode cX12_tells 18 = .ok (.aload_n 0, 1) := dgX12_tells_0 (18, (.aload_n 0, 1)) (List.mem_of_getElem? (i := 10) rfl)
theorem dX12_tells_19 : decode cX12_tells 19 = .ok (.sipush 1023, 3) := dgX12_tells_0 (19, (.sipush 1023, 3)) (List.mem_of_getElem? (i := 11) rfl)
theorem dX12_tells_22 : decode cX12_tells 22 = .ok (.iload_n 1, 1) := dgX12_tells_0 (22, (.iload_n 1, 1)) (List.mem_of_getElem? (i := 12) rfl)
theorem dX12_tells_23 : decode cX12_tells 23 = .ok (.iload_n 2, 1) := dgX12_tells_0 (23, (.iload_n 2, 1)) (List.mem_of_getElem? (i := 13) rfl)
theorem dX12_tells_24 : decode cX12_tells 24 = .ok (.iload_n 3, 1) := dgX12_tells_0 (24, (.iload_n 3, 1)) (List.mem_of_getElem? (i := 14) rfl)
theorem dX12_tells_25 : decode cX12_tells 25 = .ok (.invokevirtual 425, 3) := dgX12_tells_0 (25, (.invokevirtual 425, 3)) (List.mem_of_getElem? (i := 15) rfl)
theorem dX12_tells_28 : decode cX12_tells 28 = .ok (.aload_n 0, 1) := dgX12_tells_0 (28, (.aload_n 0, 1)) (List.mem_of_getElem? (i := 16) rfl)
theorem dX12_tells_29 : decode cX12_tells 29 = .ok (.invokevirtual 447, 3) := dgX12_tells_0 (29, (.invokevirtual 447, 3)) (List.mem_of_getElem? (i := 17) rfl)
theorem dX12_tells_32 : decode cX12_tells 32 = .ok (.lstore 4, 2) := dgX12_tells_0 (32, (.lstore 4, 2)) (List.mem_of_getElem? (i := 18) rfl)
theorem dX12_tells_34 : decode cX12_tells 34 = .ok (.aload_n 0, 1) := dgX12_tells_0 (34, (.aload_n 0, 1)) (List.mem_of_getElem? (i := 19) rfl)
theorem dX12_tells_35 : decode cX12_tells 35 = .ok (.invokevirtual 444, 3) := dgX12_tells_0 (35, (.invokevirtual 444, 3)) (List.mem_of_getElem? (i := 20) rfl)
theorem dX12_tells_38 : decode cX12_tells 38 = .ok (.aload_n 0, 1) := dgX12_tells_0 (38, (.aload_n 0, 1)) (List.mem_of_getElem? (i := 21) rfl)
theorem dX12_tells_39 : decode cX12_tells 39 = .ok (.invokevirtual 447, 3) := dgX12_tells_0 (39, (.invokevirtual 447, 3)) (List.mem_of_getElem? (i := 22) rfl)
theorem dX12_tells_42 : decode cX12_tells 42 = .ok (.lload 4, 2) := dgX12_tells_0 (42, (.lload 4, 2)) (List.mem_of_getElem? (i := 23) rfl)
theorem dX12_tells_44 : decode cX12_tells 44 = .ok (.lsub, 1) := dgX12_tells_0 (44, (.lsub, 1)) (List.mem_of_getElem? (i := 24) rfl)
theorem dX12_tells_45 : decode cX12_tells 45 = .ok (.lreturn, 1) := dgX12_tells_0 (45, (.lreturn, 1)) (List.mem_of_getElem? (i := 25) rfl)
theorem dgX12_surely_0 : ∀ r ∈ ([(0, (.aload_n 0, 1)), (1, (.iconst 0, 1)), (2, (.putfield 107, 3)), (5, (.iload_n 1, 1)), (6, (.invokestatic 175, 3)), (9, (.ifCond .ne 5, 3)), (12, (.iconst (-1), 1)), (13, (.ireturn, 1)), (14, (.aload_n 0, 1)), (15, (.invokevirtual 444, 3)), (18, (.iconst (-1), 1)), (19, (.istore_n 2, 1)), (20, (.iconst 0, 1)), (21, (.istore_n 3, 1)), (22, (.iconst 0, 1)), (23, (.istore 4, 2)), (25, (.iload 4, 2)), (27, (.bipush 64, 2)), (29, (.if_icmp .ge 48, 3)), (32, (.aload_n 0, 1)), (33, (.iload_n 1, 1)), (34, (.iload 4, 2)), (36, (.invokevirtual 440, 3)), (39, (.lconst 0, 1)), (40, (.lcmp, 1)), (41, (.ifCond .le 8, 3)), (44, (.iload 4, 2)), (46, (.goto 4, 3)), (49, (.iload_n 2, 1)), (50, (.istore_n 2, 1)), (51, (.iload_n 3, 1)), (52, (.aload_n 0, 1)), (53, (.iload_n 1, 1)), (54, (.iload 4, 2)), (56, (.invokevirtual 440, 3)), (59, (.lconst 0, 1)), (60, (.lcmp, 1)), (61, (.ifCond .le 7, 3)), (64, (.iconst 1, 1)), (65, (.goto 4, 3))] : List (Nat × (Instr × Nat))), decode cX12_surely r.1 = .ok r.2 := by decide +kernel
theorem dX12_surely_0 : decode cX12_surely 0 = .ok (.aload_n 0, 1) := dgX12_surely_0 (0, (.aload_n 0, 1)) (List.mem_of_getElem? (i := 0) rfl)
theorem dX12_surely_1 : decode cX12_surely 1 = .ok (.iconst 0, 1) := dgX12_surely_0 (1, (.iconst 0, 1)) (List.mem_of_getElem? (i := 1) rfl)
theorem dX12_surely_2 : decode cX12_surely 2 = .ok (.putfield 107, 3) := dgX12_surely_0 (2, (.putfield 107, 3)) (List.mem_of_getElem? (i := 2) rfl)
theorem dX12_surely_5 : decode cX12_surely 5 = .ok (.iload_n 1, 1) := dgX12_surely_0 (5, (.iload_n 1, 1)) (List.mem_of_getElem? (i := 3) rfl)
theorem dX12_surely_6 : decode cX12_surely 6 = .ok (.invokestatic 175, 3) := dgX12_surely_0 (6, (.invokestatic 175, 3)) (List.mem_of_getElem? (i := 4) rfl)
theorem dX12_surely_9 : decode cX12_surely 9 = .ok (.ifCond .ne 5, 3) := dgX12_surely_0 (9, (.ifCond .ne 5, 3)) (List.mem_of_getElem? (i := 5) rfl)
theorem dX12_surely_12 : decode cX12_surely 12 = .ok (.iconst (-1), 1) := dgX12_surely_0 (12, (.iconst (-1), 1)) (List.mem_of_getElem? (i := 6) rfl)
theorem dX12_surely_13 : decode cX12_surely 13 = .ok (.ireturn, 1) := dgX12_surely_0 (13, (.ireturn, 1)) (List.mem_of_getElem? (i := 7) rfl)
theorem dX12_surely_14 : decode cX12_surely 14 = .ok (.aload_n 0, 1) := dgX12_surely_0 (14, (.aload_n 0, 1)) (List.mem_of_getElem? (i := 8) rfl)
theorem dX12_surely_15 : decode cX12_surely 15 = .ok (.invokevirtual 444, 3) := dgX12_surely_0 (15, (.invokevirtual 444, 3)) (List.mem_of_getElem? (i := 9) rfl)
theorem dX12_surely_18 : decode cX12_surely 18 = .ok (.iconst (-1), 1) := dgX12_surely_0 (18, (.iconst (-1), 1)) (List.mem_of_getElem? (i := 10) rfl)
theorem dX12_surely_19 : decode cX12_surely 19 = .ok (.istore_n 2, 1) := dgX12_surely_0 (19, (.istore_n 2, 1)) (List.mem_of_getElem? (i := 11) rfl)
theorem dX12_surely_20 : decode cX12_surely 20 = .ok (.iconst 0, 1) := dgX12_surely_0 (20, (.iconst 0, 1)) (List.mem_of_getElem? (i := 12) rfl)
theorem dX12_surely_21 : decode cX12_surely 21 = .ok (.istore_n 3, 1) := dgX12_surely_0 (21, (.istore_n 3, 1)) (List.mem_of_getElem? (i := 13) rfl)
theorem dX12_surely_22 : decode cX12_surely 22 = .ok (.iconst 0, 1) := dgX12_surely_0 (22, (.iconst 0, 1)) (List.mem_of_getElem? (i := 14) rfl)
theorem dX12_surely_23 : decode cX12_surely 23 = .ok (.istore 4, 2) := dgX12_surely_0 (23, (.istore 4, 2)) (List.mem_of_getElem? (i := 15) rfl)
theorem dX12_surely_25 : decode cX12_surely 25 = .ok (.iload 4, 2) := dgX12_surely_0 (25, (.iload 4, 2)) (List.mem_of_getElem? (i := 16) rfl)
theorem dX12_surely_27 : decode cX12_surely 27 = .ok (.bipush 64, 2) := dgX12_surely_0 (27, (.bipush 64, 2)) (List.mem_of_getElem? (i := 17) rfl)
theorem dX12_surely_29 : decode cX12_surely 29 = .ok (.if_icmp .ge 48, 3) := dgX12_surely_0 (29, (.if_icmp .ge 48, 3)) (List.mem_of_getElem? (i := 18) rfl)
theorem dX12_surely_32 : decode cX12_surely 32 = .ok (.aload_n 0, 1) := dgX12_surely_0 (32, (.aload_n 0, 1)) (List.mem_of_getElem? (i := 19) rfl)
theorem dX12_surely_33 : decode cX12_surely 33 = .ok (.iload_n 1, 1) := dgX12_surely_0 (33, (.iload_n 1, 1)) (List.mem_of_getElem? (i := 20) rfl)
theorem dX12_surely_34 : decode cX12_surely 34 = .ok (.iload 4, 2) := dgX12_surely_0 (34, (.iload 4, 2)) (List.mem_of_getElem? (i := 21) rfl)
theorem dX12_surely_36 : decode cX12_surely 36 = .ok (.invokevirtual 440, 3) := dgX12_surely_0 (36, (.invokevirtual 440, 3)) (List.mem_of_getElem? (i := 22) rfl)
theorem dX12_surely_39 : decode cX12_surely 39 = .ok (.lconst 0, 1) := dgX12_surely_0 (39, (.lconst 0, 1)) (List.mem_of_getElem? (i := 23) rfl)
theorem dX12_surely_40 : decode cX12_surely 40 = .ok (.lcmp, 1) := dgX12_surely_0 (40, (.lcmp, 1)) (List.mem_of_getElem? (i := 24) rfl)
theorem dX12_surely_41 : decode cX12_surely 41 = .ok (.ifCond .le 8, 3) := dgX12_surely_0 (41, (.ifCond .le 8, 3)) (List.mem_of_getElem? (i := 25) rfl)
theorem dX12_surely_44 : decode cX12_surely 44 = .ok (.iload 4, 2) := dgX12_surely_0 (44, (.iload 4, 2)) (List.mem_of_getElem? (i := 26) rfl)
theorem dX12_surely_46 : decode cX12_surely 46 = .ok (.goto 4, 3) := dgX12_surely_0 (46, (.goto 4, 3)) (List.mem_of_getElem? (i := 27) rfl)
theorem dX12_surely_49 : decode cX12_surely 49 = .ok (.iload_n 2, 1) := dgX12_surely_0 (49, (.iload_n 2, 1)) (List.mem_of_getElem? (i := 28) rfl)
theorem dX12_surely_50 : decode cX12_surely 50 = .ok (.istore_n 2, 1) := dgX12_surely_0 (50, (.istore_n 2, 1)) (List.mem_of_getElem? (i := 29) rfl)
theorem dX12_surely_51 : decode cX12_surely 51 = .ok (.iload_n 3, 1) := dgX12_surely_0 (51, (.iload_n 3, 1)) (List.mem_of_getElem? (i := 30) rfl)
theorem dX12_surely_52 : decode cX12_surely 52 = .ok (.aload_n 0, 1) := dgX12_surely_0 (52, (.aload_n 0, 1)) (List.mem_of_getElem? (i := 31) rfl)
theorem dX12_surely_53 : decode cX12_surely 53 = .ok (.iload_n 1, 1) := dgX12_surely_0 (53, (.iload_n 1, 1)) (List.mem_of_getElem? (i := 32) rfl)
theorem dX12_surely_54 : decode cX12_surely 54 = .ok (.iload 4, 2) := dgX12_surely_0 (54, (.iload 4, 2)) (List.mem_of_getElem? (i := 33) rfl)
theorem dX12_surely_56 : decode cX12_surely 56 = .ok (.invokevirtual 440, 3) := dgX12_surely_0 (56, (.invokevirtual 440, 3)) (List.mem_of_getElem? (i := 34) rfl)
theorem dX12_surely_59 : decode cX12_surely 59 = .ok (.lconst 0, 1) := dgX12_surely_0 (59, (.lconst 0, 1)) (List.mem_of_getElem? (i := 35) rfl)
theorem dX12_surely_60 : decode cX12_surely 60 = .ok (.lcmp, 1) := dgX12_surely_0 (60, (.lcmp, 1)) (List.mem_of_getElem? (i := 36) rfl)
theorem dX12_surely_61 : decode cX12_surely 61 = .ok (.ifCond .le 7, 3) := dgX12_surely_0 (61, (.ifCond .le 7, 3)) (List.mem_of_getElem? (i := 37) rfl)
theorem dX12_surely_64 : decode cX12_surely 64 = .ok (.iconst 1, 1) := dgX12_surely_0 (64, (.iconst 1, 1)) (List.mem_of_getElem? (i := 38) rfl)
theorem dX12_surely_65 : decode cX12_surely 65 = .ok (.goto 4, 3) := dgX12_surely_0 (65, (.goto 4, 3)) (List.mem_of_getElem? (i := 39) rfl)
theorem dgX12_surely_1 : ∀ r ∈ ([(68, (.iconst 0, 1)), (69, (.iadd, 1)), (70, (.istore_n 3, 1)), (71, (.iinc 4 1, 3)), (74, (.goto (-49), 3)), (77, (.iload_n 3, 1)), (78, (.iconst 1, 1)), (79, (.if_icmp .ne 7, 3)), (82, (.iload_n 2, 1)), (83, (.goto 4, 3)), (86, (.iconst (-1), 1)), (87, (.ireturn, 1))] : List (Nat × (Instr × Nat))), decode cX12_surely r.1 = .ok r.2 := by decide +kernel
theorem dX12_surely_68 : decode cX12_surely 68 = .ok (.iconst 0, 1) := dgX12_surely_1 (68, (.iconst 0, 1)) (List.mem_of_getElem? (i := 0) rfl)
theorem dX12_surely_69 : decode cX12_surely 69 = .ok (.iadd, 1) := dgX12_surely_1 (69, (.iadd, 1)) (List.mem_of_getElem? (i := 1) rfl)
theorem dX12_surely_70 : decode cX12_surely 70 = .ok (.istore_n 3, 1) := dgX12_surely_1 (70, (.istore_n 3, 1)) (List.mem_of_getElem? (i := 2) rfl)
theorem dX12_surely_71 : decode cX12_surely 71 = .ok (.iinc 4 1, 3) := dgX12_surely_1 (71, (.iinc 4 1, 3)) (List.mem_of_getElem? (i := 3) rfl)
theorem dX12_surely_74 : decode cX12_surely 74 = .ok (.goto (-49), 3) := dgX12_surely_1 (74, (.goto (-49), 3)) (List.mem_of_getElem? (i := 4) rfl)
theorem dX12_surely_77 : decode cX12_surely 77 = .ok (.iload_n 3, 1) := dgX12_surely_1 (77, (.iload_n 3, 1)) (List.mem_of_getElem? (i := 5) rfl)
theorem dX12_surely_78 : decode cX12_surely 78 = .ok (.iconst 1, 1) := dgX12_surely_1 (78, (.iconst 1, 1)) (List.mem_of_getElem? (i := 6) rfl)
theorem dX12_surely_79 : decode cX12_surely 79 = .ok (.if_icmp .ne 7, 3) := dgX12_surely_1 (79, (.if_icmp .ne 7, 3)) (List.mem_of_getElem? (i := 7) rfl)
theorem dX12_surely_82 : decode cX12_surely 82 = .ok (.iload_n 2, 1) := dgX12_surely_1 (82, (.iload_n 2, 1)) (List.mem_of_getElem? (i := 8) rfl)
theorem dX12_surely_83 : decode cX12_surely 83 = .ok (.goto 4, 3) := dgX12_surely_1 (83, (.goto 4, 3)) (List.mem_of_getElem? (i := 9) rfl)
theorem dX12_surely_86 : decode cX12_surely 86 = .ok (.iconst (-1), 1) := dgX12_surely_1 (86, (.iconst (-1), 1)) (List.mem_of_getElem? (i := 10) rfl)
theorem dX12_surely_87 : decode cX12_surely 87 = .ok (.ireturn, 1) := dgX12_surely_1 (87, (.ireturn, 1)) (List.mem_of_getElem? (i := 11) rfl)
theorem dgX12_could_0 : ∀ r ∈ ([(0, (.aload_n 0, 1)), (1, (.iconst 0, 1)), (2, (.putfield 107, 3)), (5, (.iload_n 1, 1)), (6, (.invokestatic 175, 3)), (9, (.ifCond .eq 17, 3)), (12, (.iload_n 2, 1)), (13, (.i2l, 1)), (14, (.ldc2_w 178, 3)), (17, (.ldc2_w 128, 3)), (20, (.invokestatic 121, 3)), (23, (.ifCond .ne 7, 3)), (26, (.ldc2_w 178, 3)), (29, (.lreturn, 1)), (30, (.aload_n 0, 1)), (31, (.invokevirtual 444, 3)), (34, (.iload_n 2, 1)), (35, (.iconst (-1), 1)), (36, (.if_icmp .eq 10, 3)), (39, (.aload_n 0, 1)), (40, (.iload_n 1, 1)), (41, (.iload_n 2, 1)), (42, (.invokevirtual 440, 3)), (45, (.lreturn, 1)), (46, (.lconst 0, 1)), (47, (.lstore_n 3, 1)), (48, (.iconst 0, 1)), (49, (.istore 5, 2)), (51, (.iload 5, 2)), (53, (.bipush 64, 2)), (55, (.if_icmp .ge 29, 3)), (58, (.lload_n 3, 1)), (59, (.aload_n 0, 1)), (60, (.iload_n 1, 1)), (61, (.iload 5, 2)), (63, (.invokevirtual 440, 3)), (66, (.lconst 0, 1)), (67, (.lcmp, 1)), (68, (.ifCond .le 7, 3)), (71, (.lconst 1, 1))] : List (Nat × (Instr × Nat))), decode cX12_could r.1 = .ok r.2 := by decide +kernel
theorem dX12_could_0 : decode cX12_could 0 = .ok (.aload_n 0, 1) := dgX12_could_0 (0, (.aload_n 0, 1)) (List.mem_of_getElem? (i := 0) rfl)
theorem dX12_could_1 : decode cX12_could 1 = .ok (.iconst 0, 1) := dgX12_could_0 (1, (.iconst 0, 1)) (List.mem_of_getElem? (i := 1) rfl)
theorem dX12_could_2 : decode cX12_could 2 = .ok (.putfield 107, 3) := dgX12_could_0 (2, (.putfield 107, 3)) (List.mem_of_getElem? (i := 2) rfl)
theorem dX12_could_5 : decode cX12_could 5 = .ok (.iload_n 1, 1) := dgX12_could_0 (5, (.iload_n 1, 1)) (List.mem_of_getElem? (i := 3) rfl)
theorem dX12_could_6 : decode cX12_could 6 = .ok (.invokestatic 175, 3) := dgX12_could_0 (6, (.invokestatic 175, 3)) (List.mem_of_getElem? (i := 4) rfl)
theorem dX12_could_9 : decode cX12_could 9 = .ok (.ifCond .eq 17, 3) := dgX12_could_0 (9, (.ifCond .eq 17, 3)) (List.mem_of_getElem? (i := 5) rfl)
theorem dX12_could_12 : decode cX12_could 12 = .ok (.iload_n 2, 1) := dgX12_could_0 (12, (.iload_n 2, 1)) (List.mem_of_getElem? (i := 6) rfl)
theorem dX12_could_13 : decode cX12_could 13 = .ok (.i2l, 1) := dgX12_could_0 (13, (.i2l, 1)) (List.mem_of_getElem? (i := 7) rfl)
theorem dX12_could_14 : decode cX12_could 14 = .ok (.ldc2_w 178, 3) := dgX12_could_0 (14, (.ldc2_w 178, 3)) (List.mem_of_getElem? (i := 8) rfl)
theorem dX12_could_17 : decode cX12_could 17 = .ok (.ldc2_w 128, 3) := dgX12_could_0 (17, (.ldc2_w 128, 3)) (List.mem_of_getElem? (i := 9) rfl)
theorem dX12_could_20 : decode cX12_could 20 = .ok (.invokestatic 121, 3) := dgX12_could_0 (20, (.invokestatic 121, 3)) (List.mem_of_getElem? (i := 10) rfl)
theorem dX12_could_23 : decode cX12_could 23 = .ok (.ifCond .ne 7, 3) := dgX12_could_0 (23, (.ifCond .ne 7, 3)) (List.mem_of_getElem? (i := 11) rfl)
theorem dX12_could_26 : decode cX12_could 26 = .ok (.ldc2_w 178, 3) := dgX12_could_0 (26, (.ldc2_w 178, 3)) (List.mem_of_getElem? (i := 12) rfl)
theorem dX12_could_29 : decode cX12_could 29 = .ok (.lreturn, 1) := dgX12_could_0 (29, (.lreturn, 1)) (List.mem_of_getElem? (i := 13) rfl)
theorem dX12_could_30 : decode cX12_could 30 = .ok (.aload_n 0, 1) := dgX12_could_0 (30, (.aload_n 0, 1)) (List.mem_of_getElem? (i := 14) rfl)
theorem dX12_could_31 : decode cX12_could 31 = .ok (.invokevirtual 444, 3) := dgX12_could_0 (31, (.invokevirtual 444, 3)) (List.mem_of_getElem? (i := 15) rfl)
theorem dX12_could_34 : decode cX12_could 34 = .ok (.iload_n 2, 1) := dgX12_could_0 (34, (.iload_n 2, 1)) (List.mem_of_getElem? (i := 16) rfl)
theorem dX12_could_35 : decode cX12_could 35 = .ok (.iconst (-1), 1) := dgX12_could_0 (35, (.iconst (-1), 1)) (List.mem_of_getElem? (i := 17) rfl)
theorem dX12_could_36 : decode cX12_could 36 = .ok (.if_icmp .eq 10, 3) := dgX12_could_0 (36, (.if_icmp .eq 10, 3)) (List.mem_of_getElem? (i := 18) rfl)
theorem dX12_could_39 : decode cX12_could 39 = .ok (.aload_n 0, 1) := dgX12_could_0 (39, (.aload_n 0, 1)) (List.mem_of_getElem? (i := 19) rfl)
theorem dX12_could_40 : decode cX12_could 40 = .ok (.iload_n 1, 1) := dgX12_could_0 (40, (.iload_n 1, 1)) (List.mem_of_getElem? (i := 20) rfl)
theorem dX12_could_41 : decode cX12_could 41 = .ok (.iload_n 2, 1) := dgX12_could_0 (41, (.iload_n 2, 1)) (List.mem_of_getElem? (i := 21) rfl)
theorem dX12_could_42 : decode cX12_could 42 = .ok (.invokevirtual 440, 3) := dgX12_could_0 (42, (.invokevirtual 440, 3)) (List.mem_of_getElem? (i := 22) rfl)
theorem dX12_could_45 : decode cX12_could 45 = .ok (.lreturn, 1) := dgX12_could_0 (45, (.lreturn, 1)) (List.mem_of_getElem? (i := 23) rfl)
theorem dX12_could_46 : decode cX12_could 46 = .ok (.lconst 0, 1) := dgX12_could_0 (46, (.lconst 0, 1)) (List.mem_of_getElem? (i := 24) rfl)
theorem dX12_could_47 : decode cX12_could 47 = .ok (.lstore_n 3, 1) := dgX12_could_0 (47, (.lstore_n 3, 1)) (List.mem_of_getElem? (i := 25) rfl)
theorem dX12_could_48 : decode cX12_could 48 = .ok (.iconst 0, 1) := dgX12_could_0 (48, (.iconst 0, 1)) (List.mem_of_getElem? (i := 26) rfl)
theorem dX12_could_49 : decode cX12_could 49 = .ok (.istore 5, 2) := dgX12_could_0 (49, (.istore 5, 2)) (List.mem_of_getElem? (i := 27) rfl)
theorem dX12_could_51 : decode cX12_could 51 = .ok (.iload 5, 2) := dgX12_could_0 (51, (.iload 5, 2)) (List.mem_of_getElem? (i := 28) rfl)
theorem dX12_could_53 : decode cX12_could 53 = .ok (.bipush 64, 2) := dgX12_could_0 (53, (.bipush 64, 2)) (List.mem_of_getElem? (i := 29) rfl)
theorem dX12_could_55 : decode cX12_could 55 = .ok (.if_icmp .ge 29, 3) := dgX12_could_0 (55, (.if_icmp .ge 29, 3)) (List.mem_of_getElem? (i := 30) rfl)
theorem dX12_could_58 : decode cX12_could 58 = .ok (.lload_n 3, 1) := dgX12_could_0 (58, (.lload_n 3, 1)) (List.mem_of_getElem? (i := 31) rfl)
theorem dX12_could_59 : decode cX12_could 59 = .ok (.aload_n 0, 1) := dgX12_could_0 (59, (.aload_n 0, 1)) (List.mem_of_getElem? (i := 32) rfl)
theorem dX12_could_60 : decode cX12_could 60 = .ok (.iload_n 1, 1) := dgX12_could_0 (60, (.iload_n 1, 1)) (List.mem_of_getElem? (i := 33) rfl)
theorem dX12_could_61 : decode cX12_could 61 = .ok (.iload 5, 2) := dgX12_could_0 (61, (.iload 5, 2)) (List.mem_of_getElem? (i := 34) rfl)
theorem dX12_could_63 : decode cX12_could 63 = .ok (.invokevirtual 440, 3) := dgX12_could_0 (63, (.invokevirtual 440, 3)) (List.mem_of_getElem? (i := 35) rfl)
theorem dX12_could_66 : decode cX12_could 66 = .ok (.lconst 0, 1) := dgX12_could_0 (66, (.lconst 0, 1)) (List.mem_of_getElem? (i := 36) rfl)
theorem dX12_could_67 : decode cX12_could 67 = .ok (.lcmp, 1) := dgX12_could_0 (67, (.lcmp, 1)) (List.mem_of_getElem? (i := 37) rfl)
theorem dX12_could_68 : decode cX12_could 68 = .ok (.ifCond .le 7, 3) := dgX12_could_0 (68, (.ifCond .le 7, 3)) (List.mem_of_getElem? (i := 38) rfl)
theorem dX12_could_71 : decode cX12_could 71 = .ok (.lconst 1, 1) := dgX12_could_0 (71, (.lconst 1, 1)) (List.mem_of_getElem? (i := 39) rfl)
theorem dgX12_could_1 : ∀ r ∈ ([(72, (.goto 4, 3)), (75, (.lconst 0, 1)), (76, (.ladd, 1)), (77, (.lstore_n 3, 1)), (78, (.iinc 5 1, 3)), (81, (.goto (-30), 3)), (84, (.lload_n 3, 1)), (85, (.lreturn, 1))] : List (Nat × (Instr × Nat))), decode cX12_could r.1 = .ok r.2 := by decide +kernel
theorem dX12_could_72 : decode cX12_could 72 = .ok (.goto 4, 3) := dgX12_could_1 (72, (.goto 4, 3)) (List.mem_of_getElem? (i := 0) rfl)
theorem dX12_could_75 : decode cX12_could 75 = .ok (.lconst 0, 1) := dgX12_could_1 (75, (.lconst 0, 1)) (List.mem_of_getElem? (i := 1) rfl)
theorem dX12_could_76 : decode cX12_could 76 = .ok (.ladd, 1) := dgX12_could_1 (76, (.ladd, 1)) (List.mem_of_getElem? (i := 2) rfl)
theorem dX12_could_77 : decode cX12_could 77 = .ok (.lstore_n 3, 1) := dgX12_could_1 (77, (.lstore_n 3, 1)) (List.mem_of_getElem? (i := 3) rfl)
theorem dX12_could_78 : decode cX12_could 78 = .ok (.iinc 5 1, 3) := dgX12_could_1 (78, (.iinc 5 1, 3)) (List.mem_of_getElem? (i := 4) rfl)
theorem dX12_could_81 : decode cX12_could 81 = .ok (.goto (-30), 3) := dgX12_could_1 (81, (.goto (-30), 3)) (List.mem_of_getElem? (i := 5) rfl)
theorem dX12_could_84 : decode cX12_could 84 = .ok (.lload_n 3, 1) := dgX12_could_1 (84, (.lload_n 3, 1)) (List.mem_of_getElem? (i := 6) rfl)
theorem dX12_could_85 : decode cX12_could 85 = .ok (.lreturn, 1) := dgX12_could_1 (85, (.lreturn, 1)) (List.mem_of_getElem? (i := 7) rfl)
theorem dgX12_hang_0 : ∀ r ∈ ([(0, (.aload_n 0, 1)), (1, (.iconst 0, 1)), (2, (.putfield 107, 3)), (5, (.iload_n 1, 1)), (6, (.i2l, 1)), (7, (.lconst 0, 1)), (8, (.ldc2_w 411, 3)), (11, (.invokestatic 121, 3)), (14, (.ifCond .ne 5, 3)), (17, (.iconst (-1), 1)), (18, (.ireturn, 1)), (19, (.iconst (-1), 1)), (20, (.istore_n 2, 1)), (21, (.iconst 0, 1)), (22, (.istore_n 3, 1)), (23, (.iconst (-1), 1)), (24, (.istore 4, 2)), (26, (.iconst 0, 1)), (27, (.istore 5, 2)), (29, (.iload 5, 2)), (31, (.iconst 1, 1)), (32, (.aload_n 0, 1)), (33, (.getfield 13, 3)), (36, (.bipush 7, 2)), (38, (.iaload, 1)), (39, (.ishl, 1)), (40, (.if_icmp .ge 86, 3)), (43, (.iload_n 2, 1)), (44, (.iconst (-1), 1)), (45, (.if_icmp .eq 12, 3)), (48, (.iload 5, 2)), (50, (.invokestatic 463, 3)), (53, (.iload_n 2, 1)), (54, (.if_icmp .gt 66, 3)), (57, (.aload_n 0, 1)), (58, (.iload 5, 2)), (60, (.invokevirtual 460, 3)), (63, (.ifCond .ne 57, 3)), (66, (.iload_n 2, 1)), (67, (.iconst (-1), 1))] : List (Nat × (Instr × Nat))), decode cX12_hang r.1 = .ok r.2 := by decide +kernel
theorem dX12_hang_0 : decode cX12_hang 0 = .ok (.aload_n 0, 1) := dgX12_hang_0 (0, (.aload_n 0, 1)) (List.mem_of_getElem? (i := 0) rfl)
theorem dX12_hang_1 : decode cX12_hang 1 = .ok (.iconst 0, 1) := dgX12_hang_0 (1, (.iconst 0, 1)) (List.mem_of_getElem? (i := 1) rfl)
theorem dX12_hang_2 : decode cX12_hang 2 = .ok (.putfield 107, 3) := dgX12_hang_0 (2, (.putfield 107, 3)) (List.mem_of_getElem? (i := 2) rfl)
theorem dX12_hang_5 : decode cX12_hang 5 = .ok (.iload_n 1, 1) := dgX12_hang_0 (5, (.iload_n 1, 1)) (List.mem_of_getElem? (i := 3) rfl)
theorem dX12_hang_6 : decode cX12_hang 6 = .ok (.i2l, 1) := dgX12_hang_0 (6, (.i2l, 1)) (List.mem_of_getElem? (i := 4) rfl)
theorem dX12_hang_7 : decode cX12_hang 7 = .ok (.lconst 0, 1) := dgX12_hang_0 (7, (.lconst 0, 1)) (List.mem_of_getElem? (i := 5) rfl)
theorem dX12_hang_8 : decode cX12_hang 8 = .ok (.ldc2_w 411, 3) := dgX12_hang_0 (8, (.ldc2_w 411, 3)) (List.mem_of_getElem? (i := 6) rfl)
theorem dX12_hang_11 : decode cX12_hang 11 = .ok (.invokestatic 121, 3) := dgX12_hang_0 (11, (.invokestatic 121, 3)) (List.mem_of_getElem? (i := 7) rfl)
theorem dX12_hang_14 : decode cX12_hang 14 = .ok (.ifCond .ne 5, 3) := dgX12_hang_0 (14, (.ifCond .ne 5, 3)) (List.mem_of_getElem? (i := 8) rfl)
theorem dX12_hang_17 : decode cX12_hang 17 = .ok (.iconst (-1), 1) := dgX12_hang_0 (17, (.iconst (-1), 1)) (List.mem_of_getElem? (i := 9) rfl)
theorem dX12_hang_18 : decode cX12_hang 18 = .ok (.ireturn, 1) := dgX12_hang_0 (18, (.ireturn, 1)) (List.mem_of_getElem? (i := 10) rfl)
theorem dX12_hang_19 : decode cX12_hang 19 = .ok (.iconst (-1), 1) := dgX12_hang_0 (19, (.iconst (-1), 1)) (List.mem_of_getElem? (i := 11) rfl)
theorem dX12_hang_20 : decode cX12_hang 20 = .ok (.istore_n 2, 1) := dgX12_hang_0 (20, (.istore_n 2, 1)) (List.mem_of_getElem? (i := 12) rfl)
theorem dX12_hang_21 : decode cX12_hang 21 = .ok (.iconst 0, 1) := dgX12_hang_0 (21, (.iconst 0, 1)) (List.mem_of_getElem? (i := 13) rfl)
theorem dX12_hang_22 : decode cX12_hang 22 = .ok (.istore_n 3, 1) := dgX12_hang_0 (22, (.istore_n 3, 1)) (List.mem_of_getElem? (i := 14) rfl)
theorem dX12_hang_23 : decode cX12_hang 23 = .ok (.iconst (-1), 1) := dgX12_hang_0 (23, (.iconst (-1), 1)) (List.mem_of_getElem? (i := 15) rfl)
theorem dX12_hang_24 : decode cX12_hang 24 = .ok (.istore 4, 2) := dgX12_hang_0 (24, (.istore 4, 2)) (List.mem_of_getElem? (i := 16) rfl)
theorem dX12_hang_26 : decode cX12_hang 26 = .ok (.iconst 0, 1) := dgX12_hang_0 (26, (.iconst 0, 1)) (List.mem_of_getElem? (i := 17) rfl)
theorem dX12_hang_27 : decode cX12_hang 27 = .ok (.istore 5, 2) := dgX12_hang_0 (27, (.istore 5, 2)) (List.mem_of_getElem? (i := 18) rfl)
theorem dX12_hang_29 : decode cX12_hang 29 = .ok (.iload 5, 2) := dgX12_hang_0 (29, (.iload 5, 2)) (List.mem_of_getElem? (i := 19) rfl)
theorem dX12_hang_31 : decode cX12_hang 31 = .ok (.iconst 1, 1) := dgX12_hang_0 (31, (.iconst 1, 1)) (List.mem_of_getElem? (i := 20) rfl)
theorem dX12_hang_32 : decode cX12_hang 32 = .ok (.aload_n 0, 1) := dgX12_hang_0 (32, (.aload_n 0, 1)) (List.mem_of_getElem? (i := 21) rfl)
theorem dX12_hang_33 : decode cX12_hang 33 = .ok (.getfield 13, 3) := dgX12_hang_0 (33, (.getfield 13, 3)) (List.mem_of_getElem? (i := 22) rfl)
theorem dX12_hang_36 : decode cX12_hang 36 = .ok (.bipush 7, 2) := dgX12_hang_0 (36, (.bipush 7, 2)) (List.mem_of_getElem? (i := 23) rfl)
theorem dX12_hang_38 : decode cX12_hang 38 = .ok (.iaload, 1) := dgX12_hang_0 (38, (.iaload, 1)) (List.mem_of_getElem? (i := 24) rfl)
theorem dX12_hang_39 : decode cX12_hang 39 = .ok (.ishl, 1) := dgX12_hang_0 (39, (.ishl, 1)) (List.mem_of_getElem? (i := 25) rfl)
theorem dX12_hang_40 : decode cX12_hang 40 = .ok (.if_icmp .ge 86, 3) := dgX12_hang_0 (40, (.if_icmp .ge 86, 3)) (List.mem_of_getElem? (i := 26) rfl)
theorem dX12_hang_43 : decode cX12_hang 43 = .ok (.iload_n 2, 1) := dgX12_hang_0 (43, (.iload_n 2, 1)) (List.mem_of_getElem? (i := 27) rfl)
theorem dX12_hang_44 : decode cX12_hang 44 = .ok (.iconst (-1), 1) := dgX12_hang_0 (44, (.iconst (-1), 1)) (List.mem_of_getElem? (i := 28) rfl)
theorem dX12_hang_45 : decode cX12_hang 45 = .ok (.if_icmp .eq 12, 3) := dgX12_hang_0 (45, (.if_icmp .eq 12, 3)) (List.mem_of_getElem? (i := 29) rfl)
theorem dX12_hang_48 : decode cX12_hang 48 = .ok (.iload 5, 2) := dgX12_hang_0 (48, (.iload 5, 2)) (List.mem_of_getElem? (i := 30) rfl)
theorem dX12_hang_50 : decode cX12_hang 50 = .ok (.invokestatic 463, 3) := dgX12_hang_0 (50, (.invokestatic 463, 3)) (List.mem_of_getElem? (i := 31) rfl)
theorem dX12_hang_53 : decode cX12_hang 53 = .ok (.iload_n 2, 1) := dgX12_hang_0 (53, (.iload_n 2, 1)) (List.mem_of_getElem? (i := 32) rfl)
theorem dX12_hang_54 : decode cX12_hang 54 = .ok (.if_icmp .gt 66, 3) := dgX12_hang_0 (54, (.if_icmp .gt 66, 3)) (List.mem_of_getElem? (i := 33) rfl)
theorem dX12_hang_57 : decode cX12_hang 57 = .ok (.aload_n 0, 1) := dgX12_hang_0 (57, (.aload_n 0, 1)) (List.mem_of_getElem? (i := 34) rfl)
theorem dX12_hang_58 : decode cX12_hang 58 = .ok (.iload 5, 2) := dgX12_hang_0 (58, (.iload 5, 2)) (List.mem_of_getElem? (i := 35) rfl)
theorem dX12_hang_60 : decode cX12_hang 60 = .ok (.invokevirtual 460, 3) := dgX12_hang_0 (60, (.invokevirtual 460, 3)) (List.mem_of_getElem? (i := 36) rfl)
theorem dX12_hang_63 : decode cX12_hang 63 = .ok (.ifCond .ne 57, 3) := dgX12_hang_0 (63, (.ifCond .ne 57, 3)) (List.mem_of_getElem? (i := 37) rfl)
theorem dX12_hang_66 : decode cX12_hang 66 = .ok (.iload_n 2, 1) := dgX12_hang_0 (66, (.iload_n 2, 1)) (List.mem_of_getElem? (i := 38) rfl)
theorem dX12_hang_67 : decode cX12_hang 67 = .ok (.iconst (-1), 1) := dgX12_hang_0 (67, (.iconst (-1), 1)) (List.mem_of_getElem? (i := 39) rfl)
theorem dgX12_hang_1 : ∀ r ∈ ([(68, (.if_icmp .eq 12, 3)), (71, (.iload 5, 2)), (73, (.invokestatic 463, 3)), (76, (.iload_n 2, 1)), (77, (.if_icmp .ge 7, 3)), (80, (.iconst 1, 1)), (81, (.goto 4, 3)), (84, (.iconst 0, 1)), (85, (.istore 6, 2)), (87, (.iload 6, 2)), (89, (.ifCond .eq 7, 3)), (92, (.iconst 1, 1)), (93, (.goto 6, 3)), (96, (.iload_n 3, 1)), (97, (.iconst 1, 1)), (98, (.iadd, 1)), (99, (.istore_n 3, 1)), (100, (.iload 6, 2)), (102, (.ifCond .eq 8, 3)), (105, (.iload 5, 2)), (107, (.goto 5, 3)), (110, (.iload 4, 2)), (112, (.istore 4, 2)), (114, (.iload 5, 2)), (116, (.invokestatic 463, 3)), (119, (.istore_n 2, 1)), (120, (.iinc 5 1, 3)), (123, (.goto (-94), 3)), (126, (.iload_n 1, 1)), (127, (.ifCond .ne 7, 3)), (130, (.iload_n 2, 1)), (131, (.goto 14, 3)), (134, (.iload_n 1, 1)), (135, (.iconst 1, 1)), (136, (.if_icmp .ne 7, 3)), (139, (.iload_n 3, 1)), (140, (.goto 5, 3)), (143, (.iload 4, 2)), (145, (.ireturn, 1))] : List (Nat × (Instr × Nat))), decode cX12_hang r.1 = .ok r.2 := by decide +kernel
theorem dX12_hang_68 : decode cX12_hang 68 = .ok (.if_icmp .eq 12, 3) := dgX12_hang_1 (68, (.if_icmp .eq 12, 3)) (List.mem_of_getElem? (i := 0) rfl)
theorem dX12_hang_71 : decode cX12_hang 71 = .ok (.iload 5, 2) := dgX12_hang_1 (71, (.iload 5, 2)) (List.mem_of_getElem? (i := 1) rfl)
theorem dX12_hang_73 : decode cX12_hang 73 = .ok (.invokestatic 463, 3) := dgX12_hang_1 (73, (.invokestatic 463, 3)) (List.mem_of_getElem? (i := 2) rfl)
theorem dX12_hang_76 : decode cX12_hang 76 = .ok (.iload_n 2, 1) := dgX12_hang_1 (76, (.iload_n 2, 1)) (List.mem_of_getElem? (i := 3) rfl)
theorem dX12_hang_77 : decode cX12_hang 77 = .ok (.if_icmp .ge 7, 3) := dgX12_hang_1 (77, (.if_icmp .ge 7, 3)) (List.mem_of_getElem? (i := 4) rfl)
theorem dX12_hang_80 : decode cX12_hang 80 = .ok (.iconst 1, 1) := dgX12_hang_1 (80, (.iconst 1, 1)) (List.mem_of_getElem? (i := 5) rfl)
theorem dX12_hang_81 : decode cX12_hang 81 = .ok (.goto 4, 3) := dgX12_hang_1 (81, (.goto 4, 3)) (List.mem_of_getElem? (i := 6) rfl)
theorem dX12_hang_84 : decode cX12_hang 84 = .ok (.iconst 0, 1) := dgX12_hang_1 (84, (.iconst 0, 1)) (List.mem_of_getElem? (i := 7) rfl)
theorem dX12_hang_85 : decode cX12_hang 85 = .ok (.istore 6, 2) := dgX12_hang_1 (85, (.istore 6, 2)) (List.mem_of_getElem? (i := 8) rfl)
theorem dX12_hang_87 : decode cX12_hang 87 = .ok (.iload 6, 2) := dgX12_hang_1 (87, (.iload 6, 2)) (List.mem_of_getElem? (i := 9) rfl)
theorem dX12_hang_89 : decode cX12_hang 89 = .ok (.ifCond .eq 7, 3) := dgX12_hang_1 (89, (.ifCond .eq 7, 3)) (List.mem_of_getElem? (i := 10) rfl)
theorem dX12_hang_92 : decode cX12_hang 92 = .ok (.iconst 1, 1) := dgX12_hang_1 (92, (.iconst 1, 1)) (List.mem_of_getElem? (i := 11) rfl)
theorem dX12_hang_93 : decode cX12_hang 93 = .ok (.goto 6, 3) := dgX12_hang_1 (93, (.goto 6, 3)) (List.mem_of_getElem? (i := 12) rfl)
theorem dX12_hang_96 : decode cX12_hang 96 = .ok (.iload_n 3, 1) := dgX12_hang_1 (96, (.iload_n 3, 1)) (List.mem_of_getElem? (i := 13) rfl)
theorem dX12_hang_97 : decode cX12_hang 97 = .ok (.iconst 1, 1) := dgX12_hang_1 (97, (.iconst 1, 1)) (List.mem_of_getElem? (i := 14) rfl)
theorem dX12_hang_98 : decode cX12_hang 98 = .ok (.iadd, 1) := dgX12_hang_1 (98, (.iadd, 1)) (List.mem_of_getElem? (i := 15) rfl)
theorem dX12_hang_99 : decode cX12_hang 99 = .ok (.istore_n 3, 1) := dgX12_hang_1 (99, (.istore_n 3, 1)) (List.mem_of_getElem? (i := 16) rfl)
theorem dX12_hang_100 : decode cX12_hang 100 = .ok (.iload 6, 2) := dgX12_hang_1 (100, (.iload 6, 2)) (List.mem_of_getElem? (i := 17) rfl)
theorem dX12_hang_102 : decode cX12_hang 102 = .ok (.ifCond .eq 8, 3) := dgX12_hang_1 (102, (.ifCond .eq 8, 3)) (List.mem_of_getElem? (i := 18) rfl)
theorem dX12_hang_105 : decode cX12_hang 105 = .ok (.iload 5, 2) := dgX12_hang_1 (105, (.iload 5, 2)) (List.mem_of_getElem? (i := 19) rfl)
theorem dX12_hang_107 : decode cX12_hang 107 = .ok (.goto 5, 3) := dgX12_hang_1 (107, (.goto 5, 3)) (List.mem_of_getElem? (i := 20) rfl)
theorem dX12_hang_110 : decode cX12_hang 110 = .ok (.iload 4, 2) := dgX12_hang_1 (110, (.iload 4, 2)) (List.mem_of_getElem? (i := 21) rfl)
theorem dX12_hang_112 : decode cX12_hang 112 = .ok (.istore 4, 2) := dgX12_hang_1 (112, (.istore 4, 2)) (List.mem_of_getElem? (i := 22) rfl)
theorem dX12_hang_114 : decode cX12_hang 114 = .ok (.iload 5, 2) := dgX12_hang_1 (114, (.iload 5, 2)) (List.mem_of_getElem? (i := 23) rfl)
theorem dX12_hang_116 : decode cX12_hang 116 = .ok (.invokestatic 463, 3) := dgX12_hang_1 (116, (.invokestatic 463, 3)) (List.mem_of_getElem? (i := 24) rfl)
theorem dX12_hang_119 : decode cX12_hang 119 = .ok (.istore_n 2, 1) := dgX12_hang_1 (119, (.istore_n 2, 1)) (List.mem_of_getElem? (i := 25) rfl)
theorem dX12_hang_120 : decode cX12_hang 120 = .ok (.iinc 5 1, 3) := dgX12_hang_1 (120, (.iinc 5 1, 3)) (List.mem_of_getElem? (i := 26) rfl)
theorem dX12_hang_123 : decode cX12_hang 123 = .ok (.goto (-94), 3) := dgX12_hang_1 (123, (.goto (-94), 3)) (List.mem_of_getElem? (i := 27) rfl)
theorem dX12_hang_126 : decode cX12_hang 126 = .ok (.iload_n 1, 1) := dgX12_hang_1 (126, (.iload_n 1, 1)) (List.mem_of_getElem? (i := 28) rfl)
theorem dX12_hang_127 : decode cX12_hang 127 = .ok (.ifCond .ne 7, 3) := dgX12_hang_1 (127, (.ifCond .ne 7, 3)) (List.mem_of_getElem? (i := 29) rfl)
theorem dX12_hang_130 : decode cX12_hang 130 = .ok (.iload_n 2, 1) := dgX12_hang_1 (130, (.iload_n 2, 1)) (List.mem_of_getElem? (i := 30) rfl)
theorem dX12_hang_131 : decode cX12_hang 131 = .ok (.goto 14, 3) := dgX12_hang_1 (131, (.goto 14, 3)) (List.mem_of_getElem? (i := 31) rfl)
theorem dX12_hang_134 : decode cX12_hang 134 = .ok (.iload_n 1, 1) := dgX12_hang_1 (134, (.iload_n 1, 1)) (List.mem_of_getElem? (i := 32) rfl)
theorem dX12_hang_135 : decode cX12_hang 135 = .ok (.iconst 1, 1) := dgX12_hang_1 (135, (.iconst 1, 1)) (List.mem_of_getElem? (i := 33) rfl)
theorem dX12_hang_136 : decode cX12_hang 136 = .ok (.if_icmp .ne 7, 3) := dgX12_hang_1 (136, (.if_icmp .ne 7, 3)) (List.mem_of_getElem? (i := 34) rfl)
theorem dX12_hang_139 : decode cX12_hang 139 = .ok (.iload_n 3, 1) := dgX12_hang_1 (139, (.iload_n 3, 1)) (List.mem_of_getElem? (i := 35) rfl)
theorem dX12_hang_140 : decode cX12_hang 140 = .ok (.goto 5, 3) := dgX12_hang_1 (140, (.goto 5, 3)) (List.mem_of_getElem? (i := 36) rfl)
theorem dX12_hang_143 : decode cX12_hang 143 = .ok (.iload 4, 2) := dgX12_hang_1 (143, (.iload 4, 2)) (List.mem_of_getElem? (i := 37) rfl)
theorem dX12_hang_145 : decode cX12_hang 145 = .ok (.ireturn, 1) := dgX12_hang_1 (145, (.ireturn, 1)) (List.mem_of_getElem? (i := 38) rfl)
theorem ml_X12_463 : Cond.methodLink RX12 463 yX12_bits ∈ tblG := tg 1795 (by decide +kernel) (by decide +kernel)
theorem st_X12_bits : Cond.static yX12_bits ∈ tblG := tg 1796 (by decide +kernel) (by decide +kernel)
theorem cd_X12_bits : Cond.code yX12_bits cX12_bits 3 (some .int) ∈ tblG := tg 1797 (by decide +kernel) (by decide +kernel)
theorem gW_X12_bits : GoodIn tblG (wsG yX12_bits cX12_bits 3 (some .int)) := tgi cd_X12_bits
theorem gS_X12_463 : GoodIn tblG (va_wsS RX12 463 yX12_bits (wsG yX12_bits cX12_bits 3 (some .int))) := tgS ml_X12_463 st_X12_bits ini_X12 gW_X12_bits
theorem hs_X12_bits : yX12_bits.cls ≠ "java/lang/invoke/MethodHandle" ∧ yX12_bits.cls ≠ "java/lang/invoke/VarHandle" ∧ (parseMethodDescriptor yX12_bits.desc).map (fun d => d.parameters.length) = some 1 := by decide +kernel
set_option maxHeartbeats 4000000 in
set_option maxRecDepth 100000 in
theorem n_hang (l : Launch) (G : g5_G) (b_o b_ro b_se b_re b_pt b_rf b_im b_ke b_tp b_nl b_op b_ar b_pi b_pa b_ws b_hw b_ip b_ah b_be b_me b_tr b_ld b_wn : Nat) (sz : Nat) (u_th : Int32) (u_sa : Int32) (u_fd : Int32) (u_td : Int32) (u_fr : Int32) (u_to : Int32) (u_so : Int32) (u_fa : Int32) (u_bd : Int32) (u_nc : Int32) (u_co : Int32) (u_le : Int32) (u_pd : Int32) (u_od : Int32) (u_la : Int32) (u_bk : Int32) (u_ce : Int32) (u_ho : Int32) (u_wy : Int32) (u_bt : Int32) (u_ps : Int32) (u_tg : Int32) (u_sn : Int32) (u_ic : Int32) (u_wd : Int32) (u_id : Int32) (p_1 : Int32) (u_wo : Int64) (u_va : Int64) (u_su : Int64) (u_st : Int64) (v_ro : Nat → Int32) (v_se : Nat → Int64) (v_re : Nat → Int64) (v_pt : Nat → Int32) (h_u_td : 0 ≤ u_td.toInt ∧ u_td.toInt ≤ 400) (h_u_fr : 0 ≤ u_fr.toInt ∧ u_fr.toInt ≤ 400) (h_u_to : 0 ≤ u_to.toInt ∧ u_to.toInt ≤ 400) (h_u_bd : 0 ≤ u_bd.toInt ∧ u_bd.toInt ≤ 1) (h_u_nc : 0 ≤ u_nc.toInt ∧ u_nc.toInt ≤ 12) (h_u_co : 0 ≤ u_co.toInt ∧ u_co.toInt ≤ 400) (h_u_pd : 0 ≤ u_pd.toInt ∧ u_pd.toInt ≤ 400) (h_u_la : 0 ≤ u_la.toInt ∧ u_la.toInt ≤ 4840) (h_u_bk : 0 ≤ u_bk.toInt ∧ u_bk.toInt ≤ 1) (h_u_ce : 0 ≤ u_ce.toInt ∧ u_ce.toInt ≤ 63) (h_u_ho : 0 ≤ u_ho.toInt ∧ u_ho.toInt ≤ 23) (h_u_wy : 0 ≤ u_wy.toInt ∧ u_wy.toInt ≤ 3) (h_u_bt : 0 ≤ u_bt.toInt ∧ u_bt.toInt ≤ 1000000) (h_u_ps : 0 ≤ u_ps.toInt ∧ u_ps.toInt ≤ 200) (h_u_ic : 0 ≤ u_ic.toInt ∧ u_ic.toInt ≤ 1) (h_u_id : 0 ≤ u_id.toInt ∧ u_id.toInt ≤ 1) (r_ro : MI v_ro) (r_pt : PTI v_pt) : Met l yX12_hang (wsG yX12_hang cX12_hang 7 (some .int)) ({ frames := 8, cells := 0, slots := 0, locals := 202 }) (va_Pc [.ref b_o, .int p_1] (g5_P G [(b_o, (oc12 u_th u_sa b_rf b_ro b_im b_ke u_fd b_tp u_td u_fr u_to u_so u_wo u_fa u_bd u_nc b_nl u_co b_op b_ar u_le b_pi b_pa u_pd u_od b_ws b_hw u_la b_se b_re u_bk u_va u_su u_ce u_ho u_wy u_bt u_ps b_pt u_tg u_sn b_ip u_ic b_ah b_be b_me u_wd b_tr b_ld u_st b_wn u_id)), (b_ro, (arI G 5740 v_ro)), (b_se, (arJ G 13 v_se)), (b_re, (arJ G 400 v_re)), (b_pt, (arI G 200 v_pt))] sz)) (va_Qi (fun (r : Int32) (u : va_W) => (∃ (o_r : Int32) (o_th : Int32) (o_la : Int32) (o_bk : Int32) (o_va : Int64) (o_su : Int64) (o_ce : Int32) (o_ho : Int32) (o_wy : Int32) (o_bt : Int32) (o_ps : Int32) (o_tg : Int32) (o_sn : Int32) (o_se : Nat → Int64) (o_re : Nat → Int64) (o_pt : Nat → Int32), (0 ≤ o_la.toInt ∧ o_la.toInt ≤ 4840) ∧ (0 ≤ o_bk.toInt ∧ o_bk.toInt ≤ 1) ∧ (0 ≤ o_ce.toInt ∧ o_ce.toInt ≤ 63) ∧ (0 ≤ o_ho.toInt ∧ o_ho.toInt ≤ 23) ∧ (0 ≤ o_wy.toInt ∧ o_wy.toInt ≤ 3) ∧ (0 ≤ o_bt.toInt ∧ o_bt.toInt ≤ 1000000) ∧ (0 ≤ o_ps.toInt ∧ o_ps.toInt ≤ 200) ∧ (PTI o_pt) ∧ (r = o_r) ∧ (u = [(b_o, (oc12 o_th u_sa b_rf b_ro b_im b_ke u_fd b_tp u_td u_fr u_to u_so u_wo u_fa u_bd u_nc b_nl u_co b_op b_ar u_le b_pi b_pa u_pd u_od b_ws b_hw o_la b_se b_re o_bk o_va o_su o_ce o_ho o_wy o_bt o_ps b_pt o_tg o_sn b_ip u_ic b_ah b_be b_me u_wd b_tr b_ld u_st b_wn u_id)), (b_ro, (arI G 5740 v_ro)), (b_se, (arJ G 13 o_se)), (b_re, (arJ G 400 o_re)), (b_pt, (arI G 200 o_pt))]))) (g5_B G (va_A [(b_o, (oc12 u_th u_sa b_rf b_ro b_im b_ke u_fd b_tp u_td u_fr u_to u_so u_wo u_fa u_bd u_nc b_nl u_co b_op b_ar u_le b_pi b_pa u_pd u_od b_ws b_hw u_la b_se b_re u_bk u_va u_su u_ce u_ho u_wy u_bt u_ps b_pt u_tg u_sn b_ip u_ic b_ah b_be b_me u_wd b_tr b_ld u_st b_wn u_id)), (b_ro, (arI G 5740 v_ro)), (b_se, (arJ G 13 v_se)), (b_re, (arJ G 400 v_re)), (b_pt, (arI G 200 v_pt))] sz)) (va_A [(b_o, (oc12 u_th u_sa b_rf b_ro b_im b_ke u_fd b_tp u_td u_fr u_to u_so u_wo u_fa u_bd u_nc b_nl u_co b_op b_ar u_le b_pi b_pa u_pd u_od b_ws b_hw u_la b_se b_re u_bk u_va u_su u_ce u_ho u_wy u_bt u_ps b_pt u_tg u_sn b_ip u_ic b_ah b_be b_me u_wd b_tr b_ld u_st b_wn u_id)), (b_ro, (arI G 5740 v_ro)), (b_se, (arJ G 13 v_se)), (b_re, (arJ G 400 v_re)), (b_pt, (arI G 200 v_pt))] sz)) 0 0 (va_A [(b_o, (oc12 u_th u_sa b_rf b_ro b_im b_ke u_fd b_tp u_td u_fr u_to u_so u_wo u_fa u_bd u_nc b_nl u_co b_op b_ar u_le b_pi b_pa u_pd u_od b_ws b_hw u_la b_se b_re u_bk u_va u_su u_ce u_ho u_wy u_bt u_ps b_pt u_tg u_sn b_ip u_ic b_ah b_be b_me u_wd b_tr b_ld u_st b_wn u_id)), (b_ro, (arI G 5740 v_ro)), (b_se, (arJ G 13 v_se)), (b_re, (arJ G 400 v_re)), (b_pt, (arI G 200 v_pt))] sz) := by
  refine Met.ofW (cc := cX12_hang) (maxL := 7) (ret := (some .int)) (by decide +kernel) rfl ?_
  intro p e s m args below meth c s₁ B hml hv
  obtain ⟨rfl, hsz, hP, hK, hD0, hN, hT⟩ := hv
  have hx := B.exec
  have hb := B.bytes
  have hr := B.returns
  have hts : ∀ w ∈ tblG, w.before _ s = true := fun w h => atoms_spec (ws := (wsG yX12_hang cX12_hang 7 (some .int))) B.pre w (List.mem_cons_of_mem _ h)
  have hown : s.vm.findClass RX12 = some m.cls := findClass_of_methodNamed B.named
  have hlocks := B.notSynchronized
  subst hsz
  have hD := hD0.self (sz := s.heap.size)
  generalize hAe : va_A [(b_o, (oc12 u_th u_sa b_rf b_ro b_im b_ke u_fd b_tp u_td u_fr u_to u_so u_wo u_fa u_bd u_nc b_nl u_co b_op b_ar u_le b_pi b_pa u_pd u_od b_ws b_hw u_la b_se b_re u_bk u_va u_su u_ce u_ho u_wy u_bt u_ps b_pt u_tg u_sn b_ip u_ic b_ah b_be b_me u_wd b_tr b_ld u_st b_wn u_id)), (b_ro, (arI G 5740 v_ro)), (b_se, (arJ G 13 v_se)), (b_re, (arJ G 400 v_re)), (b_pt, (arI G 200 v_pt))] s.heap.size = A at hD hT ⊢
  have hA : ∀ q : Nat, s.heap.size ≤ q → A q := fun q h => by rw [← hAe]; exact Or.inr h
  have hS : va_S A s.heap s.heap [] := va_S.rf
  replace hP : va_P G.1 vwCl [(b_o, (oc12 u_th u_sa b_rf b_ro b_im b_ke u_fd b_tp u_td u_fr u_to u_so u_wo u_fa u_bd u_nc b_nl u_co b_op b_ar u_le b_pi b_pa u_pd u_od b_ws b_hw u_la b_se b_re u_bk u_va u_su u_ce u_ho u_wy u_bt u_ps b_pt u_tg u_sn b_ip u_ic b_ah b_be b_me u_wd b_tr b_ld u_st b_wn u_id)), (b_ro, (arI G 5740 v_ro)), (b_se, (arJ G 13 v_se)), (b_re, (arJ G 400 v_re)), (b_pt, (arI G 200 v_pt))] s.heap := hP
  have hl := lv_entry ([.ref b_o, .int p_1]) (n := 7) (Nat.le_of_ble_eq_true rfl)
  rw [lg_entry_eq]
  generalize (lg_sl ([.ref b_o, .int p_1]) ++ List.replicate (7 - (lg_sl ([.ref b_o, .int p_1])).length) Slot.unset).toArray = ls at hl ⊢
  replace hl : lv_has ls 7 [(0, .ref b_o), (1, .int p_1)] := hl
  refine lv_aload_n hx hb dX12_hang_0 rfl (lv_at hl 0 rfl) ?_
  refine lv_iconst (v := 0) hx hb dX12_hang_1 (by decide +kernel) ?_
  refine va_put (D := G.1) (ci := 12) (v := .int 0) (ty := .int) (C := RX12) (T := TX12) (N := 52) hx hb hts inG_X12 tyX12 tyX12_ok nmX12 hown hK hP hD hS 0 rfl rfl 0 (by decide +kernel) (hts _ fl_X12_107) (fun _ h9 => h9) rfl (by decide +kernel) rfl rfl (Nat.le_of_ble_eq_true rfl) dX12_hang_2 ?_
  clear hP hD hS
  intro H locs hP hD hS
  refine g5_rs [(b_o, (oc12 0 u_sa b_rf b_ro b_im b_ke u_fd b_tp u_td u_fr u_to u_so u_wo u_fa u_bd u_nc b_nl u_co b_op b_ar u_le b_pi b_pa u_pd u_od b_ws b_hw u_la b_se b_re u_bk u_va u_su u_ce u_ho u_wy u_bt u_ps b_pt u_tg u_sn b_ip u_ic b_ah b_be b_me u_wd b_tr b_ld u_st b_wn u_id)), (b_ro, (arI G 5740 v_ro)), (b_se, (arJ G 13 v_se)), (b_re, (arJ G 400 v_re)), (b_pt, (arI G 200 v_pt))] hP hD ?_
  clear hP hD
  intro hP hD
  refine lv_iload_n hx hb dX12_hang_5 rfl (lv_at hl 1 rfl) ?_
  refine lv_i2l (v := p_1.toInt64) hx hb dX12_hang_6 rfl ?_
  refine lv_lconst (v := 0) hx hb dX12_hang_7 (by decide +kernel) ?_
  refine lv_ldc2 (v := 2) hx hb hown (hts _ kl_X12_411) dX12_hang_8 ?_
  obtain ⟨hPc, hDc, hFc⟩ := g5_sub3 (wc := []) hP hD hS hA [] (by decide +kernel) rfl
  refine va_calli (va_runS (As := [.long p_1.toInt64, .long 0, .long 2]) (rest := []) ⟨hx, hb, hml, hown, hts⟩ (n_in_0_2 l G H.size p_1) (va_cwS 3 hts gS_X12_121 rfl rfl rfl hs_X12_in ⟨Nat.le_of_ble_eq_true rfl, Nat.le_of_ble_eq_true rfl⟩) (g5_preS hPc hK hDc hN hT hS hFc) rfl rfl hl.1 rfl (lv_room (Nat.le_of_ble_eq_true rfl)) dX12_hang_11 ⟨Nat.le_of_ble_eq_true rfl, Nat.le_of_ble_eq_true rfl⟩) hS (fun q _ h => hFc q h) hFc (fun r u t H locs ht hvm hw hB hz1 hk1 hS => ?_)
  obtain ⟨hP1, hD1⟩ := hB
  have hP1 := g5_ht ht hP1
  rcases hw with ⟨(i_1 : p_1.toInt < 0 ∨ 2 < p_1.toInt), rfl, rfl⟩ | ⟨(i_2 : 0 ≤ p_1.toInt ∧ p_1.toInt ≤ 2), rfl, rfl⟩
  ·
    have hJ9 := g5_same hP hk1
    clear hP hPc hDc hFc ht hvm hz1 hk1 hP1 hD1
    have hP := hJ9
    clear hJ9
    refine lv_if_ne (tgt := 19) hx hb dX12_hang_14 (by decide +kernel) (fun c_3 => ?_) (fun c_3 => ?_)
    ·
      exact absurd c_3 (by decide +kernel)
    ·
      refine lv_iconst (v := (-1)) hx hb dX12_hang_17 (by decide +kernel) ?_
      exact W.iret (v := (-1)) hx hb hr (fun t ht hW => ⟨⟨(-1), [(b_o, (oc12 0 u_sa b_rf b_ro b_im b_ke u_fd b_tp u_td u_fr u_to u_so u_wo u_fa u_bd u_nc b_nl u_co b_op b_ar u_le b_pi b_pa u_pd u_od b_ws b_hw u_la b_se b_re u_bk u_va u_su u_ce u_ho u_wy u_bt u_ps b_pt u_tg u_sn b_ip u_ic b_ah b_be b_me u_wd b_tr b_ld u_st b_wn u_id)), (b_ro, (arI G 5740 v_ro)), (b_se, (arJ G 13 v_se)), (b_re, (arJ G 400 v_re)), (b_pt, (arI G 200 v_pt))], rfl, ⟨(-1), 0, u_la, u_bk, u_va, u_su, u_ce, u_ho, u_wy, u_bt, u_ps, u_tg, u_sn, v_se, v_re, v_pt, h_u_la, h_u_bk, h_u_ce, h_u_ho, h_u_wy, h_u_bt, h_u_ps, r_pt, rfl, rfl⟩, by rw [ht]; exact hP.sub [0, 1, 2, 3, 4] rfl, hD.sub [0, 1, 2, 3, 4] (by decide +kernel) rfl⟩, hS.F ht⟩) hS.2.2 dX12_hang_18
  ·
    have hJ9 := g5_same hP hk1
    clear hP hPc hDc hFc ht hvm hz1 hk1 hP1 hD1
    have hP := hJ9
    clear hJ9
    refine lv_if_ne (tgt := 19) hx hb dX12_hang_14 (by decide +kernel) (fun c_4 => ?_) (fun c_4 => ?_)
    ·
      refine lv_iconst (v := (-1)) hx hb dX12_hang_19 (by decide +kernel) ?_
      refine lv_istore_n (lv' := [(2, .int (-1)), (0, .ref b_o), (1, .int p_1)]) hx hb dX12_hang_20 rfl hl (by decide +kernel) rfl ?_
      clear hl
      intro ls hl
      refine lv_iconst (v := 0) hx hb dX12_hang_21 (by decide +kernel) ?_
      refine lv_istore_n (lv' := [(3, .int 0), (2, .int (-1)), (0, .ref b_o), (1, .int p_1)]) hx hb dX12_hang_22 rfl hl (by decide +kernel) rfl ?_
      clear hl
      intro ls hl
      refine lv_iconst (v := (-1)) hx hb dX12_hang_23 (by decide +kernel) ?_
      refine lv_istore (lv' := [(4, .int (-1)), (3, .int 0), (2, .int (-1)), (0, .ref b_o), (1, .int p_1)]) hx hb dX12_hang_24 hl (by decide +kernel) rfl ?_
      clear hl
      intro ls hl
      refine lv_iconst (v := 0) hx hb dX12_hang_26 (by decide +kernel) ?_
      refine lv_istore (lv' := [(5, .int 0), (4, .int (-1)), (3, .int 0), (2, .int (-1)), (0, .ref b_o), (1, .int p_1)]) hx hb dX12_hang_27 hl (by decide +kernel) rfl ?_
      clear hl
      intro ls hl
      refine g5_loop (α := (Int32) × (Int32) × (Int32) × (Int32) × (Int32) × (Int32) × (Int64) × (Int64) × (Int32) × (Int32) × (Int32) × (Int32) × (Int32) × (Int32) × (Int32) × (Nat → Int64) × (Nat → Int64) × (Nat → Int32)) (fun (q : (Int32) × (Int32) × (Int32) × (Int32) × (Int32) × (Int32) × (Int64) × (Int64) × (Int32) × (Int32) × (Int32) × (Int32) × (Int32) × (Int32) × (Int32) × (Nat → Int64) × (Nat → Int64) × (Nat → Int32)) (ls : Array Slot) (H : Heap) (locs : List Loc) => match q with | (k29_5, k29_4, k29_3, k29_2, k29_la, k29_bk, k29_va, k29_su, k29_ce, k29_ho, k29_wy, k29_bt, k29_ps, k29_tg, k29_sn, k29_se, k29_re, k29_pt) => lv_has ls 7 [(2, .int k29_2), (3, .int k29_3), (4, .int k29_4), (5, .int k29_5), (0, .ref b_o), (1, .int p_1)] ∧ va_P G.1 vwCl [(b_o, (oc12 0 u_sa b_rf b_ro b_im b_ke u_fd b_tp u_td u_fr u_to u_so u_wo u_fa u_bd u_nc b_nl u_co b_op b_ar u_le b_pi b_pa u_pd u_od b_ws b_hw k29_la b_se b_re k29_bk k29_va k29_su k29_ce k29_ho k29_wy k29_bt k29_ps b_pt k29_tg k29_sn b_ip u_ic b_ah b_be b_me u_wd b_tr b_ld u_st b_wn u_id)), (b_ro, (arI G 5740 v_ro)), (b_se, (arJ G 13 k29_se)), (b_re, (arJ G 400 k29_re)), (b_pt, (arI G 200 k29_pt))] H ∧ va_D A [(b_o, (oc12 0 u_sa b_rf b_ro b_im b_ke u_fd b_tp u_td u_fr u_to u_so u_wo u_fa u_bd u_nc b_nl u_co b_op b_ar u_le b_pi b_pa u_pd u_od b_ws b_hw k29_la b_se b_re k29_bk k29_va k29_su k29_ce k29_ho k29_wy k29_bt k29_ps b_pt k29_tg k29_sn b_ip u_ic b_ah b_be b_me u_wd b_tr b_ld u_st b_wn u_id)), (b_ro, (arI G 5740 v_ro)), (b_se, (arJ G 13 k29_se)), (b_re, (arJ G 400 k29_re)), (b_pt, (arI G 200 k29_pt))] ∧ va_S A s.heap H locs ∧ (0 ≤ k29_5.toInt ∧ k29_5.toInt ≤ 256) ∧ (0 ≤ k29_la.toInt ∧ k29_la.toInt ≤ 4840) ∧ (0 ≤ k29_bk.toInt ∧ k29_bk.toInt ≤ 1) ∧ (0 ≤ k29_ce.toInt ∧ k29_ce.toInt ≤ 63) ∧ (0 ≤ k29_ho.toInt ∧ k29_ho.toInt ≤ 23) ∧ (0 ≤ k29_wy.toInt ∧ k29_wy.toInt ≤ 3) ∧ (0 ≤ k29_bt.toInt ∧ k29_bt.toInt ≤ 1000000) ∧ (0 ≤ k29_ps.toInt ∧ k29_ps.toInt ≤ 200) ∧ (PTI k29_pt)) (fun (q : (Int32) × (Int32) × (Int32) × (Int32) × (Int32) × (Int32) × (Int64) × (Int64) × (Int32) × (Int32) × (Int32) × (Int32) × (Int32) × (Int32) × (Int32) × (Nat → Int64) × (Nat → Int64) × (Nat → Int32)) => match q with | (k29_5, k29_4, k29_3, k29_2, k29_la, k29_bk, k29_va, k29_su, k29_ce, k29_ho, k29_wy, k29_bt, k29_ps, k29_tg, k29_sn, k29_se, k29_re, k29_pt) => Int.toNat (256 - k29_5.toInt)) (0, (-1), 0, (-1), u_la, u_bk, u_va, u_su, u_ce, u_ho, u_wy, u_bt, u_ps, u_tg, u_sn, v_se, v_re, v_pt) ⟨lv_sub hl [3, 2, 1, 0, 4, 5] rfl, hP, hD, hS, ⟨by decide, by decide⟩, h_u_la, h_u_bk, h_u_ce, h_u_ho, h_u_wy, h_u_bt, h_u_ps, r_pt⟩ ?_
      rintro ⟨k29_5, k29_4, k29_3, k29_2, k29_la, k29_bk, k29_va, k29_su, k29_ce, k29_ho, k29_wy, k29_bt, k29_ps, k29_tg, k29_sn, k29_se, k29_re, k29_pt⟩ ls H locs ⟨hl, hP, hD, hS, (i_5 : 0 ≤ k29_5.toInt ∧ k29_5.toInt ≤ 256), (i_6 : 0 ≤ k29_la.toInt ∧ k29_la.toInt ≤ 4840), (i_7 : 0 ≤ k29_bk.toInt ∧ k29_bk.toInt ≤ 1), (i_8 : 0 ≤ k29_ce.toInt ∧ k29_ce.toInt ≤ 63), (i_9 : 0 ≤ k29_ho.toInt ∧ k29_ho.toInt ≤ 23), (i_10 : 0 ≤ k29_wy.toInt ∧ k29_wy.toInt ≤ 3), (i_11 : 0 ≤ k29_bt.toInt ∧ k29_bt.toInt ≤ 1000000), (i_12 : 0 ≤ k29_ps.toInt ∧ k29_ps.toInt ≤ 200), (i_13 : PTI k29_pt)⟩ ih_29_14
      replace hl : lv_has ls 7 [(2, .int k29_2), (3, .int k29_3), (4, .int k29_4), (5, .int k29_5), (0, .ref b_o), (1, .int p_1)] := hl
      refine g5_rs [(b_o, (oc12 0 u_sa b_rf b_ro b_im b_ke u_fd b_tp u_td u_fr u_to u_so u_wo u_fa u_bd u_nc b_nl u_co b_op b_ar u_le b_pi b_pa u_pd u_od b_ws b_hw k29_la b_se b_re k29_bk k29_va k29_su k29_ce k29_ho k29_wy k29_bt k29_ps b_pt k29_tg k29_sn b_ip u_ic b_ah b_be b_me u_wd b_tr b_ld u_st b_wn u_id)), (b_ro, (arI G 5740 v_ro)), (b_se, (arJ G 13 k29_se)), (b_re, (arJ G 400 k29_re)), (b_pt, (arI G 200 k29_pt))] hP hD ?_
      clear hP hD
      intro hP hD
      refine lv_iload hx hb dX12_hang_29 (lv_at hl 3 rfl) ?_
      refine lv_iconst (v := 1) hx hb dX12_hang_31 (by decide +kernel) ?_
      refine lv_aload_n hx hb dX12_hang_32 rfl (lv_at hl 4 rfl) ?_
      refine va_get (D := G.1) (ci := 12) (v := .ref b_ro) (C := RX12) (T := TX12) (N := 52) hx hb hts inG_X12 hown hK hP 0 rfl rfl 3 (by decide +kernel) (hts _ fl_X12_13) (fun _ h9 => h9) rfl dX12_hang_33 ?_
      refine lv_bipush (v := 7) hx hb dX12_hang_36 (by decide +kernel) ?_
      refine va_iald hx hb hK hP 1 0 rfl rfl (i := 7) (by unfold vp_in; decide) dX12_hang_38 ?_
      refine g5_ti (v := (v_ro 7)) rfl ?_
      have hr_15 : 0 ≤ (v_ro 7).toInt ∧ (v_ro 7).toInt ≤ 8 := mi_7 r_ro
      refine lv_ishl hx hb dX12_hang_39 ?_
      have hs_16 := g_shl8 (e := (v_ro 7)) (by omega) (by omega)
      refine lv_icmp_ge (tgt := 126) hx hb dX12_hang_40 (by decide +kernel) (fun c_17 => ?_) (fun c_17 => ?_)
      ·
        have i_17 : k29_5.toInt ≥ (1 <<< ((v_ro 7) &&& 31)).toInt := g5_ge (a := k29_5.toInt) (b := (1 <<< ((v_ro 7) &&& 31)).toInt) rfl rfl c_17
        refine lv_iload_n hx hb dX12_hang_126 rfl (lv_at hl 5 rfl) ?_
        refine lv_if_ne (tgt := 134) hx hb dX12_hang_127 (by decide +kernel) (fun c_18 => ?_) (fun c_18 => ?_)
        ·
          have n_18 : gNe (p_1.toInt) (0) := g5_ne (a := p_1.toInt) (b := 0) rfl (by decide +kernel) c_18
          have i_18 : p_1.toInt ≥ 1 := by have z := g5_ne (a := p_1.toInt) (b := 0) (by rfl) (by decide +kernel) c_18; omega
          refine lv_iload_n hx hb dX12_hang_134 rfl (lv_at hl 5 rfl) ?_
          refine lv_iconst (v := 1) hx hb dX12_hang_135 (by decide +kernel) ?_
          refine lv_icmp_ne (tgt := 143) hx hb dX12_hang_136 (by decide +kernel) (fun c_19 => ?_) (fun c_19 => ?_)
          ·
            have n_19 : gNe (p_1.toInt) (1) := g5_ne (a := p_1.toInt) (b := 1) rfl (by decide +kernel) c_19
            have i_19 : p_1.toInt ≥ 2 := by have z := g5_ne (a := p_1.toInt) (b := 1) (by rfl) (by decide +kernel) c_19; omega
            refine lv_iload hx hb dX12_hang_143 (lv_at hl 2 rfl) ?_
            exact W.iret (v := k29_4) hx hb hr (fun t ht hW => ⟨⟨k29_4, [(b_o, (oc12 0 u_sa b_rf b_ro b_im b_ke u_fd b_tp u_td u_fr u_to u_so u_wo u_fa u_bd u_nc b_nl u_co b_op b_ar u_le b_pi b_pa u_pd u_od b_ws b_hw k29_la b_se b_re k29_bk k29_va k29_su k29_ce k29_ho k29_wy k29_bt k29_ps b_pt k29_tg k29_sn b_ip u_ic b_ah b_be b_me u_wd b_tr b_ld u_st b_wn u_id)), (b_ro, (arI G 5740 v_ro)), (b_se, (arJ G 13 k29_se)), (b_re, (arJ G 400 k29_re)), (b_pt, (arI G 200 k29_pt))], rfl, ⟨k29_4, 0, k29_la, k29_bk, k29_va, k29_su, k29_ce, k29_ho, k29_wy, k29_bt, k29_ps, k29_tg, k29_sn, k29_se, k29_re, k29_pt, i_6, i_7, i_8, i_9, i_10, i_11, i_12, i_13, rfl, rfl⟩, by rw [ht]; exact hP.sub [0, 1, 2, 3, 4] rfl, hD.sub [0, 1, 2, 3, 4] (by decide +kernel) rfl⟩, hS.F ht⟩) hS.2.2 dX12_hang_145
          ·
            have i_19 : p_1.toInt = 1 := g5_neN (a := p_1.toInt) (b := 1) rfl (by decide +kernel) c_19
            refine lv_iload_n hx hb dX12_hang_139 rfl (lv_at hl 1 rfl) ?_
            refine lv_goto (tgt := 145) hx hb dX12_hang_140 (by decide +kernel) ?_
            exact W.iret (v := k29_3) hx hb hr (fun t ht hW => ⟨⟨k29_3, [(b_o, (oc12 0 u_sa b_rf b_ro b_im b_ke u_fd b_tp u_td u_fr u_to u_so u_wo u_fa u_bd u_nc b_nl u_co b_op b_ar u_le b_pi b_pa u_pd u_od b_ws b_hw k29_la b_se b_re k29_bk k29_va k29_su k29_ce k29_ho k29_wy k29_bt k29_ps b_pt k29_tg k29_sn b_ip u_ic b_ah b_be b_me u_wd b_tr b_ld u_st b_wn u_id)), (b_ro, (arI G 5740 v_ro)), (b_se, (arJ G 13 k29_se)), (b_re, (arJ G 400 k29_re)), (b_pt, (arI G 200 k29_pt))], rfl, ⟨k29_3, 0, k29_la, k29_bk, k29_va, k29_su, k29_ce, k29_ho, k29_wy, k29_bt, k29_ps, k29_tg, k29_sn, k29_se, k29_re, k29_pt, i_6, i_7, i_8, i_9, i_10, i_11, i_12, i_13, rfl, rfl⟩, by rw [ht]; exact hP.sub [0, 1, 2, 3, 4] rfl, hD.sub [0, 1, 2, 3, 4] (by decide +kernel) rfl⟩, hS.F ht⟩) hS.2.2 dX12_hang_145
        ·
          have i_18 : p_1.toInt = 0 := g5_neN (a := p_1.toInt) (b := 0) rfl (by decide +kernel) c_18
          refine lv_iload_n hx hb dX12_hang_130 rfl (lv_at hl 0 rfl) ?_
          refine lv_goto (tgt := 145) hx hb dX12_hang_131 (by decide +kernel) ?_
          exact W.iret (v := k29_2) hx hb hr (fun t ht hW => ⟨⟨k29_2, [(b_o, (oc12 0 u_sa b_rf b_ro b_im b_ke u_fd b_tp u_td u_fr u_to u_so u_wo u_fa u_bd u_nc b_nl u_co b_op b_ar u_le b_pi b_pa u_pd u_od b_ws b_hw k29_la b_se b_re k29_bk k29_va k29_su k29_ce k29_ho k29_wy k29_bt k29_ps b_pt k29_tg k29_sn b_ip u_ic b_ah b_be b_me u_wd b_tr b_ld u_st b_wn u_id)), (b_ro, (arI G 5740 v_ro)), (b_se, (arJ G 13 k29_se)), (b_re, (arJ G 400 k29_re)), (b_pt, (arI G 200 k29_pt))], rfl, ⟨k29_2, 0, k29_la, k29_bk, k29_va, k29_su, k29_ce, k29_ho, k29_wy, k29_bt, k29_ps, k29_tg, k29_sn, k29_se, k29_re, k29_pt, i_6, i_7, i_8, i_9, i_10, i_11, i_12, i_13, rfl, rfl⟩, by rw [ht]; exact hP.sub [0, 1, 2, 3, 4] rfl, hD.sub [0, 1, 2, 3, 4] (by decide +kernel) rfl⟩, hS.F ht⟩) hS.2.2 dX12_hang_145
      ·
        have i_17 : k29_5.toInt < (1 <<< ((v_ro 7) &&& 31)).toInt := g5_geN (a := k29_5.toInt) (b := (1 <<< ((v_ro 7) &&& 31)).toInt) rfl rfl c_17
        refine lv_iload_n hx hb dX12_hang_43 rfl (lv_at hl 0 rfl) ?_
        refine lv_iconst (v := (-1)) hx hb dX12_hang_44 (by decide +kernel) ?_
        refine lv_icmp_eq (tgt := 57) hx hb dX12_hang_45 (by decide +kernel) (fun c_20 => ?_) (fun c_20 => ?_)
        ·
          have i_20 : k29_2.toInt = (-1) := g5_eq (a := k29_2.toInt) (b := (-1)) rfl (by decide +kernel) c_20
          refine lv_aload_n hx hb dX12_hang_57 rfl (lv_at hl 4 rfl) ?_
          refine lv_iload hx hb dX12_hang_58 (lv_at hl 3 rfl) ?_
          obtain ⟨hPc, hDc, hFc⟩ := g5_sub3 (wc := [(b_o, (oc12 0 u_sa b_rf b_ro b_im b_ke u_fd b_tp u_td u_fr u_to u_so u_wo u_fa u_bd u_nc b_nl u_co b_op b_ar u_le b_pi b_pa u_pd u_od b_ws b_hw k29_la b_se b_re k29_bk k29_va k29_su k29_ce k29_ho k29_wy k29_bt k29_ps b_pt k29_tg k29_sn b_ip u_ic b_ah b_be b_me u_wd b_tr b_ld u_st b_wn u_id)), (b_ro, (arI G 5740 v_ro)), (b_se, (arJ G 13 k29_se)), (b_re, (arJ G 400 k29_re)), (b_pt, (arI G 200 k29_pt))]) hP hD hS hA [0, 1, 2, 3, 4] (by decide +kernel) rfl
          refine va_calli (va_runV (As := [.int k29_5]) (rest := []) ⟨hx, hb, hml, hown, hts⟩ (n_lacking l G b_o b_ro b_se b_re b_pt b_rf b_im b_ke b_tp b_nl b_op b_ar b_pi b_pa b_ws b_hw b_ip b_ah b_be b_me b_tr b_ld b_wn H.size 0 u_sa u_fd u_td u_fr u_to u_so u_fa u_bd u_nc u_co u_le u_pd u_od k29_la k29_bk k29_ce k29_ho k29_wy k29_bt k29_ps k29_tg k29_sn u_ic u_wd u_id k29_5 u_wo k29_va k29_su u_st v_ro k29_se k29_re k29_pt h_u_td h_u_fr h_u_to h_u_bd h_u_nc h_u_co h_u_pd i_6 i_7 i_8 i_9 i_10 i_11 i_12 h_u_ic h_u_id (r_ro) (i_13)) (cwV 1 hts gV_X12_460 rfl rfl rfl hv_X12_lacking ⟨Nat.le_of_ble_eq_true rfl, Nat.le_of_ble_eq_true rfl⟩) (g5_preV hPc hK hDc hN hT hS hFc (ci := 12) (q0 := 0) rfl rfl) rfl rfl hl.1 rfl (lv_room (Nat.le_of_ble_eq_true rfl)) dX12_hang_60 ⟨Nat.le_of_ble_eq_true rfl, Nat.le_of_ble_eq_true rfl⟩) hS (fun q _ h => hFc q h) hFc (fun r u t H locs ht hvm hw hB hz1 hk1 hS => ?_)
          obtain ⟨hP1, hD1⟩ := hB
          have hP1 := g5_ht ht hP1
          obtain ⟨z29, z30, z31, z32, z33, z34, z35, z36, z37, z38, z39, z40, z41, z42, z43, (i_21 : 0 ≤ z30.toInt ∧ z30.toInt ≤ 4840), (i_22 : 0 ≤ z31.toInt ∧ z31.toInt ≤ 1), (i_23 : 0 ≤ z34.toInt ∧ z34.toInt ≤ 63), (i_24 : 0 ≤ z35.toInt ∧ z35.toInt ≤ 23), (i_25 : 0 ≤ z36.toInt ∧ z36.toInt ≤ 3), (i_26 : 0 ≤ z37.toInt ∧ z37.toInt ≤ 1000000), (i_27 : 0 ≤ z38.toInt ∧ z38.toInt ≤ 200), (i_28 : PTI z43), y44, rfl⟩ := hw
          have hJ9 := va_join (wr := []) hP hD [0, 1, 2, 3, 4] [] rfl rfl (by decide +kernel) (by decide +kernel) hk1 hFc hP1 hD1
          clear hP hD hPc hDc hFc ht hvm hz1 hk1 hP1 hD1
          obtain ⟨hP, hD⟩ := hJ9
          refine g5_rs [(b_o, (oc12 0 u_sa b_rf b_ro b_im b_ke u_fd b_tp u_td u_fr u_to u_so u_wo u_fa u_bd u_nc b_nl u_co b_op b_ar u_le b_pi b_pa u_pd u_od b_ws b_hw z30 b_se b_re z31 z32 z33 z34 z35 z36 z37 z38 b_pt z39 z40 b_ip u_ic b_ah b_be b_me u_wd b_tr b_ld u_st b_wn u_id)), (b_ro, (arI G 5740 v_ro)), (b_se, (arJ G 13 z41)), (b_re, (arJ G 400 z42)), (b_pt, (arI G 200 z43))] hP hD ?_
          clear hP hD
          intro hP hD
          refine g5_ti (v := z29) y44 ?_
          refine lv_if_ne (tgt := 120) hx hb dX12_hang_63 (by decide +kernel) (fun c_45 => ?_) (fun c_45 => ?_)
          ·
            have n_45 : gNe (z29.toInt) (0) := g5_ne (a := z29.toInt) (b := 0) rfl (by decide +kernel) c_45
            refine lv_iinc (v := (k29_5 + 1)) (lv' := [(5, .int (k29_5 + 1)), (2, .int k29_2), (3, .int k29_3), (4, .int k29_4), (0, .ref b_o), (1, .int p_1)]) hx hb dX12_hang_120 hl (k := 3) rfl rfl (by decide +kernel) rfl ?_
            clear hl
            intro ls hl
            have t_46 : (k29_5 + 1).toInt = k29_5.toInt + 1 := g5_iadd (a := k29_5.toInt) (b := 1) rfl (by decide +kernel) (by omega) (by omega)
            refine lv_goto (tgt := 29) hx hb dX12_hang_123 (by decide +kernel) ?_
            exact ih_29_14 ((k29_5 + 1), k29_4, k29_3, k29_2, z30, z31, z32, z33, z34, z35, z36, z37, z38, z39, z40, z41, z42, z43) ls H locs (show Int.toNat (256 - (k29_5 + 1).toInt) < Int.toNat (256 - k29_5.toInt) from g_up (show k29_5.toInt < (k29_5 + 1).toInt by omega) (show k29_5.toInt < 256 by omega)) ⟨lv_sub hl [1, 2, 3, 0, 4, 5] rfl, hP, hD, hS, ⟨by omega, by omega⟩, i_21, i_22, i_23, i_24, i_25, i_26, i_27, i_28⟩
          ·
            have i_45 : z29.toInt = 0 := g5_neN (a := z29.toInt) (b := 0) rfl (by decide +kernel) c_45
            refine lv_iload_n hx hb dX12_hang_66 rfl (lv_at hl 0 rfl) ?_
            refine lv_iconst (v := (-1)) hx hb dX12_hang_67 (by decide +kernel) ?_
            refine lv_icmp_eq (tgt := 80) hx hb dX12_hang_68 (by decide +kernel) (fun c_47 => ?_) (fun c_47 => ?_)
            ·
              have i_47 : k29_2.toInt = (-1) := g5_eq (a := k29_2.toInt) (b := (-1)) rfl (by decide +kernel) c_47
              refine lv_iconst (v := 1) hx hb dX12_hang_80 (by decide +kernel) ?_
              refine lv_goto (tgt := 85) hx hb dX12_hang_81 (by decide +kernel) ?_
              refine lv_istore (lv' := [(6, .int 1), (2, .int k29_2), (3, .int k29_3), (4, .int k29_4), (5, .int k29_5), (0, .ref b_o), (1, .int p_1)]) hx hb dX12_hang_85 hl (by decide +kernel) rfl ?_
              clear hl
              intro ls hl
              refine lv_iload hx hb dX12_hang_87 (lv_at hl 0 rfl) ?_
              refine lv_if_eq (tgt := 96) hx hb dX12_hang_89 (by decide +kernel) (fun c_48 => ?_) (fun c_48 => ?_)
              ·
                exact absurd c_48 (by decide +kernel)
              ·
                refine lv_iconst (v := 1) hx hb dX12_hang_92 (by decide +kernel) ?_
                refine lv_goto (tgt := 99) hx hb dX12_hang_93 (by decide +kernel) ?_
                refine lv_istore_n (lv' := [(3, .int 1), (6, .int 1), (2, .int k29_2), (4, .int k29_4), (5, .int k29_5), (0, .ref b_o), (1, .int p_1)]) hx hb dX12_hang_99 rfl hl (by decide +kernel) rfl ?_
                clear hl
                intro ls hl
                refine lv_iload hx hb dX12_hang_100 (lv_at hl 1 rfl) ?_
                refine lv_if_eq (tgt := 110) hx hb dX12_hang_102 (by decide +kernel) (fun c_49 => ?_) (fun c_49 => ?_)
                ·
                  exact absurd c_49 (by decide +kernel)
                ·
                  refine lv_iload hx hb dX12_hang_105 (lv_at hl 4 rfl) ?_
                  refine lv_goto (tgt := 112) hx hb dX12_hang_107 (by decide +kernel) ?_
                  refine lv_istore (lv' := [(4, .int k29_5), (3, .int 1), (6, .int 1), (2, .int k29_2), (5, .int k29_5), (0, .ref b_o), (1, .int p_1)]) hx hb dX12_hang_112 hl (by decide +kernel) rfl ?_
                  clear hl
                  intro ls hl
                  refine lv_iload hx hb dX12_hang_114 (lv_at hl 4 rfl) ?_
                  obtain ⟨hPc, hDc, hFc⟩ := g5_sub3 (wc := []) hP hD hS hA [] (by decide +kernel) rfl
                  refine va_calli (va_runS (As := [.int k29_5]) (rest := []) ⟨hx, hb, hml, hown, hts⟩ (n_bits l G H.size k29_5) (va_cwS 1 hts gS_X12_463 rfl rfl rfl hs_X12_bits ⟨Nat.le_of_ble_eq_true rfl, Nat.le_of_ble_eq_true rfl⟩) (g5_preS hPc hK hDc hN hT hS hFc) rfl rfl hl.1 rfl (lv_room (Nat.le_of_ble_eq_true rfl)) dX12_hang_116 ⟨Nat.le_of_ble_eq_true rfl, Nat.le_of_ble_eq_true rfl⟩) hS (fun q _ h => hFc q h) hFc (fun r u t H locs ht hvm hw hB hz1 hk1 hS => ?_)
                  obtain ⟨hP1, hD1⟩ := hB
                  have hP1 := g5_ht ht hP1
                  obtain ⟨z50, y51, rfl⟩ := hw
                  have hJ9 := g5_same hP hk1
                  clear hP hPc hDc hFc ht hvm hz1 hk1 hP1 hD1
                  have hP := hJ9
                  clear hJ9
                  refine g5_ti (v := z50) y51 ?_
                  refine lv_istore_n (lv' := [(2, .int z50), (4, .int k29_5), (3, .int 1), (6, .int 1), (5, .int k29_5), (0, .ref b_o), (1, .int p_1)]) hx hb dX12_hang_119 rfl hl (by decide +kernel) rfl ?_
                  clear hl
                  intro ls hl
                  refine lv_iinc (v := (k29_5 + 1)) (lv' := [(5, .int (k29_5 + 1)), (2, .int z50), (4, .int k29_5), (3, .int 1), (6, .int 1), (0, .ref b_o), (1, .int p_1)]) hx hb dX12_hang_120 hl (k := 4) rfl rfl (by decide +kernel) rfl ?_
                  clear hl
                  intro ls hl
                  have t_52 : (k29_5 + 1).toInt = k29_5.toInt + 1 := g5_iadd (a := k29_5.toInt) (b := 1) rfl (by decide +kernel) (by omega) (by omega)
                  refine lv_goto (tgt := 29) hx hb dX12_hang_123 (by decide +kernel) ?_
                  exact ih_29_14 ((k29_5 + 1), k29_5, 1, z50, z30, z31, z32, z33, z34, z35, z36, z37, z38, z39, z40, z41, z42, z43) ls H locs (show Int.toNat (256 - (k29_5 + 1).toInt) < Int.toNat (256 - k29_5.toInt) from g_up (show k29_5.toInt < (k29_5 + 1).toInt by omega) (show k29_5.toInt < 256 by omega)) ⟨lv_sub hl [1, 3, 2, 0, 5, 6] rfl, hP, hD, hS, ⟨by omega, by omega⟩, i_21, i_22, i_23, i_24, i_25, i_26, i_27, i_28⟩
            ·
              have i_47 : k29_2.toInt ≠ (-1) := g5_eqN (a := k29_2.toInt) (b := (-1)) rfl (by decide +kernel) c_47
              omega
        ·
          have n_20 : gNe (k29_2.toInt) ((-1)) := g5_eqN (a := k29_2.toInt) (b := (-1)) rfl (by decide +kernel) c_20
          refine lv_iload hx hb dX12_hang_48 (lv_at hl 3 rfl) ?_
          obtain ⟨hPc, hDc, hFc⟩ := g5_sub3 (wc := []) hP hD hS hA [] (by decide +kernel) rfl
          refine va_calli (va_runS (As := [.int k29_5]) (rest := []) ⟨hx, hb, hml, hown, hts⟩ (n_bits l G H.size k29_5) (va_cwS 1 hts gS_X12_463 rfl rfl rfl hs_X12_bits ⟨Nat.le_of_ble_eq_true rfl, Nat.le_of_ble_eq_true rfl⟩) (g5_preS hPc hK hDc hN hT hS hFc) rfl rfl hl.1 rfl (lv_room (Nat.le_of_ble_eq_true rfl)) dX12_hang_50 ⟨Nat.le_of_ble_eq_true rfl, Nat.le_of_ble_eq_true rfl⟩) hS (fun q _ h => hFc q h) hFc (fun r u t H locs ht hvm hw hB hz1 hk1 hS => ?_)
          obtain ⟨hP1, hD1⟩ := hB
          have hP1 := g5_ht ht hP1
          obtain ⟨z53, y54, rfl⟩ := hw
          have hJ9 := g5_same hP hk1
          clear hP hPc hDc hFc ht hvm hz1 hk1 hP1 hD1
          have hP := hJ9
          clear hJ9
          refine g5_ti (v := z53) y54 ?_
          refine lv_iload_n hx hb dX12_hang_53 rfl (lv_at hl 0 rfl) ?_
          refine lv_icmp_gt (tgt := 120) hx hb dX12_hang_54 (by decide +kernel) (fun c_55 => ?_) (fun c_55 => ?_)
          ·
            have i_55 : z53.toInt > k29_2.toInt := g5_gt (a := z53.toInt) (b := k29_2.toInt) rfl rfl c_55
            refine lv_iinc (v := (k29_5 + 1)) (lv' := [(5, .int (k29_5 + 1)), (2, .int k29_2), (3, .int k29_3), (4, .int k29_4), (0, .ref b_o), (1, .int p_1)]) hx hb dX12_hang_120 hl (k := 3) rfl rfl (by decide +kernel) rfl ?_
            clear hl
            intro ls hl
            have t_56 : (k29_5 + 1).toInt = k29_5.toInt + 1 := g5_iadd (a := k29_5.toInt) (b := 1) rfl (by decide +kernel) (by omega) (by omega)
            refine lv_goto (tgt := 29) hx hb dX12_hang_123 (by decide +kernel) ?_
            exact ih_29_14 ((k29_5 + 1), k29_4, k29_3, k29_2, k29_la, k29_bk, k29_va, k29_su, k29_ce, k29_ho, k29_wy, k29_bt, k29_ps, k29_tg, k29_sn, k29_se, k29_re, k29_pt) ls H locs (show Int.toNat (256 - (k29_5 + 1).toInt) < Int.toNat (256 - k29_5.toInt) from g_up (show k29_5.toInt < (k29_5 + 1).toInt by omega) (show k29_5.toInt < 256 by omega)) ⟨lv_sub hl [1, 2, 3, 0, 4, 5] rfl, hP, hD, hS, ⟨by omega, by omega⟩, i_6, i_7, i_8, i_9, i_10, i_11, i_12, i_13⟩
          ·
            have i_55 : z53.toInt ≤ k29_2.toInt := g5_gtN (a := z53.toInt) (b := k29_2.toInt) rfl rfl c_55
            refine lv_aload_n hx hb dX12_hang_57 rfl (lv_at hl 4 rfl) ?_
            refine lv_iload hx hb dX12_hang_58 (lv_at hl 3 rfl) ?_
            obtain ⟨hPc, hDc, hFc⟩ := g5_sub3 (wc := [(b_o, (oc12 0 u_sa b_rf b_ro b_im b_ke u_fd b_tp u_td u_fr u_to u_so u_wo u_fa u_bd u_nc b_nl u_co b_op b_ar u_le b_pi b_pa u_pd u_od b_ws b_hw k29_la b_se b_re k29_bk k29_va k29_su k29_ce k29_ho k29_wy k29_bt k29_ps b_pt k29_tg k29_sn b_ip u_ic b_ah b_be b_me u_wd b_tr b_ld u_st b_wn u_id)), (b_ro, (arI G 5740 v_ro)), (b_se, (arJ G 13 k29_se)), (b_re, (arJ G 400 k29_re)), (b_pt, (arI G 200 k29_pt))]) hP hD hS hA [0, 1, 2, 3, 4] (by decide +kernel) rfl
            refine va_calli (va_runV (As := [.int k29_5]) (rest := []) ⟨hx, hb, hml, hown, hts⟩ (n_lacking l G b_o b_ro b_se b_re b_pt b_rf b_im b_ke b_tp b_nl b_op b_ar b_pi b_pa b_ws b_hw b_ip b_ah b_be b_me b_tr b_ld b_wn H.size 0 u_sa u_fd u_td u_fr u_to u_so u_fa u_bd u_nc u_co u_le u_pd u_od k29_la k29_bk k29_ce k29_ho k29_wy k29_bt k29_ps k29_tg k29_sn u_ic u_wd u_id k29_5 u_wo k29_va k29_su u_st v_ro k29_se k29_re k29_pt h_u_td h_u_fr h_u_to h_u_bd h_u_nc h_u_co h_u_pd i_6 i_7 i_8 i_9 i_10 i_11 i_12 h_u_ic h_u_id (r_ro) (i_13)) (cwV 1 hts gV_X12_460 rfl rfl rfl hv_X12_lacking ⟨Nat.le_of_ble_eq_true rfl, Nat.le_of_ble_eq_true rfl⟩) (g5_preV hPc hK hDc hN hT hS hFc (ci := 12) (q0 := 0) rfl rfl) rfl rfl hl.1 rfl (lv_room (Nat.le_of_ble_eq_true rfl)) dX12_hang_60 ⟨Nat.le_of_ble_eq_true rfl, Nat.le_of_ble_eq_true rfl⟩) hS (fun q _ h => hFc q h) hFc (fun r u t H locs ht hvm hw hB hz1 hk1 hS => ?_)
            obtain ⟨hP1, hD1⟩ := hB
            have hP1 := g5_ht ht hP1
            obtain ⟨z65, z66, z67, z68, z69, z70, z71, z72, z73, z74, z75, z76, z77, z78, z79, (i_57 : 0 ≤ z66.toInt ∧ z66.toInt ≤ 4840), (i_58 : 0 ≤ z67.toInt ∧ z67.toInt ≤ 1), (i_59 : 0 ≤ z70.toInt ∧ z70.toInt ≤ 63), (i_60 : 0 ≤ z71.toInt ∧ z71.toInt ≤ 23), (i_61 : 0 ≤ z72.toInt ∧ z72.toInt ≤ 3), (i_62 : 0 ≤ z73.toInt ∧ z73.toInt ≤ 1000000), (i_63 : 0 ≤ z74.toInt ∧ z74.toInt ≤ 200), (i_64 : PTI z79), y80, rfl⟩ := hw
            have hJ9 := va_join (wr := []) hP hD [0, 1, 2, 3, 4] [] rfl rfl (by decide +kernel) (by decide +kernel) hk1 hFc hP1 hD1
            clear hP hD hPc hDc hFc ht hvm hz1 hk1 hP1 hD1
            obtain ⟨hP, hD⟩ := hJ9
            refine g5_rs [(b_o, (oc12 0 u_sa b_rf b_ro b_im b_ke u_fd b_tp u_td u_fr u_to u_so u_wo u_fa u_bd u_nc b_nl u_co b_op b_ar u_le b_pi b_pa u_pd u_od b_ws b_hw z66 b_se b_re z67 z68 z69 z70 z71 z72 z73 z74 b_pt z75 z76 b_ip u_ic b_ah b_be b_me u_wd b_tr b_ld u_st b_wn u_id)), (b_ro, (arI G 5740 v_ro)), (b_se, (arJ G 13 z77)), (b_re, (arJ G 400 z78)), (b_pt, (arI G 200 z79))] hP hD ?_
            clear hP hD
            intro hP hD
            refine g5_ti (v := z65) y80 ?_
            refine lv_if_ne (tgt := 120) hx hb dX12_hang_63 (by decide +kernel) (fun c_81 => ?_) (fun c_81 => ?_)
            ·
              have n_81 : gNe (z65.toInt) (0) := g5_ne (a := z65.toInt) (b := 0) rfl (by decide +kernel) c_81
              refine lv_iinc (v := (k29_5 + 1)) (lv' := [(5, .int (k29_5 + 1)), (2, .int k29_2), (3, .int k29_3), (4, .int k29_4), (0, .ref b_o), (1, .int p_1)]) hx hb dX12_hang_120 hl (k := 3) rfl rfl (by decide +kernel) rfl ?_
              clear hl
              intro ls hl
              have t_82 : (k29_5 + 1).toInt = k29_5.toInt + 1 := g5_iadd (a := k29_5.toInt) (b := 1) rfl (by decide +kernel) (by omega) (by omega)
              refine lv_goto (tgt := 29) hx hb dX12_hang_123 (by decide +kernel) ?_
              exact ih_29_14 ((k29_5 + 1), k29_4, k29_3, k29_2, z66, z67, z68, z69, z70, z71, z72, z73, z74, z75, z76, z77, z78, z79) ls H locs (show Int.toNat (256 - (k29_5 + 1).toInt) < Int.toNat (256 - k29_5.toInt) from g_up (show k29_5.toInt < (k29_5 + 1).toInt by omega) (show k29_5.toInt < 256 by omega)) ⟨lv_sub hl [1, 2, 3, 0, 4, 5] rfl, hP, hD, hS, ⟨by omega, by omega⟩, i_57, i_58, i_59, i_60, i_61, i_62, i_63, i_64⟩
            ·
              have i_81 : z65.toInt = 0 := g5_neN (a := z65.toInt) (b := 0) rfl (by decide +kernel) c_81
              refine lv_iload_n hx hb dX12_hang_66 rfl (lv_at hl 0 rfl) ?_
              refine lv_iconst (v := (-1)) hx hb dX12_hang_67 (by decide +kernel) ?_
              refine lv_icmp_eq (tgt := 80) hx hb dX12_hang_68 (by decide +kernel) (fun c_83 => ?_) (fun c_83 => ?_)
              ·
                have i_83 : k29_2.toInt = (-1) := g5_eq (a := k29_2.toInt) (b := (-1)) rfl (by decide +kernel) c_83
                refine lv_iconst (v := 1) hx hb dX12_hang_80 (by decide +kernel) ?_
                refine lv_goto (tgt := 85) hx hb dX12_hang_81 (by decide +kernel) ?_
                refine lv_istore (lv' := [(6, .int 1), (2, .int k29_2), (3, .int k29_3), (4, .int k29_4), (5, .int k29_5), (0, .ref b_o), (1, .int p_1)]) hx hb dX12_hang_85 hl (by decide +kernel) rfl ?_
                clear hl
                intro ls hl
                refine lv_iload hx hb dX12_hang_87 (lv_at hl 0 rfl) ?_
                refine lv_if_eq (tgt := 96) hx hb dX12_hang_89 (by decide +kernel) (fun c_84 => ?_) (fun c_84 => ?_)
                ·
                  exact absurd c_84 (by decide +kernel)
                ·
                  refine lv_iconst (v := 1) hx hb dX12_hang_92 (by decide +kernel) ?_
                  refine lv_goto (tgt := 99) hx hb dX12_hang_93 (by decide +kernel) ?_
                  refine lv_istore_n (lv' := [(3, .int 1), (6, .int 1), (2, .int k29_2), (4, .int k29_4), (5, .int k29_5), (0, .ref b_o), (1, .int p_1)]) hx hb dX12_hang_99 rfl hl (by decide +kernel) rfl ?_
                  clear hl
                  intro ls hl
                  refine lv_iload hx hb dX12_hang_100 (lv_at hl 1 rfl) ?_
                  refine lv_if_eq (tgt := 110) hx hb dX12_hang_102 (by decide +kernel) (fun c_85 => ?_) (fun c_85 => ?_)
                  ·
                    exact absurd c_85 (by decide +kernel)
                  ·
                    refine lv_iload hx hb dX12_hang_105 (lv_at hl 4 rfl) ?_
                    refine lv_goto (tgt := 112) hx hb dX12_hang_107 (by decide +kernel) ?_
                    refine lv_istore (lv' := [(4, .int k29_5), (3, .int 1), (6, .int 1), (2, .int k29_2), (5, .int k29_5), (0, .ref b_o), (1, .int p_1)]) hx hb dX12_hang_112 hl (by decide +kernel) rfl ?_
                    clear hl
                    intro ls hl
                    refine lv_iload hx hb dX12_hang_114 (lv_at hl 4 rfl) ?_
                    obtain ⟨hPc, hDc, hFc⟩ := g5_sub3 (wc := []) hP hD hS hA [] (by decide +kernel) rfl
                    refine va_calli (va_runS (As := [.int k29_5]) (rest := []) ⟨hx, hb, hml, hown, hts⟩ (n_bits l G H.size k29_5) (va_cwS 1 hts gS_X12_463 rfl rfl rfl hs_X12_bits ⟨Nat.le_of_ble_eq_true rfl, Nat.le_of_ble_eq_true rfl⟩) (g5_preS hPc hK hDc hN hT hS hFc) rfl rfl hl.1 rfl (lv_room (Nat.le_of_ble_eq_true rfl)) dX12_hang_116 ⟨Nat.le_of_ble_eq_true rfl, Nat.le_of_ble_eq_true rfl⟩) hS (fun q _ h => hFc q h) hFc (fun r u t H locs ht hvm hw hB hz1 hk1 hS => ?_)
                    obtain ⟨hP1, hD1⟩ := hB
                    have hP1 := g5_ht ht hP1
                    obtain ⟨z86, y87, rfl⟩ := hw
                    have hJ9 := g5_same hP hk1
                    clear hP hPc hDc hFc ht hvm hz1 hk1 hP1 hD1
                    have hP := hJ9
                    clear hJ9
                    refine g5_ti (v := z86) y87 ?_
                    refine lv_istore_n (lv' := [(2, .int z86), (4, .int k29_5), (3, .int 1), (6, .int 1), (5, .int k29_5), (0, .ref b_o), (1, .int p_1)]) hx hb dX12_hang_119 rfl hl (by decide +kernel) rfl ?_
                    clear hl
                    intro ls hl
                    refine lv_iinc (v := (k29_5 + 1)) (lv' := [(5, .int (k29_5 + 1)), (2, .int z86), (4, .int k29_5), (3, .int 1), (6, .int 1), (0, .ref b_o), (1, .int p_1)]) hx hb dX12_hang_120 hl (k := 4) rfl rfl (by decide +kernel) rfl ?_
                    clear hl
                    intro ls hl
                    have t_88 : (k29_5 + 1).toInt = k29_5.toInt + 1 := g5_iadd (a := k29_5.toInt) (b := 1) rfl (by decide +kernel) (by omega) (by omega)
                    refine lv_goto (tgt := 29) hx hb dX12_hang_123 (by decide +kernel) ?_
                    exact ih_29_14 ((k29_5 + 1), k29_5, 1, z86, z66, z67, z68, z69, z70, z71, z72, z73, z74, z75, z76, z77, z78, z79) ls H locs (show Int.toNat (256 - (k29_5 + 1).toInt) < Int.toNat (256 - k29_5.toInt) from g_up (show k29_5.toInt < (k29_5 + 1).toInt by omega) (show k29_5.toInt < 256 by omega)) ⟨lv_sub hl [1, 3, 2, 0, 5, 6] rfl, hP, hD, hS, ⟨by omega, by omega⟩, i_57, i_58, i_59, i_60, i_61, i_62, i_63, i_64⟩
              ·
                have n_83 : gNe (k29_2.toInt) ((-1)) := g5_eqN (a := k29_2.toInt) (b := (-1)) rfl (by decide +kernel) c_83
                refine lv_iload hx hb dX12_hang_71 (lv_at hl 3 rfl) ?_
                obtain ⟨hPc, hDc, hFc⟩ := g5_sub3 (wc := []) hP hD hS hA [] (by decide +kernel) rfl
                refine va_calli (va_runS (As := [.int k29_5]) (rest := []) ⟨hx, hb, hml, hown, hts⟩ (n_bits l G H.size k29_5) (va_cwS 1 hts gS_X12_463 rfl rfl rfl hs_X12_bits ⟨Nat.le_of_ble_eq_true rfl, Nat.le_of_ble_eq_true rfl⟩) (g5_preS hPc hK hDc hN hT hS hFc) rfl rfl hl.1 rfl (lv_room (Nat.le_of_ble_eq_true rfl)) dX12_hang_73 ⟨Nat.le_of_ble_eq_true rfl, Nat.le_of_ble_eq_true rfl⟩) hS (fun q _ h => hFc q h) hFc (fun r u t H locs ht hvm hw hB hz1 hk1 hS => ?_)
                obtain ⟨hP1, hD1⟩ := hB
                have hP1 := g5_ht ht hP1
                obtain ⟨z89, y90, rfl⟩ := hw
                have hJ9 := g5_same hP hk1
                clear hP hPc hDc hFc ht hvm hz1 hk1 hP1 hD1
                have hP := hJ9
                clear hJ9
                refine g5_ti (v := z89) y90 ?_
                refine lv_iload_n hx hb dX12_hang_76 rfl (lv_at hl 0 rfl) ?_
                refine lv_icmp_ge (tgt := 84) hx hb dX12_hang_77 (by decide +kernel) (fun c_91 => ?_) (fun c_91 => ?_)
                ·
                  have i_91 : z89.toInt ≥ k29_2.toInt := g5_ge (a := z89.toInt) (b := k29_2.toInt) rfl rfl c_91
                  refine lv_iconst (v := 0) hx hb dX12_hang_84 (by decide +kernel) ?_
                  refine lv_istore (lv' := [(6, .int 0), (2, .int k29_2), (3, .int k29_3), (4, .int k29_4), (5, .int k29_5), (0, .ref b_o), (1, .int p_1)]) hx hb dX12_hang_85 hl (by decide +kernel) rfl ?_
                  clear hl
                  intro ls hl
                  refine lv_iload hx hb dX12_hang_87 (lv_at hl 0 rfl) ?_
                  refine lv_if_eq (tgt := 96) hx hb dX12_hang_89 (by decide +kernel) (fun c_92 => ?_) (fun c_92 => ?_)
                  ·
                    refine lv_iload_n hx hb dX12_hang_96 rfl (lv_at hl 2 rfl) ?_
                    refine lv_iconst (v := 1) hx hb dX12_hang_97 (by decide +kernel) ?_
                    refine lv_iadd hx hb dX12_hang_98 ?_
                    refine lv_istore_n (lv' := [(3, .int (k29_3 + 1)), (6, .int 0), (2, .int k29_2), (4, .int k29_4), (5, .int k29_5), (0, .ref b_o), (1, .int p_1)]) hx hb dX12_hang_99 rfl hl (by decide +kernel) rfl ?_
                    clear hl
                    intro ls hl
                    refine lv_iload hx hb dX12_hang_100 (lv_at hl 1 rfl) ?_
                    refine lv_if_eq (tgt := 110) hx hb dX12_hang_102 (by decide +kernel) (fun c_93 => ?_) (fun c_93 => ?_)
                    ·
                      refine lv_iload hx hb dX12_hang_110 (lv_at hl 3 rfl) ?_
                      refine lv_istore (lv' := [(4, .int k29_4), (3, .int (k29_3 + 1)), (6, .int 0), (2, .int k29_2), (5, .int k29_5), (0, .ref b_o), (1, .int p_1)]) hx hb dX12_hang_112 hl (by decide +kernel) rfl ?_
                      clear hl
                      intro ls hl
                      refine lv_iload hx hb dX12_hang_114 (lv_at hl 4 rfl) ?_
                      obtain ⟨hPc, hDc, hFc⟩ := g5_sub3 (wc := []) hP hD hS hA [] (by decide +kernel) rfl
                      refine va_calli (va_runS (As := [.int k29_5]) (rest := []) ⟨hx, hb, hml, hown, hts⟩ (n_bits l G H.size k29_5) (va_cwS 1 hts gS_X12_463 rfl rfl rfl hs_X12_bits ⟨Nat.le_of_ble_eq_true rfl, Nat.le_of_ble_eq_true rfl⟩) (g5_preS hPc hK hDc hN hT hS hFc) rfl rfl hl.1 rfl (lv_room (Nat.le_of_ble_eq_true rfl)) dX12_hang_116 ⟨Nat.le_of_ble_eq_true rfl, Nat.le_of_ble_eq_true rfl⟩) hS (fun q _ h => hFc q h) hFc (fun r u t H locs ht hvm hw hB hz1 hk1 hS => ?_)
                      obtain ⟨hP1, hD1⟩ := hB
                      have hP1 := g5_ht ht hP1
                      obtain ⟨z94, y95, rfl⟩ := hw
                      have hJ9 := g5_same hP hk1
                      clear hP hPc hDc hFc ht hvm hz1 hk1 hP1 hD1
                      have hP := hJ9
                      clear hJ9
                      refine g5_ti (v := z94) y95 ?_
                      refine lv_istore_n (lv' := [(2, .int z94), (4, .int k29_4), (3, .int (k29_3 + 1)), (6, .int 0), (5, .int k29_5), (0, .ref b_o), (1, .int p_1)]) hx hb dX12_hang_119 rfl hl (by decide +kernel) rfl ?_
                      clear hl
                      intro ls hl
                      refine lv_iinc (v := (k29_5 + 1)) (lv' := [(5, .int (k29_5 + 1)), (2, .int z94), (4, .int k29_4), (3, .int (k29_3 + 1)), (6, .int 0), (0, .ref b_o), (1, .int p_1)]) hx hb dX12_hang_120 hl (k := 4) rfl rfl (by decide +kernel) rfl ?_
                      clear hl
                      intro ls hl
                      have t_96 : (k29_5 + 1).toInt = k29_5.toInt + 1 := g5_iadd (a := k29_5.toInt) (b := 1) rfl (by decide +kernel) (by omega) (by omega)
                      refine lv_goto (tgt := 29) hx hb dX12_hang_123 (by decide +kernel) ?_
                      exact ih_29_14 ((k29_5 + 1), k29_4, (k29_3 + 1), z94, z66, z67, z68, z69, z70, z71, z72, z73, z74, z75, z76, z77, z78, z79) ls H locs (show Int.toNat (256 - (k29_5 + 1).toInt) < Int.toNat (256 - k29_5.toInt) from g_up (show k29_5.toInt < (k29_5 + 1).toInt by omega) (show k29_5.toInt < 256 by omega)) ⟨lv_sub hl [1, 3, 2, 0, 5, 6] rfl, hP, hD, hS, ⟨by omega, by omega⟩, i_57, i_58, i_59, i_60, i_61, i_62, i_63, i_64⟩
                    ·
                      exact absurd c_93 (by decide +kernel)
                  ·
                    exact absurd c_92 (by decide +kernel)
                ·
                  have i_91 : z89.toInt < k29_2.toInt := g5_geN (a := z89.toInt) (b := k29_2.toInt) rfl rfl c_91
                  refine lv_iconst (v := 1) hx hb dX12_hang_80 (by decide +kernel) ?_
                  refine lv_goto (tgt := 85) hx hb dX12_hang_81 (by decide +kernel) ?_
                  refine lv_istore (lv' := [(6, .int 1), (2, .int k29_2), (3, .int k29_3), (4, .int k29_4), (5, .int k29_5), (0, .ref b_o), (1, .int p_1)]) hx hb dX12_hang_85 hl (by decide +kernel) rfl ?_
                  clear hl
                  intro ls hl
                  refine lv_iload hx hb dX12_hang_87 (lv_at hl 0 rfl) ?_
                  refine lv_if_eq (tgt := 96) hx hb dX12_hang_89 (by decide +kernel) (fun c_97 => ?_) (fun c_97 => ?_)
                  ·
                    exact absurd c_97 (by decide +kernel)
                  ·
                    refine lv_iconst (v := 1) hx hb dX12_hang_92 (by decide +kernel) ?_
                    refine lv_goto (tgt := 99) hx hb dX12_hang_93 (by decide +kernel) ?_
                    refine lv_istore_n (lv' := [(3, .int 1), (6, .int 1), (2, .int k29_2), (4, .int k29_4), (5, .int k29_5), (0, .ref b_o), (1, .int p_1)]) hx hb dX12_hang_99 rfl hl (by decide +kernel) rfl ?_
                    clear hl
                    intro ls hl
                    refine lv_iload hx hb dX12_hang_100 (lv_at hl 1 rfl) ?_
                    refine lv_if_eq (tgt := 110) hx hb dX12_hang_102 (by decide +kernel) (fun c_98 => ?_) (fun c_98 => ?_)
                    ·
                      exact absurd c_98 (by decide +kernel)
                    ·
                      refine lv_iload hx hb dX12_hang_105 (lv_at hl 4 rfl) ?_
                      refine lv_goto (tgt := 112) hx hb dX12_hang_107 (by decide +kernel) ?_
                      refine lv_istore (lv' := [(4, .int k29_5), (3, .int 1), (6, .int 1), (2, .int k29_2), (5, .int k29_5), (0, .ref b_o), (1, .int p_1)]) hx hb dX12_hang_112 hl (by decide +kernel) rfl ?_
                      clear hl
                      intro ls hl
                      refine lv_iload hx hb dX12_hang_114 (lv_at hl 4 rfl) ?_
                      obtain ⟨hPc, hDc, hFc⟩ := g5_sub3 (wc := []) hP hD hS hA [] (by decide +kernel) rfl
                      refine va_calli (va_runS (As := [.int k29_5]) (rest := []) ⟨hx, hb, hml, hown, hts⟩ (n_bits l G H.size k29_5) (va_cwS 1 hts gS_X12_463 rfl rfl rfl hs_X12_bits ⟨Nat.le_of_ble_eq_true rfl, Nat.le_of_ble_eq_true rfl⟩) (g5_preS hPc hK hDc hN hT hS hFc) rfl rfl hl.1 rfl (lv_room (Nat.le_of_ble_eq_true rfl)) dX12_hang_116 ⟨Nat.le_of_ble_eq_true rfl, Nat.le_of_ble_eq_true rfl⟩) hS (fun q _ h => hFc q h) hFc (fun r u t H locs ht hvm hw hB hz1 hk1 hS => ?_)
                      obtain ⟨hP1, hD1⟩ := hB
                      have hP1 := g5_ht ht hP1
                      obtain ⟨z99, y100, rfl⟩ := hw
                      have hJ9 := g5_same hP hk1
                      clear hP hPc hDc hFc ht hvm hz1 hk1 hP1 hD1
                      have hP := hJ9
                      clear hJ9
                      refine g5_ti (v := z99) y100 ?_
                      refine lv_istore_n (lv' := [(2, .int z99), (4, .int k29_5), (3, .int 1), (6, .int 1), (5, .int k29_5), (0, .ref b_o), (1, .int p_1)]) hx hb dX12_hang_119 rfl hl (by decide +kernel) rfl ?_
                      clear hl
                      intro ls hl
                      refine lv_iinc (v := (k29_5 + 1)) (lv' := [(5, .int (k29_5 + 1)), (2, .int z99), (4, .int k29_5), (3, .int 1), (6, .int 1), (0, .ref b_o), (1, .int p_1)]) hx hb dX12_hang_120 hl (k := 4) rfl rfl (by decide +kernel) rfl ?_
                      clear hl
                      intro ls hl
                      have t_101 : (k29_5 + 1).toInt = k29_5.toInt + 1 := g5_iadd (a := k29_5.toInt) (b := 1) rfl (by decide +kernel) (by omega) (by omega)
                      refine lv_goto (tgt := 29) hx hb dX12_hang_123 (by decide +kernel) ?_
                      exact ih_29_14 ((k29_5 + 1), k29_5, 1, z99, z66, z67, z68, z69, z70, z71, z72, z73, z74, z75, z76, z77, z78, z79) ls H locs (show Int.toNat (256 - (k29_5 + 1).toInt) < Int.toNat (256 - k29_5.toInt) from g_up (show k29_5.toInt < (k29_5 + 1).toInt by omega) (show k29_5.toInt < 256 by omega)) ⟨lv_sub hl [1, 3, 2, 0, 5, 6] rfl, hP, hD, hS, ⟨by omega, by omega⟩, i_57, i_58, i_59, i_60, i_61, i_62, i_63, i_64⟩
    ·
      exact absurd c_4 (by decide +kernel)
theorem dgX12_wander_0 : ∀ r ∈ ([(0, (.aload_n 0, 1)), (1, (.iconst 0, 1)), (2, (.putfield 107, 3)), (5, (.iload_n 1, 1)), (6, (.i2l, 1)), (7, (.lconst 0, 1)), (8, (.ldc2_w 190, 3)), (11, (.invokestatic 121, 3)), (14, (.ifCond .eq 10, 3)), (17, (.iload_n 2, 1)), (18, (.invokestatic 138, 3)), (21, (.ifCond .ne 9, 3)), (24, (.aload_n 0, 1)), (25, (.iconst (-1), 1)), (26, (.invokevirtual 125, 3)), (29, (.ireturn, 1)), (30, (.aload_n 0, 1)), (31, (.iload_n 2, 1)), (32, (.invokevirtual 160, 3)), (35, (.ifCond .eq 10, 3)), (38, (.aload_n 0, 1)), (39, (.bipush (-3), 2)), (41, (.invokevirtual 125, 3)), (44, (.ireturn, 1)), (45, (.aload_n 0, 1)), (46, (.iload_n 1, 1)), (47, (.i2l, 1)), (48, (.putfield 469, 3)), (51, (.iload_n 2, 1)), (52, (.istore_n 3, 1)), (53, (.iconst 0, 1)), (54, (.istore 4, 2)), (56, (.iload 4, 2)), (58, (.bipush 24, 2)), (60, (.if_icmp .ge 102, 3)), (63, (.iload 4, 2)), (65, (.ifCond .le 83, 3)), (68, (.aload_n 0, 1)), (69, (.aload_n 0, 1)), (70, (.getfield 469, 3))] : List (Nat × (Instr × Nat))), decode cX12_wander r.1 = .ok r.2 := by decide +kernel
theorem dX12_wander_0 : decode cX12_wander 0 = .ok (.aload_n 0, 1) := dgX12_wander_0 (0, (.aload_n 0, 1)) (List.mem_of_getElem? (i := 0) rfl)
theorem dX12_wander_1 : decode cX12_wander 1 = .ok (.iconst 0, 1) := dgX12_wander_0 (1, (.iconst 0, 1)) (List.mem_of_getElem? (i := 1) rfl)
theorem dX12_wander_2 : decode cX12_wander 2 = .ok (.putfield 107, 3) := dgX12_wander_0 (2, (.putfield 107, 3)) (List.mem_of_getElem? (i := 2) rfl)
theorem dX12_wander_5 : decode cX12_wander 5 = .ok (.iload_n 1, 1) := dgX12_wander_0 (5, (.iload_n 1, 1)) (List.mem_of_getElem? (i := 3) rfl)
theorem dX12_wander_6 : decode cX12_wander 6 = .ok (.i2l, 1) := dgX12_wander_0 (6, (.i2l, 1)) (List.mem_of_getElem? (i := 4) rfl)
theorem dX12_wander_7 : decode cX12_wander 7 = .ok (.lconst 0, 1) := dgX12_wander_0 (7, (.lconst 0, 1)) (List.mem_of_getElem? (i := 5) rfl)
theorem dX12_wander_8 : decode cX12_wander 8 = .ok (.ldc2_w 190, 3) := dgX12_wander_0 (8, (.ldc2_w 190, 3)) (List.mem_of_getElem? (i := 6) rfl)
theorem dX12_wander_11 : decode cX12_wander 11 = .ok (.invokestatic 121, 3) := dgX12_wander_0 (11, (.invokestatic 121, 3)) (List.mem_of_getElem? (i := 7) rfl)
theorem dX12_wander_14 : decode cX12_wander 14 = .ok (.ifCond .eq 10, 3) := dgX12_wander_0 (14, (.ifCond .eq 10, 3)) (List.mem_of_getElem? (i := 8) rfl)
theorem dX12_wander_17 : decode cX12_wander 17 = .ok (.iload_n 2, 1) := dgX12_wander_0 (17, (.iload_n 2, 1)) (List.mem_of_getElem? (i := 9) rfl)
theorem dX12_wander_18 : decode cX12_wander 18 = .ok (.invokestatic 138, 3) := dgX12_wander_0 (18, (.invokestatic 138, 3)) (List.mem_of_getElem? (i := 10) rfl)
theorem dX12_wander_21 : decode cX12_wander 21 = .ok (.ifCond .ne 9, 3) := dgX12_wander_0 (21, (.ifCond .ne 9, 3)) (List.mem_of_getElem? (i := 11) rfl)
theorem dX12_wander_24 : decode cX12_wander 24 = .ok (.aload_n 0, 1) := dgX12_wander_0 (24, (.aload_n 0, 1)) (List.mem_of_getElem? (i := 12) rfl)
theorem dX12_wander_25 : decode cX12_wander 25 = .ok (.iconst (-1), 1) := dgX12_wander_0 (25, (.iconst (-1), 1)) (List.mem_of_getElem? (i := 13) rfl)
theorem dX12_wander_26 : decode cX12_wander 26 = .ok (.invokevirtual 125, 3) := dgX12_wander_0 (26, (.invokevirtual 125, 3)) (List.mem_of_getElem? (i := 14) rfl)
theorem dX12_wander_29 : decode cX12_wander 29 = .ok (.ireturn, 1) := dgX12_wander_0 (29, (.ireturn, 1)) (List.mem_of_getElem? (i := 15) rfl)
theorem dX12_wander_30 : decode cX12_wander 30 = .ok (.aload_n 0, 1) := dgX12_wander_0 (30, (.aload_n 0, 1)) (List.mem_of_getElem? (i := 16) rfl)
theorem dX12_wander_31 : decode cX12_wander 31 = .ok (.iload_n 2, 1) := dgX12_wander_0 (31, (.iload_n 2, 1)) (List.mem_of_getElem? (i := 17) rfl)
theorem dX12_wander_32 : decode cX12_wander 32 = .ok (.invokevirtual 160, 3) := dgX12_wander_0 (32, (.invokevirtual 160, 3)) (List.mem_of_getElem? (i := 18) rfl)
theorem dX12_wander_35 : decode cX12_wander 35 = .ok (.ifCond .eq 10, 3) := dgX12_wander_0 (35, (.ifCond .eq 10, 3)) (List.mem_of_getElem? (i := 19) rfl)
theorem dX12_wander_38 : decode cX12_wander 38 = .ok (.aload_n 0, 1) := dgX12_wander_0 (38, (.aload_n 0, 1)) (List.mem_of_getElem? (i := 20) rfl)
theorem dX12_wander_39 : decode cX12_wander 39 = .ok (.bipush (-3), 2) := dgX12_wander_0 (39, (.bipush (-3), 2)) (List.mem_of_getElem? (i := 21) rfl)
theorem dX12_wander_41 : decode cX12_wander 41 = .ok (.invokevirtual 125, 3) := dgX12_wander_0 (41, (.invokevirtual 125, 3)) (List.mem_of_getElem? (i := 22) rfl)
theorem dX12_wander_44 : decode cX12_wander 44 = .ok (.ireturn, 1) := dgX12_wander_0 (44, (.ireturn, 1)) (List.mem_of_getElem? (i := 23) rfl)
theorem dX12_wander_45 : decode cX12_wander 45 = .ok (.aload_n 0, 1) := dgX12_wander_0 (45, (.aload_n 0, 1)) (List.mem_of_getElem? (i := 24) rfl)
theorem dX12_wander_46 : decode cX12_wander 46 = .ok (.iload_n 1, 1) := dgX12_wander_0 (46, (.iload_n 1, 1)) (List.mem_of_getElem? (i := 25) rfl)
theorem dX12_wander_47 : decode cX12_wander 47 = .ok (.i2l, 1) := dgX12_wander_0 (47, (.i2l, 1)) (List.mem_of_getElem? (i := 26) rfl)
theorem dX12_wander_48 : decode cX12_wander 48 = .ok (.putfield 469, 3) := dgX12_wander_0 (48, (.putfield 469, 3)) (List.mem_of_getElem? (i := 27) rfl)
theorem dX12_wander_51 : decode cX12_wander 51 = .ok (.iload_n 2, 1) := dgX12_wander_0 (51, (.iload_n 2, 1)) (List.mem_of_getElem? (i := 28) rfl)
theorem dX12_wander_52 : decode cX12_wander 52 = .ok (.istore_n 3, 1) := dgX12_wander_0 (52, (.istore_n 3, 1)) (List.mem_of_getElem? (i := 29) rfl)
theorem dX12_wander_53 : decode cX12_wander 53 = .ok (.iconst 0, 1) := dgX12_wander_0 (53, (.iconst 0, 1)) (List.mem_of_getElem? (i := 30) rfl)
theorem dX12_wander_54 : decode cX12_wander 54 = .ok (.istore 4, 2) := dgX12_wander_0 (54, (.istore 4, 2)) (List.mem_of_getElem? (i := 31) rfl)
theorem dX12_wander_56 : decode cX12_wander 56 = .ok (.iload 4, 2) := dgX12_wander_0 (56, (.iload 4, 2)) (List.mem_of_getElem? (i := 32) rfl)
theorem dX12_wander_58 : decode cX12_wander 58 = .ok (.bipush 24, 2) := dgX12_wander_0 (58, (.bipush 24, 2)) (List.mem_of_getElem? (i := 33) rfl)
theorem dX12_wander_60 : decode cX12_wander 60 = .ok (.if_icmp .ge 102, 3) := dgX12_wander_0 (60, (.if_icmp .ge 102, 3)) (List.mem_of_getElem? (i := 34) rfl)
theorem dX12_wander_63 : decode cX12_wander 63 = .ok (.iload 4, 2) := dgX12_wander_0 (63, (.iload 4, 2)) (List.mem_of_getElem? (i := 35) rfl)
theorem dX12_wander_65 : decode cX12_wander 65 = .ok (.ifCond .le 83, 3) := dgX12_wander_0 (65, (.ifCond .le 83, 3)) (List.mem_of_getElem? (i := 36) rfl)
theorem dX12_wander_68 : decode cX12_wander 68 = .ok (.aload_n 0, 1) := dgX12_wander_0 (68, (.aload_n 0, 1)) (List.mem_of_getElem? (i := 37) rfl)
theorem dX12_wander_69 : decode cX12_wander 69 = .ok (.aload_n 0, 1) := dgX12_wander_0 (69, (.aload_n 0, 1)) (List.mem_of_getElem? (i := 38) rfl)
theorem dX12_wander_70 : decode cX12_wander 70 = .ok (.getfield 469, 3) := dgX12_wander_0 (70, (.getfield 469, 3)) (List.mem_of_getElem? (i := 39) rfl)
theorem dgX12_wander_1 : ∀ r ∈ ([(73, (.ldc2_w 472, 3)), (76, (.lmul, 1)), (77, (.ldc2_w 474, 3)), (80, (.ladd, 1)), (81, (.ldc2_w 476, 3)), (84, (.lrem, 1)), (85, (.putfield 469, 3)), (88, (.aload_n 0, 1)), (89, (.getfield 469, 3)), (92, (.ldc2_w 154, 3)), (95, (.lrem, 1)), (96, (.l2i, 1)), (97, (.istore 5, 2)), (99, (.iload 5, 2)), (101, (.iconst 4, 1)), (102, (.if_icmp .ne 7, 3)), (105, (.iload_n 3, 1)), (106, (.goto 9, 3)), (109, (.iload_n 3, 1)), (110, (.iload 5, 2)), (112, (.invokestatic 374, 3)), (115, (.istore 6, 2)), (117, (.iload 6, 2)), (119, (.iconst (-1), 1)), (120, (.if_icmp .eq 26, 3)), (123, (.aload_n 0, 1)), (124, (.iload 6, 2)), (126, (.ifCond .ge 7, 3)), (129, (.iconst 0, 1)), (130, (.goto 5, 3)), (133, (.iload 6, 2)), (135, (.invokevirtual 160, 3)), (138, (.ifCond .ne 8, 3)), (141, (.iload 6, 2)), (143, (.goto 4, 3)), (146, (.iload_n 3, 1)), (147, (.istore_n 3, 1)), (148, (.aload_n 0, 1)), (149, (.getfield 104, 3)), (152, (.iload 4, 2))] : List (Nat × (Instr × Nat))), decode cX12_wander r.1 = .ok r.2 := by decide +kernel
theorem dX12_wander_73 : decode cX12_wander 73 = .ok (.ldc2_w 472, 3) := dgX12_wander_1 (73, (.ldc2_w 472, 3)) (List.mem_of_getElem? (i := 0) rfl)
theorem dX12_wander_76 : decode cX12_wander 76 = .ok (.lmul, 1) := dgX12_wander_1 (76, (.lmul, 1)) (List.mem_of_getElem? (i := 1) rfl)
theorem dX12_wander_77 : decode cX12_wander 77 = .ok (.ldc2_w 474, 3) := dgX12_wander_1 (77, (.ldc2_w 474, 3)) (List.mem_of_getElem? (i := 2) rfl)
theorem dX12_wander_80 : decode cX12_wander 80 = .ok (.ladd, 1) := dgX12_wander_1 (80, (.ladd, 1)) (List.mem_of_getElem? (i := 3) rfl)
theorem dX12_wander_81 : decode cX12_wander 81 = .ok (.ldc2_w 476, 3) := dgX12_wander_1 (81, (.ldc2_w 476, 3)) (List.mem_of_getElem? (i := 4) rfl)
theorem dX12_wander_84 : decode cX12_wander 84 = .ok (.lrem, 1) := dgX12_wander_1 (84, (.lrem, 1)) (List.mem_of_getElem? (i := 5) rfl)
theorem dX12_wander_85 : decode cX12_wander 85 = .ok (.putfield 469, 3) := dgX12_wander_1 (85, (.putfield 469, 3)) (List.mem_of_getElem? (i := 6) rfl)
theorem dX12_wander_88 : decode cX12_wander 88 = .ok (.aload_n 0, 1) := dgX12_wander_1 (88, (.aload_n 0, 1)) (List.mem_of_getElem? (i := 7) rfl)
theorem dX12_wander_89 : decode cX12_wander 89 = .ok (.getfield 469, 3) := dgX12_wander_1 (89, (.getfield 469, 3)) (List.mem_of_getElem? (i := 8) rfl)
theorem dX12_wander_92 : decode cX12_wander 92 = .ok (.ldc2_w 154, 3) := dgX12_wander_1 (92, (.ldc2_w 154, 3)) (List.mem_of_getElem? (i := 9) rfl)
theorem dX12_wander_95 : decode cX12_wander 95 = .ok (.lrem, 1) := dgX12_wander_1 (95, (.lrem, 1)) (List.mem_of_getElem? (i := 10) rfl)
theorem dX12_wander_96 : decode cX12_wander 96 = .ok (.l2i, 1) := dgX12_wander_1 (96, (.l2i, 1)) (List.mem_of_getElem? (i := 11) rfl)
theorem dX12_wander_97 : decode cX12_wander 97 = .ok (.istore 5, 2) := dgX12_wander_1 (97, (.istore 5, 2)) (List.mem_of_getElem? (i := 12) rfl)
theorem dX12_wander_99 : decode cX12_wander 99 = .ok (.iload 5, 2) := dgX12_wander_1 (99, (.iload 5, 2)) (List.mem_of_getElem? (i := 13) rfl)
theorem dX12_wander_101 : decode cX12_wander 101 = .ok (.iconst 4, 1) := dgX12_wander_1 (101, (.iconst 4, 1)) (List.mem_of_getElem? (i := 14) rfl)
theorem dX12_wander_102 : decode cX12_wander 102 = .ok (.if_icmp .ne 7, 3) := dgX12_wander_1 (102, (.if_icmp .ne 7, 3)) (List.mem_of_getElem? (i := 15) rfl)
theorem dX12_wander_105 : decode cX12_wander 105 = .ok (.iload_n 3, 1) := dgX12_wander_1 (105, (.iload_n 3, 1)) (List.mem_of_getElem? (i := 16) rfl)
theorem dX12_wander_106 : decode cX12_wander 106 = .ok (.goto 9, 3) := dgX12_wander_1 (106, (.goto 9, 3)) (List.mem_of_getElem? (i := 17) rfl)
theorem dX12_wander_109 : decode cX12_wander 109 = .ok (.iload_n 3, 1) := dgX12_wander_1 (109, (.iload_n 3, 1)) (List.mem_of_getElem? (i := 18) rfl)
theorem dX12_wander_110 : decode cX12_wander 110 = .ok (.iload 5, 2) := dgX12_wander_1 (110, (.iload 5, 2)) (List.mem_of_getElem? (i := 19) rfl)
theorem dX12_wander_112 : decode cX12_wander 112 = .ok (.invokestatic 374, 3) := dgX12_wander_1 (112, (.invokestatic 374, 3)) (List.mem_of_getElem? (i := 20) rfl)
theorem dX12_wander_115 : decode cX12_wander 115 = .ok (.istore 6, 2) := dgX12_wander_1 (115, (.istore 6, 2)) (List.mem_of_getElem? (i := 21) rfl)
theorem dX12_wander_117 : decode cX12_wander 117 = .ok (.iload 6, 2) := dgX12_wander_1 (117, (.iload 6, 2)) (List.mem_of_getElem? (i := 22) rfl)
theorem dX12_wander_119 : decode cX12_wander 119 = .ok (.iconst (-1), 1) := dgX12_wander_1 (119, (.iconst (-1), 1)) (List.mem_of_getElem? (i := 23) rfl)
theorem dX12_wander_120 : decode cX12_wander 120 = .ok (.if_icmp .eq 26, 3) := dgX12_wander_1 (120, (.if_icmp .eq 26, 3)) (List.mem_of_getElem? (i := 24) rfl)
theorem dX12_wander_123 : decode cX12_wander 123 = .ok (.aload_n 0, 1) := dgX12_wander_1 (123, (.aload_n 0, 1)) (List.mem_of_getElem? (i := 25) rfl)
theorem dX12_wander_124 : decode cX12_wander 124 = .ok (.iload 6, 2) := dgX12_wander_1 (124, (.iload 6, 2)) (List.mem_of_getElem? (i := 26) rfl)
theorem dX12_wander_126 : decode cX12_wander 126 = .ok (.ifCond .ge 7, 3) := dgX12_wander_1 (126, (.ifCond .ge 7, 3)) (List.mem_of_getElem? (i := 27) rfl)
theorem dX12_wander_133 : decode cX12_wander 133 = .ok (.iload 6, 2) := dgX12_wander_1 (133, (.iload 6, 2)) (List.mem_of_getElem? (i := 30) rfl)
theorem dX12_wander_135 : decode cX12_wander 135 = .ok (.invokevirtual 160, 3) := dgX12_wander_1 (135, (.invokevirtual 160, 3)) (List.mem_of_getElem? (i := 31) rfl)
theorem dX12_wander_138 : decode cX12_wander 138 = .ok (.ifCond .ne 8, 3) := dgX12_wander_1 (138, (.ifCond .ne 8, 3)) (List.mem_of_getElem? (i := 32) rfl)
theorem dX12_wander_141 : decode cX12_wander 141 = .ok (.iload 6, 2) := dgX12_wander_1 (141, (.iload 6, 2)) (List.mem_of_getElem? (i := 33) rfl)
theorem dX12_wander_143 : decode cX12_wander 143 = .ok (.goto 4, 3) := dgX12_wander_1 (143, (.goto 4, 3)) (List.mem_of_getElem? (i := 34) rfl)
theorem dX12_wander_146 : decode cX12_wander 146 = .ok (.iload_n 3, 1) := dgX12_wander_1 (146, (.iload_n 3, 1)) (List.mem_of_getElem? (i := 35) rfl)
theorem dX12_wander_147 : decode cX12_wander 147 = .ok (.istore_n 3, 1) := dgX12_wander_1 (147, (.istore_n 3, 1)) (List.mem_of_getElem? (i := 36) rfl)
theorem dX12_wander_148 : decode cX12_wander 148 = .ok (.aload_n 0, 1) := dgX12_wander_1 (148, (.aload_n 0, 1)) (List.mem_of_getElem? (i := 37) rfl)
theorem dX12_wander_149 : decode cX12_wander 149 = .ok (.getfield 104, 3) := dgX12_wander_1 (149, (.getfield 104, 3)) (List.mem_of_getElem? (i := 38) rfl)
theorem dX12_wander_152 : decode cX12_wander 152 = .ok (.iload 4, 2) := dgX12_wander_1 (152, (.iload 4, 2)) (List.mem_of_getElem? (i := 39) rfl)
theorem dgX12_wander_2 : ∀ r ∈ ([(154, (.iload_n 3, 1)), (155, (.iastore, 1)), (156, (.iinc 4 1, 3)), (159, (.goto (-103), 3)), (162, (.aload_n 0, 1)), (163, (.iconst 1, 1)), (164, (.putfield 478, 3)), (167, (.aload_n 0, 1)), (168, (.invokevirtual 419, 3)), (171, (.iconst 0, 1)), (172, (.istore 4, 2)), (174, (.iconst 0, 1)), (175, (.istore 5, 2)), (177, (.iload 5, 2)), (179, (.bipush 24, 2)), (181, (.if_icmp .ge 40, 3)), (184, (.iload 4, 2)), (186, (.aload_n 0, 1)), (187, (.getfield 85, 3)), (190, (.bipush 64, 2)), (192, (.iload 5, 2)), (194, (.imul, 1)), (195, (.aload_n 0, 1)), (196, (.getfield 104, 3)), (199, (.iload 5, 2)), (201, (.iaload, 1)), (202, (.iadd, 1)), (203, (.baload, 1)), (204, (.ifCond .eq 7, 3)), (207, (.iconst 1, 1)), (208, (.goto 4, 3)), (211, (.iconst 0, 1)), (212, (.iadd, 1)), (213, (.istore 4, 2)), (215, (.iinc 5 1, 3)), (218, (.goto (-41), 3)), (221, (.aload_n 0, 1)), (222, (.iload 4, 2)), (224, (.invokevirtual 125, 3)), (227, (.ireturn, 1))] : List (Nat × (Instr × Nat))), decode cX12_wander r.1 = .ok r.2 := by decide +kernel
theorem dX12_wander_154 : decode cX12_wander 154 = .ok (.iload_n 3, 1) := dgX12_wander_2 (154, (.iload_n 3, 1)) (List.mem_of_getElem? (i := 0) rfl)
theorem dX12_wander_155 : decode cX12_wander 155 = .ok (.iastore, 1) := dgX12_wander_2 (155, (.iastore, 1)) (List.mem_of_getElem? (i := 1) rfl)
theorem dX12_wander_156 : decode cX12_wander 156 = .ok (.iinc 4 1, 3) := dgX12_wander_2 (156, (.iinc 4 1, 3)) (List.mem_of_getElem? (i := 2) rfl)
theorem dX12_wander_159 : decode cX12_wander 159 = .ok (.goto (-103), 3) := dgX12_wander_2 (159, (.goto (-103), 3)) (List.mem_of_getElem? (i := 3) rfl)
theorem dX12_wander_162 : decode cX12_wander 162 = .ok (.aload_n 0, 1) := dgX12_wander_2 (162, (.aload_n 0, 1)) (List.mem_of_getElem? (i := 4) rfl)
theorem dX12_wander_163 : decode cX12_wander 163 = .ok (.iconst 1, 1) := dgX12_wander_2 (163, (.iconst 1, 1)) (List.mem_of_getElem? (i := 5) rfl)
theorem dX12_wander_164 : decode cX12_wander 164 = .ok (.putfield 478, 3) := dgX12_wander_2 (164, (.putfield 478, 3)) (List.mem_of_getElem? (i := 6) rfl)
theorem dX12_wander_167 : decode cX12_wander 167 = .ok (.aload_n 0, 1) := dgX12_wander_2 (167, (.aload_n 0, 1)) (List.mem_of_getElem? (i := 7) rfl)
theorem dX12_wander_168 : decode cX12_wander 168 = .ok (.invokevirtual 419, 3) := dgX12_wander_2 (168, (.invokevirtual 419, 3)) (List.mem_of_getElem? (i := 8) rfl)
theorem dX12_wander_171 : decode cX12_wander 171 = .ok (.iconst 0, 1) := dgX12_wander_2 (171, (.iconst 0, 1)) (List.mem_of_getElem? (i := 9) rfl)
theorem dX12_wander_172 : decode cX12_wander 172 = .ok (.istore 4, 2) := dgX12_wander_2 (172, (.istore 4, 2)) (List.mem_of_getElem? (i := 10) rfl)
theorem dX12_wander_174 : decode cX12_wander 174 = .ok (.iconst 0, 1) := dgX12_wander_2 (174, (.iconst 0, 1)) (List.mem_of_getElem? (i := 11) rfl)
theorem dX12_wander_175 : decode cX12_wander 175 = .ok (.istore 5, 2) := dgX12_wander_2 (175, (.istore 5, 2)) (List.mem_of_getElem? (i := 12) rfl)
theorem dX12_wander_177 : decode cX12_wander 177 = .ok (.iload 5, 2) := dgX12_wander_2 (177, (.iload 5, 2)) (List.mem_of_getElem? (i := 13) rfl)
theorem dX12_wander_179 : decode cX12_wander 179 = .ok (.bipush 24, 2) := dgX12_wander_2 (179, (.bipush 24, 2)) (List.mem_of_getElem? (i := 14) rfl)
theorem dX12_wander_181 : decode cX12_wander 181 = .ok (.if_icmp .ge 40, 3) := dgX12_wander_2 (181, (.if_icmp .ge 40, 3)) (List.mem_of_getElem? (i := 15) rfl)
theorem dX12_wander_184 : decode cX12_wander 184 = .ok (.iload 4, 2) := dgX12_wander_2 (184, (.iload 4, 2)) (List.mem_of_getElem? (i := 16) rfl)
theorem dX12_wander_186 : decode cX12_wander 186 = .ok (.aload_n 0, 1) := dgX12_wander_2 (186, (.aload_n 0, 1)) (List.mem_of_getElem? (i := 17) rfl)
theorem dX12_wander_187 : decode cX12_wander 187 = .ok (.getfield 85, 3) := dgX12_wander_2 (187, (.getfield 85, 3)) (List.mem_of_getElem? (i := 18) rfl)
theorem dX12_wander_190 : decode cX12_wander 190 = .ok (.bipush 64, 2) := dgX12_wander_2 (190, (.bipush 64, 2)) (List.mem_of_getElem? (i := 19) rfl)
theorem dX12_wander_192 : decode cX12_wander 192 = .ok (.iload 5, 2) := dgX12_wander_2 (192, (.iload 5, 2)) (List.mem_of_getElem? (i := 20) rfl)
theorem dX12_wander_194 : decode cX12_wander 194 = .ok (.imul, 1) := dgX12_wander_2 (194, (.imul, 1)) (List.mem_of_getElem? (i := 21) rfl)
theorem dX12_wander_195 : decode cX12_wander 195 = .ok (.aload_n 0, 1) := dgX12_wander_2 (195, (.aload_n 0, 1)) (List.mem_of_getElem? (i := 22) rfl)
theorem dX12_wander_196 : decode cX12_wander 196 = .ok (.getfield 104, 3) := dgX12_wander_2 (196, (.getfield 104, 3)) (List.mem_of_getElem? (i := 23) rfl)
theorem dX12_wander_199 : decode cX12_wander 199 = .ok (.iload 5, 2) := dgX12_wander_2 (199, (.iload 5, 2)) (List.mem_of_getElem? (i := 24) rfl)
theorem dX12_wander_201 : decode cX12_wander 201 = .ok (.iaload, 1) := dgX12_wander_2 (201, (.iaload, 1)) (List.mem_of_getElem? (i := 25) rfl)
theorem dX12_wander_202 : decode cX12_wander 202 = .ok (.iadd, 1) := dgX12_wander_2 (202, (.iadd, 1)) (List.mem_of_getElem? (i := 26) rfl)
theorem dX12_wander_203 : decode cX12_wander 203 = .ok (.baload, 1) := dgX12_wander_2 (203, (.baload, 1)) (List.mem_of_getElem? (i := 27) rfl)
theorem dX12_wander_204 : decode cX12_wander 204 = .ok (.ifCond .eq 7, 3) := dgX12_wander_2 (204, (.ifCond .eq 7, 3)) (List.mem_of_getElem? (i := 28) rfl)
theorem dX12_wander_207 : decode cX12_wander 207 = .ok (.iconst 1, 1) := dgX12_wander_2 (207, (.iconst 1, 1)) (List.mem_of_getElem? (i := 29) rfl)
theorem dX12_wander_208 : decode cX12_wander 208 = .ok (.goto 4, 3) := dgX12_wander_2 (208, (.goto 4, 3)) (List.mem_of_getElem? (i := 30) rfl)
theorem dX12_wander_211 : decode cX12_wander 211 = .ok (.iconst 0, 1) := dgX12_wander_2 (211, (.iconst 0, 1)) (List.mem_of_getElem? (i := 31) rfl)
theorem dX12_wander_212 : decode cX12_wander 212 = .ok (.iadd, 1) := dgX12_wander_2 (212, (.iadd, 1)) (List.mem_of_getElem? (i := 32) rfl)
theorem dX12_wander_213 : decode cX12_wander 213 = .ok (.istore 4, 2) := dgX12_wander_2 (213, (.istore 4, 2)) (List.mem_of_getElem? (i := 33) rfl)
theorem dX12_wander_215 : decode cX12_wander 215 = .ok (.iinc 5 1, 3) := dgX12_wander_2 (215, (.iinc 5 1, 3)) (List.mem_of_getElem? (i := 34) rfl)
theorem dX12_wander_218 : decode cX12_wander 218 = .ok (.goto (-41), 3) := dgX12_wander_2 (218, (.goto (-41), 3)) (List.mem_of_getElem? (i := 35) rfl)
theorem dX12_wander_221 : decode cX12_wander 221 = .ok (.aload_n 0, 1) := dgX12_wander_2 (221, (.aload_n 0, 1)) (List.mem_of_getElem? (i := 36) rfl)
theorem dX12_wander_222 : decode cX12_wander 222 = .ok (.iload 4, 2) := dgX12_wander_2 (222, (.iload 4, 2)) (List.mem_of_getElem? (i := 37) rfl)
theorem dX12_wander_224 : decode cX12_wander 224 = .ok (.invokevirtual 125, 3) := dgX12_wander_2 (224, (.invokevirtual 125, 3)) (List.mem_of_getElem? (i := 38) rfl)
theorem dX12_wander_227 : decode cX12_wander 227 = .ok (.ireturn, 1) := dgX12_wander_2 (227, (.ireturn, 1)) (List.mem_of_getElem? (i := 39) rfl)
theorem fl_X12_469 : Cond.fieldLink RX12 469 "LateGlassModel" "state" "J" ∈ tblG := tg 1252 (by decide +kernel) (by decide +kernel)
theorem kl_X12_472 : Cond.constantLong RX12 472 1103 ∈ tblG := tg 1818 (by decide +kernel) (by decide +kernel)
theorem kl_X12_474 : Cond.constantLong RX12 474 12345 ∈ tblG := tg 1819 (by decide +kernel) (by decide +kernel)
theorem kl_X12_476 : Cond.constantLong RX12 476 1000003 ∈ tblG := tg 1820 (by decide +kernel) (by decide +kernel)
set_option maxHeartbeats 4000000 in
set_option maxRecDepth 100000 in
theorem n_besideW (l : Launch) (G : g5_G) (sz : Nat) (p_0 : Int32) (p_1 : Int32) (h_p_0 : (-1) ≤ p_0.toInt ∧ p_0.toInt ≤ 63) : Met l yX12_beside (wsG yX12_beside cX12_beside 2 (some .int)) ({ frames := 0, cells := 0, slots := 0, locals := 0 }) (va_Pc [.int p_0, .int p_1] (g5_P G [] sz)) (va_Qi (fun (r : Int32) (u : va_W) => (∃ (o_r : Int32), (r = o_r) ∧ (u = []))) (g5_B G (va_A [] sz)) (va_A [] sz)) 0 0 (va_A [] sz) := by
  refine Met.ofW (cc := cX12_beside) (maxL := 2) (ret := (some .int)) (by decide) rfl ?_
  intro p e s m args below meth c s₁ B hml hv
  obtain ⟨rfl, hsz, hP, hK, hD0, hN, hT⟩ := hv
  have hx := B.exec
  have hb := B.bytes
  have hr := B.returns
  have hts : ∀ w ∈ tblG, w.before _ s = true := fun w h => atoms_spec (ws := (wsG yX12_beside cX12_beside 2 (some .int))) B.pre w (List.mem_cons_of_mem _ h)
  have hown : s.vm.findClass RX12 = some m.cls := findClass_of_methodNamed B.named
  have hlocks := B.notSynchronized
  subst hsz
  have hD := hD0.self (sz := s.heap.size)
  generalize hAe : va_A [] s.heap.size = A at hD hT ⊢
  have hA : ∀ q : Nat, s.heap.size ≤ q → A q := fun q h => by rw [← hAe]; exact Or.inr h
  have hS : va_S A s.heap s.heap [] := va_S.rf
  have hP : va_P G.1 vwCl [] s.heap := hP
  have hl := lv_entry ([.int p_0, .int p_1]) (n := 2) (Nat.le_of_ble_eq_true rfl)
  rw [lg_entry_eq]
  generalize (lg_sl ([.int p_0, .int p_1]) ++ List.replicate (2 - (lg_sl ([.int p_0, .int p_1])).length) Slot.unset).toArray = ls at hl ⊢
  have hl : lv_has ls 2 [(0, .int p_0), (1, .int p_1)] := hl
  refine lv_iload_n hx hb dX12_beside_0 rfl (lv_at hl 1 rfl) ?_
  rcases (show p_1.toInt = 0 ∨ p_1.toInt = 1 ∨ p_1.toInt = 2 ∨ p_1.toInt < 0 ∨ p_1.toInt > 2 by omega) with s_1 | s_1 | s_1 | s_1 | s_1
  ·
    have i_1 : p_1.toInt = 0 := by omega
    refine lv_tableIn (tgt := 28) hx hb dX12_beside_1 (by omega) (by omega) (by rw [s_1]; rfl) (by decide) ?_
    refine lv_iload_n hx hb dX12_beside_28 rfl (lv_at hl 0 rfl) ?_
    refine lv_bipush (v := 8) hx hb dX12_beside_29 (by decide) ?_
    refine lv_icmp_lt (tgt := 41) hx hb dX12_beside_31 (by decide) (fun c_2 => ?_) (fun c_2 => ?_)
    ·
      have i_2 : p_0.toInt < 8 := by have z := g5_lt (a := p_0.toInt) (b := 8) (by rfl) (by decide) c_2; omega
      refine lv_iconst (v := (-1)) hx hb dX12_beside_41 (by decide) ?_
      exact W.iret (v := (-1)) hx hb hr (fun t ht hW => ⟨⟨(-1), [], rfl, ⟨(-1), rfl, rfl⟩, by rw [ht]; exact hP.sub [] rfl, hD.sub [] (by decide) rfl⟩, hS.F ht⟩) hS.2.2 dX12_beside_42
    ·
      have i_2 : p_0.toInt ≥ 8 := by have z := g5_ltN (a := p_0.toInt) (b := 8) (by rfl) (by decide) c_2; omega
      refine lv_iload_n hx hb dX12_beside_34 rfl (lv_at hl 0 rfl) ?_
      refine lv_bipush (v := 8) hx hb dX12_beside_35 (by decide) ?_
      refine lv_isub hx hb dX12_beside_37 ?_
      have t_3 : (p_0 - 8).toInt = p_0.toInt - 8 := g5_isub (a := p_0.toInt) (b := 8) (by rfl) (by decide) (by omega) (by omega)
      refine lv_goto (tgt := 42) hx hb dX12_beside_38 (by decide) ?_
      exact W.iret (v := (p_0 - 8)) hx hb hr (fun t ht hW => ⟨⟨(p_0 - 8), [], rfl, ⟨(p_0 - 8), rfl, rfl⟩, by rw [ht]; exact hP.sub [] rfl, hD.sub [] (by decide) rfl⟩, hS.F ht⟩) hS.2.2 dX12_beside_42
  ·
    have i_1 : p_1.toInt = 1 := by omega
    refine lv_tableIn (tgt := 43) hx hb dX12_beside_1 (by omega) (by omega) (by rw [s_1]; rfl) (by decide) ?_
    refine lv_iload_n hx hb dX12_beside_43 rfl (lv_at hl 0 rfl) ?_
    refine lv_bipush (v := 8) hx hb dX12_beside_44 (by decide) ?_
    refine lv_irem hx hb dX12_beside_46 (by decide) ?_
    refine lv_bipush (v := 7) hx hb dX12_beside_47 (by decide) ?_
    refine lv_icmp_ge (tgt := 58) hx hb dX12_beside_49 (by decide) (fun c_4 => ?_) (fun c_4 => ?_)
    ·
      have i_4 : (p_0 - p_0 / 8 * 8).toInt ≥ 7 := by have z := g5_ge (a := (p_0 - p_0 / 8 * 8).toInt) (b := 7) (by rfl) (by decide) c_4; omega
      refine lv_iconst (v := (-1)) hx hb dX12_beside_58 (by decide) ?_
      exact W.iret (v := (-1)) hx hb hr (fun t ht hW => ⟨⟨(-1), [], rfl, ⟨(-1), rfl, rfl⟩, by rw [ht]; exact hP.sub [] rfl, hD.sub [] (by decide) rfl⟩, hS.F ht⟩) hS.2.2 dX12_beside_59
    ·
      have i_4 : (p_0 - p_0 / 8 * 8).toInt < 7 := by have z := g5_geN (a := (p_0 - p_0 / 8 * 8).toInt) (b := 7) (by rfl) (by decide) c_4; omega
      refine lv_iload_n hx hb dX12_beside_52 rfl (lv_at hl 0 rfl) ?_
      refine lv_iconst (v := 1) hx hb dX12_beside_53 (by decide) ?_
      refine lv_iadd hx hb dX12_beside_54 ?_
      have t_5 : (p_0 + 1).toInt = p_0.toInt + 1 := g5_iadd (a := p_0.toInt) (b := 1) (by rfl) (by decide) (by omega) (by omega)
      refine lv_goto (tgt := 59) hx hb dX12_beside_55 (by decide) ?_
      exact W.iret (v := (p_0 + 1)) hx hb hr (fun t ht hW => ⟨⟨(p_0 + 1), [], rfl, ⟨(p_0 + 1), rfl, rfl⟩, by rw [ht]; exact hP.sub [] rfl, hD.sub [] (by decide) rfl⟩, hS.F ht⟩) hS.2.2 dX12_beside_59
  ·
    have i_1 : p_1.toInt = 2 := by omega
    refine lv_tableIn (tgt := 60) hx hb dX12_beside_1 (by omega) (by omega) (by rw [s_1]; rfl) (by decide) ?_
    refine lv_iload_n hx hb dX12_beside_60 rfl (lv_at hl 0 rfl) ?_
    refine lv_bipush (v := 56) hx hb dX12_beside_61 (by decide) ?_
    refine lv_icmp_ge (tgt := 73) hx hb dX12_beside_63 (by decide) (fun c_6 => ?_) (fun c_6 => ?_)
    ·
      have i_6 : p_0.toInt ≥ 56 := by have z := g5_ge (a := p_0.toInt) (b := 56) (by rfl) (by decide) c_6; omega
      refine lv_iconst (v := (-1)) hx hb dX12_beside_73 (by decide) ?_
      exact W.iret (v := (-1)) hx hb hr (fun t ht hW => ⟨⟨(-1), [], rfl, ⟨(-1), rfl, rfl⟩, by rw [ht]; exact hP.sub [] rfl, hD.sub [] (by decide) rfl⟩, hS.F ht⟩) hS.2.2 dX12_beside_74
    ·
      have i_6 : p_0.toInt < 56 := by have z := g5_geN (a := p_0.toInt) (b := 56) (by rfl) (by decide) c_6; omega
      refine lv_iload_n hx hb dX12_beside_66 rfl (lv_at hl 0 rfl) ?_
      refine lv_bipush (v := 8) hx hb dX12_beside_67 (by decide) ?_
      refine lv_iadd hx hb dX12_beside_69 ?_
      have t_7 : (p_0 + 8).toInt = p_0.toInt + 8 := g5_iadd (a := p_0.toInt) (b := 8) (by rfl) (by decide) (by omega) (by omega)
      refine lv_goto (tgt := 74) hx hb dX12_beside_70 (by decide) ?_
      exact W.iret (v := (p_0 + 8)) hx hb hr (fun t ht hW => ⟨⟨(p_0 + 8), [], rfl, ⟨(p_0 + 8), rfl, rfl⟩, by rw [ht]; exact hP.sub [] rfl, hD.sub [] (by decide) rfl⟩, hS.F ht⟩) hS.2.2 dX12_beside_74
  ·
    have i_1 : p_1.toInt < 0 := by omega
    refine lv_tableOut (tgt := 75) hx hb dX12_beside_1 (by omega) (by decide) ?_
    refine lv_iload_n hx hb dX12_beside_75 rfl (lv_at hl 0 rfl) ?_
    refine lv_bipush (v := 8) hx hb dX12_beside_76 (by decide) ?_
    refine lv_irem hx hb dX12_beside_78 (by decide) ?_
    refine lv_if_le (tgt := 88) hx hb dX12_beside_79 (by decide) (fun c_8 => ?_) (fun c_8 => ?_)
    ·
      have i_8 : (p_0 - p_0 / 8 * 8).toInt ≤ 0 := by have z := g5_le (a := (p_0 - p_0 / 8 * 8).toInt) (b := 0) (by rfl) (by decide) c_8; omega
      refine lv_iconst (v := (-1)) hx hb dX12_beside_88 (by decide) ?_
      exact W.iret (v := (-1)) hx hb hr (fun t ht hW => ⟨⟨(-1), [], rfl, ⟨(-1), rfl, rfl⟩, by rw [ht]; exact hP.sub [] rfl, hD.sub [] (by decide) rfl⟩, hS.F ht⟩) hS.2.2 dX12_beside_89
    ·
      have i_8 : (p_0 - p_0 / 8 * 8).toInt > 0 := by have z := g5_leN (a := (p_0 - p_0 / 8 * 8).toInt) (b := 0) (by rfl) (by decide) c_8; omega
      refine lv_iload_n hx hb dX12_beside_82 rfl (lv_at hl 0 rfl) ?_
      refine lv_iconst (v := 1) hx hb dX12_beside_83 (by decide) ?_
      refine lv_isub hx hb dX12_beside_84 ?_
      have t_9 : (p_0 - 1).toInt = p_0.toInt - 1 := g5_isub (a := p_0.toInt) (b := 1) (by rfl) (by decide) (by omega) (by omega)
      refine lv_goto (tgt := 89) hx hb dX12_beside_85 (by decide) ?_
      exact W.iret (v := (p_0 - 1)) hx hb hr (fun t ht hW => ⟨⟨(p_0 - 1), [], rfl, ⟨(p_0 - 1), rfl, rfl⟩, by rw [ht]; exact hP.sub [] rfl, hD.sub [] (by decide) rfl⟩, hS.F ht⟩) hS.2.2 dX12_beside_89
  ·
    have i_1 : p_1.toInt > 2 := by omega
    refine lv_tableOut (tgt := 75) hx hb dX12_beside_1 (by omega) (by decide) ?_
    refine lv_iload_n hx hb dX12_beside_75 rfl (lv_at hl 0 rfl) ?_
    refine lv_bipush (v := 8) hx hb dX12_beside_76 (by decide) ?_
    refine lv_irem hx hb dX12_beside_78 (by decide) ?_
    refine lv_if_le (tgt := 88) hx hb dX12_beside_79 (by decide) (fun c_10 => ?_) (fun c_10 => ?_)
    ·
      have i_10 : (p_0 - p_0 / 8 * 8).toInt ≤ 0 := by have z := g5_le (a := (p_0 - p_0 / 8 * 8).toInt) (b := 0) (by rfl) (by decide) c_10; omega
      refine lv_iconst (v := (-1)) hx hb dX12_beside_88 (by decide) ?_
      exact W.iret (v := (-1)) hx hb hr (fun t ht hW => ⟨⟨(-1), [], rfl, ⟨(-1), rfl, rfl⟩, by rw [ht]; exact hP.sub [] rfl, hD.sub [] (by decide) rfl⟩, hS.F ht⟩) hS.2.2 dX12_beside_89
    ·
      have i_10 : (p_0 - p_0 / 8 * 8).toInt > 0 := by have z := g5_leN (a := (p_0 - p_0 / 8 * 8).toInt) (b := 0) (by rfl) (by decide) c_10; omega
      refine lv_iload_n hx hb dX12_beside_82 rfl (lv_at hl 0 rfl) ?_
      refine lv_iconst (v := 1) hx hb dX12_beside_83 (by decide) ?_
      refine lv_isub hx hb dX12_beside_84 ?_
      have t_11 : (p_0 - 1).toInt = p_0.toInt - 1 := g5_isub (a := p_0.toInt) (b := 1) (by rfl) (by decide) (by omega) (by omega)
      refine lv_goto (tgt := 89) hx hb dX12_beside_85 (by decide) ?_
      exact W.iret (v := (p_0 - 1)) hx hb hr (fun t ht hW => ⟨⟨(p_0 - 1), [], rfl, ⟨(p_0 - 1), rfl, rfl⟩, by rw [ht]; exact hP.sub [] rfl, hD.sub [] (by decide) rfl⟩, hS.F ht⟩) hS.2.2 dX12_beside_89
set_option maxHeartbeats 4000000 in
set_option maxRecDepth 100000 in
theorem n_in3 (l : Launch) (G : g5_G) (sz : Nat) (p_x : Int32) (p_l : Int32) (p_h : Int32) : Met l yX12_in (wsG yX12_in cX12_in 6 (some .boolean)) ({ frames := 0, cells := 0, slots := 0, locals := 0 }) (va_Pc [.long p_x.toInt64, .long p_l.toInt64, .long p_h.toInt64] (g5_P G [] sz)) (va_Qi (fun (r : Int32) (u : va_W) => ((p_x.toInt < p_l.toInt ∨ p_h.toInt < p_x.toInt) ∧ (r = 0) ∧ (u = [])) ∨ ((p_l.toInt ≤ p_x.toInt ∧ p_x.toInt ≤ p_h.toInt) ∧ (r = 1) ∧ (u = []))) (g5_B G (va_A [] sz)) (va_A [] sz)) 0 0 (va_A [] sz) := by
  refine Met.ofW (cc := cX12_in) (maxL := 6) (ret := (some .boolean)) (by decide) rfl ?_
  intro p e s m args below meth c s₁ B hml hv
  obtain ⟨rfl, hsz, hP, hK, hD0, hN, hT⟩ := hv
  have hx := B.exec
  have hb := B.bytes
  have hr := B.returns
  have hts : ∀ w ∈ tblG, w.before _ s = true := fun w h => atoms_spec (ws := (wsG yX12_in cX12_in 6 (some .boolean))) B.pre w (List.mem_cons_of_mem _ h)
  have hown : s.vm.findClass RX12 = some m.cls := findClass_of_methodNamed B.named
  have hlocks := B.notSynchronized
  subst hsz
  have hD := hD0.self (sz := s.heap.size)
  generalize hAe : va_A [] s.heap.size = A at hD hT ⊢
  have hA : ∀ q : Nat, s.heap.size ≤ q → A q := fun q h => by rw [← hAe]; exact Or.inr h
  have hS : va_S A s.heap s.heap [] := va_S.rf
  have hP : va_P G.1 vwCl [] s.heap := hP
  have hl := lv_entry ([.long p_x.toInt64, .long p_l.toInt64, .long p_h.toInt64]) (n := 6) (Nat.le_of_ble_eq_true rfl)
  rw [lg_entry_eq]
  generalize (lg_sl ([.long p_x.toInt64, .long p_l.toInt64, .long p_h.toInt64]) ++ List.replicate (6 - (lg_sl ([.long p_x.toInt64, .long p_l.toInt64, .long p_h.toInt64])).length) Slot.unset).toArray = ls at hl ⊢
  have hl : lv_has ls 6 [(0, .long p_x.toInt64), (2, .long p_l.toInt64), (4, .long p_h.toInt64)] := hl
  refine lv_lload_n hx hb dX12_in_0 rfl (lv_at hl 0 rfl) ?_
  refine lv_lload_n hx hb dX12_in_1 rfl (lv_at hl 1 rfl) ?_
  have tl_1 : p_x.toInt64.toInt = p_x.toInt := Int32.toInt_toInt64 _
  have tl_2 : p_l.toInt64.toInt = p_l.toInt := Int32.toInt_toInt64 _
  have tc_3 := g5_cmpI p_x.toInt64 p_l.toInt64
  refine W.lcmp hx hb dX12_in_2 ?_
  refine lv_if_lt (tgt := 17) hx hb dX12_in_3 (by decide) (fun c_4 => ?_) (fun c_4 => ?_)
  ·
    have i_4 : (lg_cmp p_x.toInt64 p_l.toInt64).toInt < 0 := by have z := g5_lt (a := (lg_cmp p_x.toInt64 p_l.toInt64).toInt) (b := 0) (by rfl) (by decide) c_4; omega
    refine lv_iconst (v := 0) hx hb dX12_in_17 (by decide) ?_
    exact W.zret (v := 0) hx hb hr rfl (fun t ht hW => ⟨⟨0, [], rfl, Or.inl (⟨by omega, rfl, rfl⟩), by rw [ht]; exact hP.sub [] rfl, hD.sub [] (by decide) rfl⟩, hS.F ht⟩) hS.2.2 dX12_in_18
  ·
    have i_4 : (lg_cmp p_x.toInt64 p_l.toInt64).toInt ≥ 0 := by have z := g5_ltN (a := (lg_cmp p_x.toInt64 p_l.toInt64).toInt) (b := 0) (by rfl) (by decide) c_4; omega
    refine lv_lload_n hx hb dX12_in_6 rfl (lv_at hl 0 rfl) ?_
    refine lv_lload hx hb dX12_in_7 (lv_at hl 2 rfl) ?_
    have tl_5 : p_x.toInt64.toInt = p_x.toInt := Int32.toInt_toInt64 _
    have tl_6 : p_h.toInt64.toInt = p_h.toInt := Int32.toInt_toInt64 _
    have tc_7 := g5_cmpI p_x.toInt64 p_h.toInt64
    refine W.lcmp hx hb dX12_in_9 ?_
    refine lv_if_gt (tgt := 17) hx hb dX12_in_10 (by decide) (fun c_8 => ?_) (fun c_8 => ?_)
    ·
      have i_8 : (lg_cmp p_x.toInt64 p_h.toInt64).toInt > 0 := by have z := g5_gt (a := (lg_cmp p_x.toInt64 p_h.toInt64).toInt) (b := 0) (by rfl) (by decide) c_8; omega
      refine lv_iconst (v := 0) hx hb dX12_in_17 (by decide) ?_
      exact W.zret (v := 0) hx hb hr rfl (fun t ht hW => ⟨⟨0, [], rfl, Or.inl (⟨by omega, rfl, rfl⟩), by rw [ht]; exact hP.sub [] rfl, hD.sub [] (by decide) rfl⟩, hS.F ht⟩) hS.2.2 dX12_in_18
    ·
      have i_8 : (lg_cmp p_x.toInt64 p_h.toInt64).toInt ≤ 0 := by have z := g5_gtN (a := (lg_cmp p_x.toInt64 p_h.toInt64).toInt) (b := 0) (by rfl) (by decide) c_8; omega
      refine lv_iconst (v := 1) hx hb dX12_in_13 (by decide) ?_
      refine lv_goto (tgt := 18) hx hb dX12_in_14 (by decide) ?_
      exact W.zret (v := 1) hx hb hr rfl (fun t ht hW => ⟨⟨1, [], rfl, Or.inr (⟨by omega, rfl, rfl⟩), by rw [ht]; exact hP.sub [] rfl, hD.sub [] (by decide) rfl⟩, hS.F ht⟩) hS.2.2 dX12_in_18
theorem dgX12_isStep_0 : ∀ r ∈ ([(0, (.iload_n 0, 1)), (1, (.iload_n 1, 1)), (2, (.if_icmp .ne 7, 3)), (5, (.iconst 1, 1)), (6, (.goto 4, 3)), (9, (.iconst 0, 1)), (10, (.istore_n 2, 1)), (11, (.iconst 0, 1)), (12, (.istore_n 3, 1)), (13, (.iload_n 3, 1)), (14, (.iconst 4, 1)), (15, (.if_icmp .ge 28, 3)), (18, (.iload_n 2, 1)), (19, (.ifCond .ne 12, 3)), (22, (.iload_n 0, 1)), (23, (.iload_n 3, 1)), (24, (.invokestatic 374, 3)), (27, (.iload_n 1, 1)), (28, (.if_icmp .ne 7, 3)), (31, (.iconst 1, 1)), (32, (.goto 4, 3)), (35, (.iconst 0, 1)), (36, (.istore_n 2, 1)), (37, (.iinc 3 1, 3)), (40, (.goto (-27), 3)), (43, (.iload_n 2, 1)), (44, (.ireturn, 1))] : List (Nat × (Instr × Nat))), decode cX12_isStep r.1 = .ok r.2 := by decide +kernel
theorem dX12_isStep_0 : decode cX12_isStep 0 = .ok (.iload_n 0, 1) := dgX12_isStep_0 (0, (.iload_n 0, 1)) (List.mem_of_getElem? (i := 0) rfl)
theorem dX12_isStep_1 : decode cX12_isStep 1 = .ok (.iload_n 1, 1) := dgX12_isStep_0 (1, (.iload_n 1, 1)) (List.mem_of_getElem? (i := 1) rfl)
theorem dX12_isStep_2 : decode cX12_isStep 2 = .ok (.if_icmp .ne 7, 3) := dgX12_isStep_0 (2, (.if_icmp .ne 7, 3)) (List.mem_of_getElem? (i := 2) rfl)
theorem dX12_isStep_5 : decode cX12_isStep 5 = .ok (.iconst 1, 1) := dgX12_isStep_0 (5, (.iconst 1, 1)) (List.mem_of_getElem? (i := 3) rfl)
theorem dX12_isStep_6 : decode cX12_isStep 6 = .ok (.goto 4, 3) := dgX12_isStep_0 (6, (.goto 4, 3)) (List.mem_of_getElem? (i := 4) rfl)
theorem dX12_isStep_9 : decode cX12_isStep 9 = .ok (.iconst 0, 1) := dgX12_isStep_0 (9, (.iconst 0, 1)) (List.mem_of_getElem? (i := 5) rfl)
theorem dX12_isStep_10 : decode cX12_isStep 10 = .ok (.istore_n 2, 1) := dgX12_isStep_0 (10, (.istore_n 2, 1)) (List.mem_of_getElem? (i := 6) rfl)
theorem dX12_isStep_11 : decode cX12_isStep 11 = .ok (.iconst 0, 1) := dgX12_isStep_0 (11, (.iconst 0, 1)) (List.mem_of_getElem? (i := 7) rfl)
theorem dX12_isStep_12 : decode cX12_isStep 12 = .ok (.istore_n 3, 1) := dgX12_isStep_0 (12, (.istore_n 3, 1)) (List.mem_of_getElem? (i := 8) rfl)
theorem dX12_isStep_13 : decode cX12_isStep 13 = .ok (.iload_n 3, 1) := dgX12_isStep_0 (13, (.iload_n 3, 1)) (List.mem_of_getElem? (i := 9) rfl)
theorem dX12_isStep_14 : decode cX12_isStep 14 = .ok (.iconst 4, 1) := dgX12_isStep_0 (14, (.iconst 4, 1)) (List.mem_of_getElem? (i := 10) rfl)
theorem dX12_isStep_15 : decode cX12_isStep 15 = .ok (.if_icmp .ge 28, 3) := dgX12_isStep_0 (15, (.if_icmp .ge 28, 3)) (List.mem_of_getElem? (i := 11) rfl)
theorem dX12_isStep_18 : decode cX12_isStep 18 = .ok (.iload_n 2, 1) := dgX12_isStep_0 (18, (.iload_n 2, 1)) (List.mem_of_getElem? (i := 12) rfl)
theorem dX12_isStep_19 : decode cX12_isStep 19 = .ok (.ifCond .ne 12, 3) := dgX12_isStep_0 (19, (.ifCond .ne 12, 3)) (List.mem_of_getElem? (i := 13) rfl)
theorem dX12_isStep_22 : decode cX12_isStep 22 = .ok (.iload_n 0, 1) := dgX12_isStep_0 (22, (.iload_n 0, 1)) (List.mem_of_getElem? (i := 14) rfl)
theorem dX12_isStep_23 : decode cX12_isStep 23 = .ok (.iload_n 3, 1) := dgX12_isStep_0 (23, (.iload_n 3, 1)) (List.mem_of_getElem? (i := 15) rfl)
theorem dX12_isStep_24 : decode cX12_isStep 24 = .ok (.invokestatic 374, 3) := dgX12_isStep_0 (24, (.invokestatic 374, 3)) (List.mem_of_getElem? (i := 16) rfl)
theorem dX12_isStep_27 : decode cX12_isStep 27 = .ok (.iload_n 1, 1) := dgX12_isStep_0 (27, (.iload_n 1, 1)) (List.mem_of_getElem? (i := 17) rfl)
theorem dX12_isStep_28 : decode cX12_isStep 28 = .ok (.if_icmp .ne 7, 3) := dgX12_isStep_0 (28, (.if_icmp .ne 7, 3)) (List.mem_of_getElem? (i := 18) rfl)
theorem dX12_isStep_31 : decode cX12_isStep 31 = .ok (.iconst 1, 1) := dgX12_isStep_0 (31, (.iconst 1, 1)) (List.mem_of_getElem? (i := 19) rfl)
theorem dX12_isStep_32 : decode cX12_isStep 32 = .ok (.goto 4, 3) := dgX12_isStep_0 (32, (.goto 4, 3)) (List.mem_of_getElem? (i := 20) rfl)
theorem dX12_isStep_35 : decode cX12_isStep 35 = .ok (.iconst 0, 1) := dgX12_isStep_0 (35, (.iconst 0, 1)) (List.mem_of_getElem? (i := 21) rfl)
theorem dX12_isStep_36 : decode cX12_isStep 36 = .ok (.istore_n 2, 1) := dgX12_isStep_0 (36, (.istore_n 2, 1)) (List.mem_of_getElem? (i := 22) rfl)
theorem dX12_isStep_37 : decode cX12_isStep 37 = .ok (.iinc 3 1, 3) := dgX12_isStep_0 (37, (.iinc 3 1, 3)) (List.mem_of_getElem? (i := 23) rfl)
theorem dX12_isStep_40 : decode cX12_isStep 40 = .ok (.goto (-27), 3) := dgX12_isStep_0 (40, (.goto (-27), 3)) (List.mem_of_getElem? (i := 24) rfl)
theorem dX12_isStep_43 : decode cX12_isStep 43 = .ok (.iload_n 2, 1) := dgX12_isStep_0 (43, (.iload_n 2, 1)) (List.mem_of_getElem? (i := 25) rfl)
theorem dX12_isStep_44 : decode cX12_isStep 44 = .ok (.ireturn, 1) := dgX12_isStep_0 (44, (.ireturn, 1)) (List.mem_of_getElem? (i := 26) rfl)
set_option maxHeartbeats 4000000 in
set_option maxRecDepth 100000 in
theorem n_isStep (l : Launch) (G : g5_G) (sz : Nat) (p_0 : Int32) (p_1 : Int32) (h_p_0 : (-1) ≤ p_0.toInt ∧ p_0.toInt ≤ 63) (h_p_1 : 0 ≤ p_1.toInt ∧ p_1.toInt ≤ 63) : Met l yX12_isStep (wsG yX12_isStep cX12_isStep 4 (some .boolean)) ({ frames := 1, cells := 0, slots := 0, locals := 21 }) (va_Pc [.int p_0, .int p_1] (g5_P G [] sz)) (va_Qi (fun (r : Int32) (u : va_W) => (∃ (o_r : Int32), (0 ≤ o_r.toInt ∧ o_r.toInt ≤ 1) ∧ (r = o_r) ∧ (u = []))) (g5_B G (va_A [] sz)) (va_A [] sz)) 0 0 (va_A [] sz) := by
  refine Met.ofW (cc := cX12_isStep) (maxL := 4) (ret := (some .boolean)) (by decide +kernel) rfl ?_
  intro p e s m args below meth c s₁ B hml hv
  obtain ⟨rfl, hsz, hP, hK, hD0, hN, hT⟩ := hv
  have hx := B.exec
  have hb := B.bytes
  have hr := B.returns
  have hts : ∀ w ∈ tblG, w.before _ s = true := fun w h => atoms_spec (ws := (wsG yX12_isStep cX12_isStep 4 (some .boolean))) B.pre w (List.mem_cons_of_mem _ h)
  have hown : s.vm.findClass RX12 = some m.cls := findClass_of_methodNamed B.named
  have hlocks := B.notSynchronized
  subst hsz
  have hD := hD0.self (sz := s.heap.size)
  generalize hAe : va_A [] s.heap.size = A at hD hT ⊢
  have hA : ∀ q : Nat, s.heap.size ≤ q → A q := fun q h => by rw [← hAe]; exact Or.inr h
  have hS : va_S A s.heap s.heap [] := va_S.rf
  replace hP : va_P G.1 vwCl [] s.heap := hP
  have hl := lv_entry ([.int p_0, .int p_1]) (n := 4) (Nat.le_of_ble_eq_true rfl)
  rw [lg_entry_eq]
  generalize (lg_sl ([.int p_0, .int p_1]) ++ List.replicate (4 - (lg_sl ([.int p_0, .int p_1])).length) Slot.unset).toArray = ls at hl ⊢
  replace hl : lv_has ls 4 [(0, .int p_0), (1, .int p_1)] := hl
  refine lv_iload_n hx hb dX12_isStep_0 rfl (lv_at hl 0 rfl) ?_
  refine lv_iload_n hx hb dX12_isStep_1 rfl (lv_at hl 1 rfl) ?_
  refine lv_icmp_ne (tgt := 9) hx hb dX12_isStep_2 (by decide +kernel) (fun c_1 => ?_) (fun c_1 => ?_)
  ·
    have n_1 : gNe (p_0.toInt) (p_1.toInt) := g5_ne (a := p_0.toInt) (b := p_1.toInt) rfl rfl c_1
    refine lv_iconst (v := 0) hx hb dX12_isStep_9 (by decide +kernel) ?_
    refine lv_istore_n (lv' := [(2, .int 0), (0, .int p_0), (1, .int p_1)]) hx hb dX12_isStep_10 rfl hl (by decide +kernel) rfl ?_
    clear hl
    intro ls hl
    refine lv_iconst (v := 0) hx hb dX12_isStep_11 (by decide +kernel) ?_
    refine lv_istore_n (lv' := [(3, .int 0), (2, .int 0), (0, .int p_0), (1, .int p_1)]) hx hb dX12_isStep_12 rfl hl (by decide +kernel) rfl ?_
    clear hl
    intro ls hl
    refine g5_loop (α := (Int32) × (Int32)) (fun (q : (Int32) × (Int32)) (ls : Array Slot) (H : Heap) (locs : List Loc) => match q with | (k13_3, k13_2) => lv_has ls 4 [(2, .int k13_2), (3, .int k13_3), (0, .int p_0), (1, .int p_1)] ∧ va_P G.1 vwCl [] H ∧ va_D A [] ∧ va_S A s.heap H locs ∧ (0 ≤ k13_3.toInt ∧ k13_3.toInt ≤ 4) ∧ (0 ≤ k13_2.toInt ∧ k13_2.toInt ≤ 1)) (fun (q : (Int32) × (Int32)) => match q with | (k13_3, k13_2) => Int.toNat (4 - k13_3.toInt)) (0, 0) ⟨lv_sub hl [1, 0, 2, 3] rfl, hP, hD, hS, ⟨by decide, by decide⟩, ⟨by decide, by decide⟩⟩ ?_
    rintro ⟨k13_3, k13_2⟩ ls H locs ⟨hl, hP, hD, hS, (i_2 : 0 ≤ k13_3.toInt ∧ k13_3.toInt ≤ 4), (i_3 : 0 ≤ k13_2.toInt ∧ k13_2.toInt ≤ 1)⟩ ih_13_4
    replace hl : lv_has ls 4 [(2, .int k13_2), (3, .int k13_3), (0, .int p_0), (1, .int p_1)] := hl
    refine g5_rs [] hP hD ?_
    clear hP hD
    intro hP hD
    refine lv_iload_n hx hb dX12_isStep_13 rfl (lv_at hl 1 rfl) ?_
    refine lv_iconst (v := 4) hx hb dX12_isStep_14 (by decide +kernel) ?_
    refine lv_icmp_ge (tgt := 43) hx hb dX12_isStep_15 (by decide +kernel) (fun c_5 => ?_) (fun c_5 => ?_)
    ·
      have i_5 : k13_3.toInt ≥ 4 := g5_ge (a := k13_3.toInt) (b := 4) rfl (by decide +kernel) c_5
      refine lv_iload_n hx hb dX12_isStep_43 rfl (lv_at hl 0 rfl) ?_
      exact W.zret (v := k13_2) hx hb hr (g_nb (by omega) (by omega)) (fun t ht hW => ⟨⟨k13_2, [], rfl, ⟨k13_2, i_3, rfl, rfl⟩, by rw [ht]; exact hP.sub [] rfl, hD.sub [] (by decide +kernel) rfl⟩, hS.F ht⟩) hS.2.2 dX12_isStep_44
    ·
      have i_5 : k13_3.toInt < 4 := g5_geN (a := k13_3.toInt) (b := 4) rfl (by decide +kernel) c_5
      refine lv_iload_n hx hb dX12_isStep_18 rfl (lv_at hl 0 rfl) ?_
      refine lv_if_ne (tgt := 31) hx hb dX12_isStep_19 (by decide +kernel) (fun c_6 => ?_) (fun c_6 => ?_)
      ·
        have n_6 : gNe (k13_2.toInt) (0) := g5_ne (a := k13_2.toInt) (b := 0) rfl (by decide +kernel) c_6
        have i_6 : k13_2.toInt ≥ 1 := by have z := g5_ne (a := k13_2.toInt) (b := 0) (by rfl) (by decide +kernel) c_6; omega
        refine lv_iconst (v := 1) hx hb dX12_isStep_31 (by decide +kernel) ?_
        refine lv_goto (tgt := 36) hx hb dX12_isStep_32 (by decide +kernel) ?_
        refine lv_istore_n (lv' := [(2, .int 1), (3, .int k13_3), (0, .int p_0), (1, .int p_1)]) hx hb dX12_isStep_36 rfl hl (by decide +kernel) rfl ?_
        clear hl
        intro ls hl
        refine lv_iinc (v := (k13_3 + 1)) (lv' := [(3, .int (k13_3 + 1)), (2, .int 1), (0, .int p_0), (1, .int p_1)]) hx hb dX12_isStep_37 hl (k := 1) rfl rfl (by decide +kernel) rfl ?_
        clear hl
        intro ls hl
        have t_7 : (k13_3 + 1).toInt = k13_3.toInt + 1 := g5_iadd (a := k13_3.toInt) (b := 1) rfl (by decide +kernel) (by omega) (by omega)
        refine lv_goto (tgt := 13) hx hb dX12_isStep_40 (by decide +kernel) ?_
        exact ih_13_4 ((k13_3 + 1), 1) ls H locs (show Int.toNat (4 - (k13_3 + 1).toInt) < Int.toNat (4 - k13_3.toInt) from g_up (show k13_3.toInt < (k13_3 + 1).toInt by omega) (show k13_3.toInt < 4 by omega)) ⟨lv_sub hl [1, 0, 2, 3] rfl, hP, hD, hS, ⟨by omega, by omega⟩, ⟨by decide, by decide⟩⟩
      ·
        have i_6 : k13_2.toInt = 0 := g5_neN (a := k13_2.toInt) (b := 0) rfl (by decide +kernel) c_6
        refine lv_iload_n hx hb dX12_isStep_22 rfl (lv_at hl 2 rfl) ?_
        refine lv_iload_n hx hb dX12_isStep_23 rfl (lv_at hl 1 rfl) ?_
        obtain ⟨hPc, hDc, hFc⟩ := g5_sub3 (wc := []) hP hD hS hA [] (by decide +kernel) rfl
        refine va_calli (va_runS (As := [.int p_0, .int k13_3]) (rest := []) ⟨hx, hb, hml, hown, hts⟩ (n_besideW l G H.size p_0 k13_3 h_p_0) (va_cwS 2 hts gS_X12_374 rfl rfl rfl hs_X12_beside ⟨Nat.le_of_ble_eq_true rfl, Nat.le_of_ble_eq_true rfl⟩) (g5_preS hPc hK hDc hN hT hS hFc) rfl rfl hl.1 rfl (lv_room (Nat.le_of_ble_eq_true rfl)) dX12_isStep_24 ⟨Nat.le_of_ble_eq_true rfl, Nat.le_of_ble_eq_true rfl⟩) hS (fun q _ h => hFc q h) hFc (fun r u t H locs ht hvm hw hB hz1 hk1 hS => ?_)
        obtain ⟨hP1, hD1⟩ := hB
        have hP1 := g5_ht ht hP1
        obtain ⟨z8, y9, rfl⟩ := hw
        have hJ9 := g5_same hP hk1
        clear hP hPc hDc hFc ht hvm hz1 hk1 hP1 hD1
        have hP := hJ9
        clear hJ9
        refine g5_ti (v := z8) y9 ?_
        refine lv_iload_n hx hb dX12_isStep_27 rfl (lv_at hl 3 rfl) ?_
        refine lv_icmp_ne (tgt := 35) hx hb dX12_isStep_28 (by decide +kernel) (fun c_10 => ?_) (fun c_10 => ?_)
        ·
          have n_10 : gNe (z8.toInt) (p_1.toInt) := g5_ne (a := z8.toInt) (b := p_1.toInt) rfl rfl c_10
          refine lv_iconst (v := 0) hx hb dX12_isStep_35 (by decide +kernel) ?_
          refine lv_istore_n (lv' := [(2, .int 0), (3, .int k13_3), (0, .int p_0), (1, .int p_1)]) hx hb dX12_isStep_36 rfl hl (by decide +kernel) rfl ?_
          clear hl
          intro ls hl
          refine lv_iinc (v := (k13_3 + 1)) (lv' := [(3, .int (k13_3 + 1)), (2, .int 0), (0, .int p_0), (1, .int p_1)]) hx hb dX12_isStep_37 hl (k := 1) rfl rfl (by decide +kernel) rfl ?_
          clear hl
          intro ls hl
          have t_11 : (k13_3 + 1).toInt = k13_3.toInt + 1 := g5_iadd (a := k13_3.toInt) (b := 1) rfl (by decide +kernel) (by omega) (by omega)
          refine lv_goto (tgt := 13) hx hb dX12_isStep_40 (by decide +kernel) ?_
          exact ih_13_4 ((k13_3 + 1), 0) ls H locs (show Int.toNat (4 - (k13_3 + 1).toInt) < Int.toNat (4 - k13_3.toInt) from g_up (show k13_3.toInt < (k13_3 + 1).toInt by omega) (show k13_3.toInt < 4 by omega)) ⟨lv_sub hl [1, 0, 2, 3] rfl, hP, hD, hS, ⟨by omega, by omega⟩, ⟨by decide, by decide⟩⟩
        ·
          have i_10 : z8.toInt = p_1.toInt := g5_neN (a := z8.toInt) (b := p_1.toInt) rfl rfl c_10
          refine lv_iconst (v := 1) hx hb dX12_isStep_31 (by decide +kernel) ?_
          refine lv_goto (tgt := 36) hx hb dX12_isStep_32 (by decide +kernel) ?_
          refine lv_istore_n (lv' := [(2, .int 1), (3, .int k13_3), (0, .int p_0), (1, .int p_1)]) hx hb dX12_isStep_36 rfl hl (by decide +kernel) rfl ?_
          clear hl
          intro ls hl
          refine lv_iinc (v := (k13_3 + 1)) (lv' := [(3, .int (k13_3 + 1)), (2, .int 1), (0, .int p_0), (1, .int p_1)]) hx hb dX12_isStep_37 hl (k := 1) rfl rfl (by decide +kernel) rfl ?_
          clear hl
          intro ls hl
          have t_12 : (k13_3 + 1).toInt = k13_3.toInt + 1 := g5_iadd (a := k13_3.toInt) (b := 1) rfl (by decide +kernel) (by omega) (by omega)
          refine lv_goto (tgt := 13) hx hb dX12_isStep_40 (by decide +kernel) ?_
          exact ih_13_4 ((k13_3 + 1), 1) ls H locs (show Int.toNat (4 - (k13_3 + 1).toInt) < Int.toNat (4 - k13_3.toInt) from g_up (show k13_3.toInt < (k13_3 + 1).toInt by omega) (show k13_3.toInt < 4 by omega)) ⟨lv_sub hl [1, 0, 2, 3] rfl, hP, hD, hS, ⟨by omega, by omega⟩, ⟨by decide, by decide⟩⟩
  ·
    have i_1 : p_0.toInt = p_1.toInt := g5_neN (a := p_0.toInt) (b := p_1.toInt) rfl rfl c_1
    refine lv_iconst (v := 1) hx hb dX12_isStep_5 (by decide +kernel) ?_
    refine lv_goto (tgt := 10) hx hb dX12_isStep_6 (by decide +kernel) ?_
    refine lv_istore_n (lv' := [(2, .int 1), (0, .int p_0), (1, .int p_1)]) hx hb dX12_isStep_10 rfl hl (by decide +kernel) rfl ?_
    clear hl
    intro ls hl
    refine lv_iconst (v := 0) hx hb dX12_isStep_11 (by decide +kernel) ?_
    refine lv_istore_n (lv' := [(3, .int 0), (2, .int 1), (0, .int p_0), (1, .int p_1)]) hx hb dX12_isStep_12 rfl hl (by decide +kernel) rfl ?_
    clear hl
    intro ls hl
    refine g5_loop (α := (Int32) × (Int32)) (fun (q : (Int32) × (Int32)) (ls : Array Slot) (H : Heap) (locs : List Loc) => match q with | (k13_3, k13_2) => lv_has ls 4 [(2, .int k13_2), (3, .int k13_3), (0, .int p_0), (1, .int p_1)] ∧ va_P G.1 vwCl [] H ∧ va_D A [] ∧ va_S A s.heap H locs ∧ (0 ≤ k13_3.toInt ∧ k13_3.toInt ≤ 4) ∧ (0 ≤ k13_2.toInt ∧ k13_2.toInt ≤ 1)) (fun (q : (Int32) × (Int32)) => match q with | (k13_3, k13_2) => Int.toNat (4 - k13_3.toInt)) (0, 1) ⟨lv_sub hl [1, 0, 2, 3] rfl, hP, hD, hS, ⟨by decide, by decide⟩, ⟨by decide, by decide⟩⟩ ?_
    rintro ⟨k13_3, k13_2⟩ ls H locs ⟨hl, hP, hD, hS, (i_13 : 0 ≤ k13_3.toInt ∧ k13_3.toInt ≤ 4), (i_14 : 0 ≤ k13_2.toInt ∧ k13_2.toInt ≤ 1)⟩ ih_13_15
    replace hl : lv_has ls 4 [(2, .int k13_2), (3, .int k13_3), (0, .int p_0), (1, .int p_1)] := hl
    refine g5_rs [] hP hD ?_
    clear hP hD
    intro hP hD
    refine lv_iload_n hx hb dX12_isStep_13 rfl (lv_at hl 1 rfl) ?_
    refine lv_iconst (v := 4) hx hb dX12_isStep_14 (by decide +kernel) ?_
    refine lv_icmp_ge (tgt := 43) hx hb dX12_isStep_15 (by decide +kernel) (fun c_16 => ?_) (fun c_16 => ?_)
    ·
      have i_16 : k13_3.toInt ≥ 4 := g5_ge (a := k13_3.toInt) (b := 4) rfl (by decide +kernel) c_16
      refine lv_iload_n hx hb dX12_isStep_43 rfl (lv_at hl 0 rfl) ?_
      exact W.zret (v := k13_2) hx hb hr (g_nb (by omega) (by omega)) (fun t ht hW => ⟨⟨k13_2, [], rfl, ⟨k13_2, i_14, rfl, rfl⟩, by rw [ht]; exact hP.sub [] rfl, hD.sub [] (by decide +kernel) rfl⟩, hS.F ht⟩) hS.2.2 dX12_isStep_44
    ·
      have i_16 : k13_3.toInt < 4 := g5_geN (a := k13_3.toInt) (b := 4) rfl (by decide +kernel) c_16
      refine lv_iload_n hx hb dX12_isStep_18 rfl (lv_at hl 0 rfl) ?_
      refine lv_if_ne (tgt := 31) hx hb dX12_isStep_19 (by decide +kernel) (fun c_17 => ?_) (fun c_17 => ?_)
      ·
        have n_17 : gNe (k13_2.toInt) (0) := g5_ne (a := k13_2.toInt) (b := 0) rfl (by decide +kernel) c_17
        have i_17 : k13_2.toInt ≥ 1 := by have z := g5_ne (a := k13_2.toInt) (b := 0) (by rfl) (by decide +kernel) c_17; omega
        refine lv_iconst (v := 1) hx hb dX12_isStep_31 (by decide +kernel) ?_
        refine lv_goto (tgt := 36) hx hb dX12_isStep_32 (by decide +kernel) ?_
        refine lv_istore_n (lv' := [(2, .int 1), (3, .int k13_3), (0, .int p_0), (1, .int p_1)]) hx hb dX12_isStep_36 rfl hl (by decide +kernel) rfl ?_
        clear hl
        intro ls hl
        refine lv_iinc (v := (k13_3 + 1)) (lv' := [(3, .int (k13_3 + 1)), (2, .int 1), (0, .int p_0), (1, .int p_1)]) hx hb dX12_isStep_37 hl (k := 1) rfl rfl (by decide +kernel) rfl ?_
        clear hl
        intro ls hl
        have t_18 : (k13_3 + 1).toInt = k13_3.toInt + 1 := g5_iadd (a := k13_3.toInt) (b := 1) rfl (by decide +kernel) (by omega) (by omega)
        refine lv_goto (tgt := 13) hx hb dX12_isStep_40 (by decide +kernel) ?_
        exact ih_13_15 ((k13_3 + 1), 1) ls H locs (show Int.toNat (4 - (k13_3 + 1).toInt) < Int.toNat (4 - k13_3.toInt) from g_up (show k13_3.toInt < (k13_3 + 1).toInt by omega) (show k13_3.toInt < 4 by omega)) ⟨lv_sub hl [1, 0, 2, 3] rfl, hP, hD, hS, ⟨by omega, by omega⟩, ⟨by decide, by decide⟩⟩
      ·
        have i_17 : k13_2.toInt = 0 := g5_neN (a := k13_2.toInt) (b := 0) rfl (by decide +kernel) c_17
        refine lv_iload_n hx hb dX12_isStep_22 rfl (lv_at hl 2 rfl) ?_
        refine lv_iload_n hx hb dX12_isStep_23 rfl (lv_at hl 1 rfl) ?_
        obtain ⟨hPc, hDc, hFc⟩ := g5_sub3 (wc := []) hP hD hS hA [] (by decide +kernel) rfl
        refine va_calli (va_runS (As := [.int p_0, .int k13_3]) (rest := []) ⟨hx, hb, hml, hown, hts⟩ (n_beside l G H.size p_0 k13_3 ⟨by omega, by omega⟩) (va_cwS 2 hts gS_X12_374 rfl rfl rfl hs_X12_beside ⟨Nat.le_of_ble_eq_true rfl, Nat.le_of_ble_eq_true rfl⟩) (g5_preS hPc hK hDc hN hT hS hFc) rfl rfl hl.1 rfl (lv_room (Nat.le_of_ble_eq_true rfl)) dX12_isStep_24 ⟨Nat.le_of_ble_eq_true rfl, Nat.le_of_ble_eq_true rfl⟩) hS (fun q _ h => hFc q h) hFc (fun r u t H locs ht hvm hw hB hz1 hk1 hS => ?_)
        obtain ⟨hP1, hD1⟩ := hB
        have hP1 := g5_ht ht hP1
        obtain ⟨z20, (i_19 : -1 ≤ z20.toInt ∧ z20.toInt ≤ 63), y21, rfl⟩ := hw
        have hJ9 := g5_same hP hk1
        clear hP hPc hDc hFc ht hvm hz1 hk1 hP1 hD1
        have hP := hJ9
        clear hJ9
        refine g5_ti (v := z20) y21 ?_
        refine lv_iload_n hx hb dX12_isStep_27 rfl (lv_at hl 3 rfl) ?_
        refine lv_icmp_ne (tgt := 35) hx hb dX12_isStep_28 (by decide +kernel) (fun c_22 => ?_) (fun c_22 => ?_)
        ·
          have n_22 : gNe (z20.toInt) (p_1.toInt) := g5_ne (a := z20.toInt) (b := p_1.toInt) rfl rfl c_22
          refine lv_iconst (v := 0) hx hb dX12_isStep_35 (by decide +kernel) ?_
          refine lv_istore_n (lv' := [(2, .int 0), (3, .int k13_3), (0, .int p_0), (1, .int p_1)]) hx hb dX12_isStep_36 rfl hl (by decide +kernel) rfl ?_
          clear hl
          intro ls hl
          refine lv_iinc (v := (k13_3 + 1)) (lv' := [(3, .int (k13_3 + 1)), (2, .int 0), (0, .int p_0), (1, .int p_1)]) hx hb dX12_isStep_37 hl (k := 1) rfl rfl (by decide +kernel) rfl ?_
          clear hl
          intro ls hl
          have t_23 : (k13_3 + 1).toInt = k13_3.toInt + 1 := g5_iadd (a := k13_3.toInt) (b := 1) rfl (by decide +kernel) (by omega) (by omega)
          refine lv_goto (tgt := 13) hx hb dX12_isStep_40 (by decide +kernel) ?_
          exact ih_13_15 ((k13_3 + 1), 0) ls H locs (show Int.toNat (4 - (k13_3 + 1).toInt) < Int.toNat (4 - k13_3.toInt) from g_up (show k13_3.toInt < (k13_3 + 1).toInt by omega) (show k13_3.toInt < 4 by omega)) ⟨lv_sub hl [1, 0, 2, 3] rfl, hP, hD, hS, ⟨by omega, by omega⟩, ⟨by decide, by decide⟩⟩
        ·
          have i_22 : z20.toInt = p_1.toInt := g5_neN (a := z20.toInt) (b := p_1.toInt) rfl rfl c_22
          refine lv_iconst (v := 1) hx hb dX12_isStep_31 (by decide +kernel) ?_
          refine lv_goto (tgt := 36) hx hb dX12_isStep_32 (by decide +kernel) ?_
          refine lv_istore_n (lv' := [(2, .int 1), (3, .int k13_3), (0, .int p_0), (1, .int p_1)]) hx hb dX12_isStep_36 rfl hl (by decide +kernel) rfl ?_
          clear hl
          intro ls hl
          refine lv_iinc (v := (k13_3 + 1)) (lv' := [(3, .int (k13_3 + 1)), (2, .int 1), (0, .int p_0), (1, .int p_1)]) hx hb dX12_isStep_37 hl (k := 1) rfl rfl (by decide +kernel) rfl ?_
          clear hl
          intro ls hl
          have t_24 : (k13_3 + 1).toInt = k13_3.toInt + 1 := g5_iadd (a := k13_3.toInt) (b := 1) rfl (by decide +kernel) (by omega) (by omega)
          refine lv_goto (tgt := 13) hx hb dX12_isStep_40 (by decide +kernel) ?_
          exact ih_13_15 ((k13_3 + 1), 1) ls H locs (show Int.toNat (4 - (k13_3 + 1).toInt) < Int.toNat (4 - k13_3.toInt) from g_up (show k13_3.toInt < (k13_3 + 1).toInt by omega) (show k13_3.toInt < 4 by omega)) ⟨lv_sub hl [1, 0, 2, 3] rfl, hP, hD, hS, ⟨by omega, by omega⟩, ⟨by decide, by decide⟩⟩
theorem dgX12_findSoonest_0 : ∀ r ∈ ([(0, (.iconst 0, 1)), (1, (.istore 4, 2)), (3, (.iload 4, 2)), (5, (.sipush 1536, 3)), (8, (.if_icmp .ge 48, 3)), (11, (.aload_n 0, 1)), (12, (.getfield 98, 3)), (15, (.iload 4, 2)), (17, (.iload 4, 2)), (19, (.bipush 64, 2)), (21, (.iload_n 3, 1)), (22, (.imul, 1)), (23, (.iload_n 2, 1)), (24, (.iadd, 1)), (25, (.if_icmp .ne 15, 3)), (28, (.aload_n 0, 1)), (29, (.iload_n 2, 1)), (30, (.invokevirtual 160, 3)), (33, (.ifCond .ne 7, 3)), (36, (.iconst 1, 1)), (37, (.goto 4, 3)), (40, (.iconst 0, 1)), (41, (.bastore, 1)), (42, (.aload_n 0, 1)), (43, (.getfield 101, 3)), (46, (.iload 4, 2)), (48, (.iconst 0, 1)), (49, (.bastore, 1)), (50, (.iinc 4 1, 3)), (53, (.goto (-50), 3)), (56, (.iconst (-1), 1)), (57, (.istore 4, 2)), (59, (.iload_n 3, 1)), (60, (.istore 5, 2)), (62, (.iload 5, 2)), (64, (.bipush 24, 2)), (66, (.if_icmp .ge 162, 3)), (69, (.iload 4, 2)), (71, (.iconst (-1), 1)), (72, (.if_icmp .ne 156, 3))] : List (Nat × (Instr × Nat))), decode cX12_findSoonest r.1 = .ok r.2 := by decide +kernel
theorem dX12_findSoonest_0 : decode cX12_findSoonest 0 = .ok (.iconst 0, 1) := dgX12_findSoonest_0 (0, (.iconst 0, 1)) (List.mem_of_getElem? (i := 0) rfl)
theorem dX12_findSoonest_1 : decode cX12_findSoonest 1 = .ok (.istore 4, 2) := dgX12_findSoonest_0 (1, (.istore 4, 2)) (List.mem_of_getElem? (i := 1) rfl)
theorem dX12_findSoonest_3 : decode cX12_findSoonest 3 = .ok (.iload 4, 2) := dgX12_findSoonest_0 (3, (.iload 4, 2)) (List.mem_of_getElem? (i := 2) rfl)
theorem dX12_findSoonest_5 : decode cX12_findSoonest 5 = .ok (.sipush 1536, 3) := dgX12_findSoonest_0 (5, (.sipush 1536, 3)) (List.mem_of_getElem? (i := 3) rfl)
theorem dX12_findSoonest_8 : decode cX12_findSoonest 8 = .ok (.if_icmp .ge 48, 3) := dgX12_findSoonest_0 (8, (.if_icmp .ge 48, 3)) (List.mem_of_getElem? (i := 4) rfl)
theorem dX12_findSoonest_11 : decode cX12_findSoonest 11 = .ok (.aload_n 0, 1) := dgX12_findSoonest_0 (11, (.aload_n 0, 1)) (List.mem_of_getElem? (i := 5) rfl)
theorem dX12_findSoonest_12 : decode cX12_findSoonest 12 = .ok (.getfield 98, 3) := dgX12_findSoonest_0 (12, (.getfield 98, 3)) (List.mem_of_getElem? (i := 6) rfl)
theorem dX12_findSoonest_15 : decode cX12_findSoonest 15 = .ok (.iload 4, 2) := dgX12_findSoonest_0 (15, (.iload 4, 2)) (List.mem_of_getElem? (i := 7) rfl)
theorem dX12_findSoonest_17 : decode cX12_findSoonest 17 = .ok (.iload 4, 2) := dgX12_findSoonest_0 (17, (.iload 4, 2)) (List.mem_of_getElem? (i := 8) rfl)
theorem dX12_findSoonest_19 : decode cX12_findSoonest 19 = .ok (.bipush 64, 2) := dgX12_findSoonest_0 (19, (.bipush 64, 2)) (List.mem_of_getElem? (i := 9) rfl)
theorem dX12_findSoonest_21 : decode cX12_findSoonest 21 = .ok (.iload_n 3, 1) := dgX12_findSoonest_0 (21, (.iload_n 3, 1)) (List.mem_of_getElem? (i := 10) rfl)
theorem dX12_findSoonest_22 : decode cX12_findSoonest 22 = .ok (.imul, 1) := dgX12_findSoonest_0 (22, (.imul, 1)) (List.mem_of_getElem? (i := 11) rfl)
theorem dX12_findSoonest_23 : decode cX12_findSoonest 23 = .ok (.iload_n 2, 1) := dgX12_findSoonest_0 (23, (.iload_n 2, 1)) (List.mem_of_getElem? (i := 12) rfl)
theorem dX12_findSoonest_24 : decode cX12_findSoonest 24 = .ok (.iadd, 1) := dgX12_findSoonest_0 (24, (.iadd, 1)) (List.mem_of_getElem? (i := 13) rfl)
theorem dX12_findSoonest_25 : decode cX12_findSoonest 25 = .ok (.if_icmp .ne 15, 3) := dgX12_findSoonest_0 (25, (.if_icmp .ne 15, 3)) (List.mem_of_getElem? (i := 14) rfl)
theorem dX12_findSoonest_28 : decode cX12_findSoonest 28 = .ok (.aload_n 0, 1) := dgX12_findSoonest_0 (28, (.aload_n 0, 1)) (List.mem_of_getElem? (i := 15) rfl)
theorem dX12_findSoonest_29 : decode cX12_findSoonest 29 = .ok (.iload_n 2, 1) := dgX12_findSoonest_0 (29, (.iload_n 2, 1)) (List.mem_of_getElem? (i := 16) rfl)
theorem dX12_findSoonest_30 : decode cX12_findSoonest 30 = .ok (.invokevirtual 160, 3) := dgX12_findSoonest_0 (30, (.invokevirtual 160, 3)) (List.mem_of_getElem? (i := 17) rfl)
theorem dX12_findSoonest_33 : decode cX12_findSoonest 33 = .ok (.ifCond .ne 7, 3) := dgX12_findSoonest_0 (33, (.ifCond .ne 7, 3)) (List.mem_of_getElem? (i := 18) rfl)
theorem dX12_findSoonest_36 : decode cX12_findSoonest 36 = .ok (.iconst 1, 1) := dgX12_findSoonest_0 (36, (.iconst 1, 1)) (List.mem_of_getElem? (i := 19) rfl)
theorem dX12_findSoonest_37 : decode cX12_findSoonest 37 = .ok (.goto 4, 3) := dgX12_findSoonest_0 (37, (.goto 4, 3)) (List.mem_of_getElem? (i := 20) rfl)
theorem dX12_findSoonest_40 : decode cX12_findSoonest 40 = .ok (.iconst 0, 1) := dgX12_findSoonest_0 (40, (.iconst 0, 1)) (List.mem_of_getElem? (i := 21) rfl)
theorem dX12_findSoonest_41 : decode cX12_findSoonest 41 = .ok (.bastore, 1) := dgX12_findSoonest_0 (41, (.bastore, 1)) (List.mem_of_getElem? (i := 22) rfl)
theorem dX12_findSoonest_42 : decode cX12_findSoonest 42 = .ok (.aload_n 0, 1) := dgX12_findSoonest_0 (42, (.aload_n 0, 1)) (List.mem_of_getElem? (i := 23) rfl)
theorem dX12_findSoonest_43 : decode cX12_findSoonest 43 = .ok (.getfield 101, 3) := dgX12_findSoonest_0 (43, (.getfield 101, 3)) (List.mem_of_getElem? (i := 24) rfl)
theorem dX12_findSoonest_46 : decode cX12_findSoonest 46 = .ok (.iload 4, 2) := dgX12_findSoonest_0 (46, (.iload 4, 2)) (List.mem_of_getElem? (i := 25) rfl)
theorem dX12_findSoonest_48 : decode cX12_findSoonest 48 = .ok (.iconst 0, 1) := dgX12_findSoonest_0 (48, (.iconst 0, 1)) (List.mem_of_getElem? (i := 26) rfl)
theorem dX12_findSoonest_49 : decode cX12_findSoonest 49 = .ok (.bastore, 1) := dgX12_findSoonest_0 (49, (.bastore, 1)) (List.mem_of_getElem? (i := 27) rfl)
theorem dX12_findSoonest_50 : decode cX12_findSoonest 50 = .ok (.iinc 4 1, 3) := dgX12_findSoonest_0 (50, (.iinc 4 1, 3)) (List.mem_of_getElem? (i := 28) rfl)
theorem dX12_findSoonest_53 : decode cX12_findSoonest 53 = .ok (.goto (-50), 3) := dgX12_findSoonest_0 (53, (.goto (-50), 3)) (List.mem_of_getElem? (i := 29) rfl)
theorem dX12_findSoonest_56 : decode cX12_findSoonest 56 = .ok (.iconst (-1), 1) := dgX12_findSoonest_0 (56, (.iconst (-1), 1)) (List.mem_of_getElem? (i := 30) rfl)
theorem dX12_findSoonest_57 : decode cX12_findSoonest 57 = .ok (.istore 4, 2) := dgX12_findSoonest_0 (57, (.istore 4, 2)) (List.mem_of_getElem? (i := 31) rfl)
theorem dX12_findSoonest_59 : decode cX12_findSoonest 59 = .ok (.iload_n 3, 1) := dgX12_findSoonest_0 (59, (.iload_n 3, 1)) (List.mem_of_getElem? (i := 32) rfl)
theorem dX12_findSoonest_60 : decode cX12_findSoonest 60 = .ok (.istore 5, 2) := dgX12_findSoonest_0 (60, (.istore 5, 2)) (List.mem_of_getElem? (i := 33) rfl)
theorem dX12_findSoonest_62 : decode cX12_findSoonest 62 = .ok (.iload 5, 2) := dgX12_findSoonest_0 (62, (.iload 5, 2)) (List.mem_of_getElem? (i := 34) rfl)
theorem dX12_findSoonest_64 : decode cX12_findSoonest 64 = .ok (.bipush 24, 2) := dgX12_findSoonest_0 (64, (.bipush 24, 2)) (List.mem_of_getElem? (i := 35) rfl)
theorem dX12_findSoonest_66 : decode cX12_findSoonest 66 = .ok (.if_icmp .ge 162, 3) := dgX12_findSoonest_0 (66, (.if_icmp .ge 162, 3)) (List.mem_of_getElem? (i := 36) rfl)
theorem dX12_findSoonest_69 : decode cX12_findSoonest 69 = .ok (.iload 4, 2) := dgX12_findSoonest_0 (69, (.iload 4, 2)) (List.mem_of_getElem? (i := 37) rfl)
theorem dX12_findSoonest_71 : decode cX12_findSoonest 71 = .ok (.iconst (-1), 1) := dgX12_findSoonest_0 (71, (.iconst (-1), 1)) (List.mem_of_getElem? (i := 38) rfl)
theorem dX12_findSoonest_72 : decode cX12_findSoonest 72 = .ok (.if_icmp .ne 156, 3) := dgX12_findSoonest_0 (72, (.if_icmp .ne 156, 3)) (List.mem_of_getElem? (i := 39) rfl)
theorem dgX12_findSoonest_1 : ∀ r ∈ ([(75, (.iconst 0, 1)), (76, (.istore 6, 2)), (78, (.iload 6, 2)), (80, (.bipush 64, 2)), (82, (.if_icmp .ge 140, 3)), (85, (.aload_n 0, 1)), (86, (.getfield 98, 3)), (89, (.bipush 64, 2)), (91, (.iload 5, 2)), (93, (.imul, 1)), (94, (.iload 6, 2)), (96, (.iadd, 1)), (97, (.baload, 1)), (98, (.ifCond .eq 118, 3)), (101, (.aload_n 0, 1)), (102, (.iload 6, 2)), (104, (.iload 5, 2)), (106, (.invokevirtual 404, 3)), (109, (.iload_n 1, 1)), (110, (.invokestatic 387, 3)), (113, (.ifCond .eq 21, 3)), (116, (.aload_n 0, 1)), (117, (.getfield 101, 3)), (120, (.bipush 64, 2)), (122, (.iload 5, 2)), (124, (.imul, 1)), (125, (.iload 6, 2)), (127, (.iadd, 1)), (128, (.iconst 1, 1)), (129, (.bastore, 1)), (130, (.iload 5, 2)), (132, (.istore 4, 2)), (134, (.iconst 0, 1)), (135, (.istore 7, 2)), (137, (.iload 7, 2)), (139, (.iconst 5, 1)), (140, (.if_icmp .ge 76, 3)), (143, (.iload 5, 2)), (145, (.bipush 23, 2)), (147, (.if_icmp .ge 69, 3))] : List (Nat × (Instr × Nat))), decode cX12_findSoonest r.1 = .ok r.2 := by decide +kernel
theorem dX12_findSoonest_75 : decode cX12_findSoonest 75 = .ok (.iconst 0, 1) := dgX12_findSoonest_1 (75, (.iconst 0, 1)) (List.mem_of_getElem? (i := 0) rfl)
theorem dX12_findSoonest_76 : decode cX12_findSoonest 76 = .ok (.istore 6, 2) := dgX12_findSoonest_1 (76, (.istore 6, 2)) (List.mem_of_getElem? (i := 1) rfl)
theorem dX12_findSoonest_78 : decode cX12_findSoonest 78 = .ok (.iload 6, 2) := dgX12_findSoonest_1 (78, (.iload 6, 2)) (List.mem_of_getElem? (i := 2) rfl)
theorem dX12_findSoonest_80 : decode cX12_findSoonest 80 = .ok (.bipush 64, 2) := dgX12_findSoonest_1 (80, (.bipush 64, 2)) (List.mem_of_getElem? (i := 3) rfl)
theorem dX12_findSoonest_82 : decode cX12_findSoonest 82 = .ok (.if_icmp .ge 140, 3) := dgX12_findSoonest_1 (82, (.if_icmp .ge 140, 3)) (List.mem_of_getElem? (i := 4) rfl)
theorem dX12_findSoonest_85 : decode cX12_findSoonest 85 = .ok (.aload_n 0, 1) := dgX12_findSoonest_1 (85, (.aload_n 0, 1)) (List.mem_of_getElem? (i := 5) rfl)
theorem dX12_findSoonest_86 : decode cX12_findSoonest 86 = .ok (.getfield 98, 3) := dgX12_findSoonest_1 (86, (.getfield 98, 3)) (List.mem_of_getElem? (i := 6) rfl)
theorem dX12_findSoonest_89 : decode cX12_findSoonest 89 = .ok (.bipush 64, 2) := dgX12_findSoonest_1 (89, (.bipush 64, 2)) (List.mem_of_getElem? (i := 7) rfl)
theorem dX12_findSoonest_91 : decode cX12_findSoonest 91 = .ok (.iload 5, 2) := dgX12_findSoonest_1 (91, (.iload 5, 2)) (List.mem_of_getElem? (i := 8) rfl)
theorem dX12_findSoonest_93 : decode cX12_findSoonest 93 = .ok (.imul, 1) := dgX12_findSoonest_1 (93, (.imul, 1)) (List.mem_of_getElem? (i := 9) rfl)
theorem dX12_findSoonest_94 : decode cX12_findSoonest 94 = .ok (.iload 6, 2) := dgX12_findSoonest_1 (94, (.iload 6, 2)) (List.mem_of_getElem? (i := 10) rfl)
theorem dX12_findSoonest_96 : decode cX12_findSoonest 96 = .ok (.iadd, 1) := dgX12_findSoonest_1 (96, (.iadd, 1)) (List.mem_of_getElem? (i := 11) rfl)
theorem dX12_findSoonest_97 : decode cX12_findSoonest 97 = .ok (.baload, 1) := dgX12_findSoonest_1 (97, (.baload, 1)) (List.mem_of_getElem? (i := 12) rfl)
theorem dX12_findSoonest_98 : decode cX12_findSoonest 98 = .ok (.ifCond .eq 118, 3) := dgX12_findSoonest_1 (98, (.ifCond .eq 118, 3)) (List.mem_of_getElem? (i := 13) rfl)
theorem dX12_findSoonest_101 : decode cX12_findSoonest 101 = .ok (.aload_n 0, 1) := dgX12_findSoonest_1 (101, (.aload_n 0, 1)) (List.mem_of_getElem? (i := 14) rfl)
theorem dX12_findSoonest_102 : decode cX12_findSoonest 102 = .ok (.iload 6, 2) := dgX12_findSoonest_1 (102, (.iload 6, 2)) (List.mem_of_getElem? (i := 15) rfl)
theorem dX12_findSoonest_104 : decode cX12_findSoonest 104 = .ok (.iload 5, 2) := dgX12_findSoonest_1 (104, (.iload 5, 2)) (List.mem_of_getElem? (i := 16) rfl)
theorem dX12_findSoonest_106 : decode cX12_findSoonest 106 = .ok (.invokevirtual 404, 3) := dgX12_findSoonest_1 (106, (.invokevirtual 404, 3)) (List.mem_of_getElem? (i := 17) rfl)
theorem dX12_findSoonest_109 : decode cX12_findSoonest 109 = .ok (.iload_n 1, 1) := dgX12_findSoonest_1 (109, (.iload_n 1, 1)) (List.mem_of_getElem? (i := 18) rfl)
theorem dX12_findSoonest_110 : decode cX12_findSoonest 110 = .ok (.invokestatic 387, 3) := dgX12_findSoonest_1 (110, (.invokestatic 387, 3)) (List.mem_of_getElem? (i := 19) rfl)
theorem dX12_findSoonest_113 : decode cX12_findSoonest 113 = .ok (.ifCond .eq 21, 3) := dgX12_findSoonest_1 (113, (.ifCond .eq 21, 3)) (List.mem_of_getElem? (i := 20) rfl)
theorem dX12_findSoonest_116 : decode cX12_findSoonest 116 = .ok (.aload_n 0, 1) := dgX12_findSoonest_1 (116, (.aload_n 0, 1)) (List.mem_of_getElem? (i := 21) rfl)
theorem dX12_findSoonest_117 : decode cX12_findSoonest 117 = .ok (.getfield 101, 3) := dgX12_findSoonest_1 (117, (.getfield 101, 3)) (List.mem_of_getElem? (i := 22) rfl)
theorem dX12_findSoonest_120 : decode cX12_findSoonest 120 = .ok (.bipush 64, 2) := dgX12_findSoonest_1 (120, (.bipush 64, 2)) (List.mem_of_getElem? (i := 23) rfl)
theorem dX12_findSoonest_122 : decode cX12_findSoonest 122 = .ok (.iload 5, 2) := dgX12_findSoonest_1 (122, (.iload 5, 2)) (List.mem_of_getElem? (i := 24) rfl)
theorem dX12_findSoonest_124 : decode cX12_findSoonest 124 = .ok (.imul, 1) := dgX12_findSoonest_1 (124, (.imul, 1)) (List.mem_of_getElem? (i := 25) rfl)
theorem dX12_findSoonest_125 : decode cX12_findSoonest 125 = .ok (.iload 6, 2) := dgX12_findSoonest_1 (125, (.iload 6, 2)) (List.mem_of_getElem? (i := 26) rfl)
theorem dX12_findSoonest_127 : decode cX12_findSoonest 127 = .ok (.iadd, 1) := dgX12_findSoonest_1 (127, (.iadd, 1)) (List.mem_of_getElem? (i := 27) rfl)
theorem dX12_findSoonest_128 : decode cX12_findSoonest 128 = .ok (.iconst 1, 1) := dgX12_findSoonest_1 (128, (.iconst 1, 1)) (List.mem_of_getElem? (i := 28) rfl)
theorem dX12_findSoonest_129 : decode cX12_findSoonest 129 = .ok (.bastore, 1) := dgX12_findSoonest_1 (129, (.bastore, 1)) (List.mem_of_getElem? (i := 29) rfl)
theorem dX12_findSoonest_130 : decode cX12_findSoonest 130 = .ok (.iload 5, 2) := dgX12_findSoonest_1 (130, (.iload 5, 2)) (List.mem_of_getElem? (i := 30) rfl)
theorem dX12_findSoonest_132 : decode cX12_findSoonest 132 = .ok (.istore 4, 2) := dgX12_findSoonest_1 (132, (.istore 4, 2)) (List.mem_of_getElem? (i := 31) rfl)
theorem dX12_findSoonest_134 : decode cX12_findSoonest 134 = .ok (.iconst 0, 1) := dgX12_findSoonest_1 (134, (.iconst 0, 1)) (List.mem_of_getElem? (i := 32) rfl)
theorem dX12_findSoonest_135 : decode cX12_findSoonest 135 = .ok (.istore 7, 2) := dgX12_findSoonest_1 (135, (.istore 7, 2)) (List.mem_of_getElem? (i := 33) rfl)
theorem dX12_findSoonest_137 : decode cX12_findSoonest 137 = .ok (.iload 7, 2) := dgX12_findSoonest_1 (137, (.iload 7, 2)) (List.mem_of_getElem? (i := 34) rfl)
theorem dX12_findSoonest_139 : decode cX12_findSoonest 139 = .ok (.iconst 5, 1) := dgX12_findSoonest_1 (139, (.iconst 5, 1)) (List.mem_of_getElem? (i := 35) rfl)
theorem dX12_findSoonest_140 : decode cX12_findSoonest 140 = .ok (.if_icmp .ge 76, 3) := dgX12_findSoonest_1 (140, (.if_icmp .ge 76, 3)) (List.mem_of_getElem? (i := 36) rfl)
theorem dX12_findSoonest_143 : decode cX12_findSoonest 143 = .ok (.iload 5, 2) := dgX12_findSoonest_1 (143, (.iload 5, 2)) (List.mem_of_getElem? (i := 37) rfl)
theorem dX12_findSoonest_145 : decode cX12_findSoonest 145 = .ok (.bipush 23, 2) := dgX12_findSoonest_1 (145, (.bipush 23, 2)) (List.mem_of_getElem? (i := 38) rfl)
theorem dX12_findSoonest_147 : decode cX12_findSoonest 147 = .ok (.if_icmp .ge 69, 3) := dgX12_findSoonest_1 (147, (.if_icmp .ge 69, 3)) (List.mem_of_getElem? (i := 39) rfl)
theorem dgX12_findSoonest_2 : ∀ r ∈ ([(150, (.iload 7, 2)), (152, (.iconst 4, 1)), (153, (.if_icmp .ne 8, 3)), (156, (.iload 6, 2)), (158, (.goto 10, 3)), (161, (.iload 6, 2)), (163, (.iload 7, 2)), (165, (.invokestatic 374, 3)), (168, (.istore 8, 2)), (170, (.iload 8, 2)), (172, (.iconst (-1), 1)), (173, (.if_icmp .eq 37, 3)), (176, (.aload_n 0, 1)), (177, (.iload 8, 2)), (179, (.ifCond .ge 7, 3)), (182, (.iconst 0, 1)), (183, (.goto 5, 3)), (186, (.iload 8, 2)), (188, (.invokevirtual 160, 3)), (191, (.ifCond .ne 19, 3)), (194, (.aload_n 0, 1)), (195, (.getfield 98, 3)), (198, (.bipush 64, 2)), (200, (.iload 5, 2)), (202, (.iconst 1, 1)), (203, (.iadd, 1)), (204, (.imul, 1)), (205, (.iload 8, 2)), (207, (.iadd, 1)), (208, (.iconst 1, 1)), (209, (.bastore, 1)), (210, (.iinc 7 1, 3)), (213, (.goto (-76), 3)), (216, (.iinc 6 1, 3)), (219, (.goto (-141), 3)), (222, (.iinc 5 1, 3)), (225, (.goto (-163), 3)), (228, (.iload 4, 2)), (230, (.iconst 1, 1)), (231, (.isub, 1))] : List (Nat × (Instr × Nat))), decode cX12_findSoonest r.1 = .ok r.2 := by decide +kernel
theorem dX12_findSoonest_150 : decode cX12_findSoonest 150 = .ok (.iload 7, 2) := dgX12_findSoonest_2 (150, (.iload 7, 2)) (List.mem_of_getElem? (i := 0) rfl)
theorem dX12_findSoonest_152 : decode cX12_findSoonest 152 = .ok (.iconst 4, 1) := dgX12_findSoonest_2 (152, (.iconst 4, 1)) (List.mem_of_getElem? (i := 1) rfl)
theorem dX12_findSoonest_153 : decode cX12_findSoonest 153 = .ok (.if_icmp .ne 8, 3) := dgX12_findSoonest_2 (153, (.if_icmp .ne 8, 3)) (List.mem_of_getElem? (i := 2) rfl)
theorem dX12_findSoonest_156 : decode cX12_findSoonest 156 = .ok (.iload 6, 2) := dgX12_findSoonest_2 (156, (.iload 6, 2)) (List.mem_of_getElem? (i := 3) rfl)
theorem dX12_findSoonest_158 : decode cX12_findSoonest 158 = .ok (.goto 10, 3) := dgX12_findSoonest_2 (158, (.goto 10, 3)) (List.mem_of_getElem? (i := 4) rfl)
theorem dX12_findSoonest_161 : decode cX12_findSoonest 161 = .ok (.iload 6, 2) := dgX12_findSoonest_2 (161, (.iload 6, 2)) (List.mem_of_getElem? (i := 5) rfl)
theorem dX12_findSoonest_163 : decode cX12_findSoonest 163 = .ok (.iload 7, 2) := dgX12_findSoonest_2 (163, (.iload 7, 2)) (List.mem_of_getElem? (i := 6) rfl)
theorem dX12_findSoonest_165 : decode cX12_findSoonest 165 = .ok (.invokestatic 374, 3) := dgX12_findSoonest_2 (165, (.invokestatic 374, 3)) (List.mem_of_getElem? (i := 7) rfl)
theorem dX12_findSoonest_168 : decode cX12_findSoonest 168 = .ok (.istore 8, 2) := dgX12_findSoonest_2 (168, (.istore 8, 2)) (List.mem_of_getElem? (i := 8) rfl)
theorem dX12_findSoonest_170 : decode cX12_findSoonest 170 = .ok (.iload 8, 2) := dgX12_findSoonest_2 (170, (.iload 8, 2)) (List.mem_of_getElem? (i := 9) rfl)
theorem dX12_findSoonest_172 : decode cX12_findSoonest 172 = .ok (.iconst (-1), 1) := dgX12_findSoonest_2 (172, (.iconst (-1), 1)) (List.mem_of_getElem? (i := 10) rfl)
theorem dX12_findSoonest_173 : decode cX12_findSoonest 173 = .ok (.if_icmp .eq 37, 3) := dgX12_findSoonest_2 (173, (.if_icmp .eq 37, 3)) (List.mem_of_getElem? (i := 11) rfl)
theorem dX12_findSoonest_176 : decode cX12_findSoonest 176 = .ok (.aload_n 0, 1) := dgX12_findSoonest_2 (176, (.aload_n 0, 1)) (List.mem_of_getElem? (i := 12) rfl)
theorem dX12_findSoonest_177 : decode cX12_findSoonest 177 = .ok (.iload 8, 2) := dgX12_findSoonest_2 (177, (.iload 8, 2)) (List.mem_of_getElem? (i := 13) rfl)
theorem dX12_findSoonest_179 : decode cX12_findSoonest 179 = .ok (.ifCond .ge 7, 3) := dgX12_findSoonest_2 (179, (.ifCond .ge 7, 3)) (List.mem_of_getElem? (i := 14) rfl)
theorem dX12_findSoonest_186 : decode cX12_findSoonest 186 = .ok (.iload 8, 2) := dgX12_findSoonest_2 (186, (.iload 8, 2)) (List.mem_of_getElem? (i := 17) rfl)
theorem dX12_findSoonest_188 : decode cX12_findSoonest 188 = .ok (.invokevirtual 160, 3) := dgX12_findSoonest_2 (188, (.invokevirtual 160, 3)) (List.mem_of_getElem? (i := 18) rfl)
theorem dX12_findSoonest_191 : decode cX12_findSoonest 191 = .ok (.ifCond .ne 19, 3) := dgX12_findSoonest_2 (191, (.ifCond .ne 19, 3)) (List.mem_of_getElem? (i := 19) rfl)
theorem dX12_findSoonest_194 : decode cX12_findSoonest 194 = .ok (.aload_n 0, 1) := dgX12_findSoonest_2 (194, (.aload_n 0, 1)) (List.mem_of_getElem? (i := 20) rfl)
theorem dX12_findSoonest_195 : decode cX12_findSoonest 195 = .ok (.getfield 98, 3) := dgX12_findSoonest_2 (195, (.getfield 98, 3)) (List.mem_of_getElem? (i := 21) rfl)
theorem dX12_findSoonest_198 : decode cX12_findSoonest 198 = .ok (.bipush 64, 2) := dgX12_findSoonest_2 (198, (.bipush 64, 2)) (List.mem_of_getElem? (i := 22) rfl)
theorem dX12_findSoonest_200 : decode cX12_findSoonest 200 = .ok (.iload 5, 2) := dgX12_findSoonest_2 (200, (.iload 5, 2)) (List.mem_of_getElem? (i := 23) rfl)
theorem dX12_findSoonest_202 : decode cX12_findSoonest 202 = .ok (.iconst 1, 1) := dgX12_findSoonest_2 (202, (.iconst 1, 1)) (List.mem_of_getElem? (i := 24) rfl)
theorem dX12_findSoonest_203 : decode cX12_findSoonest 203 = .ok (.iadd, 1) := dgX12_findSoonest_2 (203, (.iadd, 1)) (List.mem_of_getElem? (i := 25) rfl)
theorem dX12_findSoonest_204 : decode cX12_findSoonest 204 = .ok (.imul, 1) := dgX12_findSoonest_2 (204, (.imul, 1)) (List.mem_of_getElem? (i := 26) rfl)
theorem dX12_findSoonest_205 : decode cX12_findSoonest 205 = .ok (.iload 8, 2) := dgX12_findSoonest_2 (205, (.iload 8, 2)) (List.mem_of_getElem? (i := 27) rfl)
theorem dX12_findSoonest_207 : decode cX12_findSoonest 207 = .ok (.iadd, 1) := dgX12_findSoonest_2 (207, (.iadd, 1)) (List.mem_of_getElem? (i := 28) rfl)
theorem dX12_findSoonest_208 : decode cX12_findSoonest 208 = .ok (.iconst 1, 1) := dgX12_findSoonest_2 (208, (.iconst 1, 1)) (List.mem_of_getElem? (i := 29) rfl)
theorem dX12_findSoonest_209 : decode cX12_findSoonest 209 = .ok (.bastore, 1) := dgX12_findSoonest_2 (209, (.bastore, 1)) (List.mem_of_getElem? (i := 30) rfl)
theorem dX12_findSoonest_210 : decode cX12_findSoonest 210 = .ok (.iinc 7 1, 3) := dgX12_findSoonest_2 (210, (.iinc 7 1, 3)) (List.mem_of_getElem? (i := 31) rfl)
theorem dX12_findSoonest_213 : decode cX12_findSoonest 213 = .ok (.goto (-76), 3) := dgX12_findSoonest_2 (213, (.goto (-76), 3)) (List.mem_of_getElem? (i := 32) rfl)
theorem dX12_findSoonest_216 : decode cX12_findSoonest 216 = .ok (.iinc 6 1, 3) := dgX12_findSoonest_2 (216, (.iinc 6 1, 3)) (List.mem_of_getElem? (i := 33) rfl)
theorem dX12_findSoonest_219 : decode cX12_findSoonest 219 = .ok (.goto (-141), 3) := dgX12_findSoonest_2 (219, (.goto (-141), 3)) (List.mem_of_getElem? (i := 34) rfl)
theorem dX12_findSoonest_222 : decode cX12_findSoonest 222 = .ok (.iinc 5 1, 3) := dgX12_findSoonest_2 (222, (.iinc 5 1, 3)) (List.mem_of_getElem? (i := 35) rfl)
theorem dX12_findSoonest_225 : decode cX12_findSoonest 225 = .ok (.goto (-163), 3) := dgX12_findSoonest_2 (225, (.goto (-163), 3)) (List.mem_of_getElem? (i := 36) rfl)
theorem dX12_findSoonest_228 : decode cX12_findSoonest 228 = .ok (.iload 4, 2) := dgX12_findSoonest_2 (228, (.iload 4, 2)) (List.mem_of_getElem? (i := 37) rfl)
theorem dX12_findSoonest_230 : decode cX12_findSoonest 230 = .ok (.iconst 1, 1) := dgX12_findSoonest_2 (230, (.iconst 1, 1)) (List.mem_of_getElem? (i := 38) rfl)
theorem dX12_findSoonest_231 : decode cX12_findSoonest 231 = .ok (.isub, 1) := dgX12_findSoonest_2 (231, (.isub, 1)) (List.mem_of_getElem? (i := 39) rfl)
theorem dgX12_findSoonest_3 : ∀ r ∈ ([(232, (.istore 5, 2)), (234, (.iload 5, 2)), (236, (.iload_n 3, 1)), (237, (.if_icmp .lt 143, 3)), (240, (.iconst 0, 1)), (241, (.istore 6, 2)), (243, (.iload 6, 2)), (245, (.bipush 64, 2)), (247, (.if_icmp .ge 127, 3)), (250, (.iconst 0, 1)), (251, (.istore 7, 2)), (253, (.iload 7, 2)), (255, (.iconst 5, 1)), (256, (.if_icmp .ge 112, 3)), (259, (.iload 7, 2)), (261, (.iconst 4, 1)), (262, (.if_icmp .ne 8, 3)), (265, (.iload 6, 2)), (267, (.goto 10, 3)), (270, (.iload 6, 2)), (272, (.iload 7, 2)), (274, (.invokestatic 374, 3)), (277, (.istore 8, 2)), (279, (.aload_n 0, 1)), (280, (.getfield 101, 3)), (283, (.bipush 64, 2)), (285, (.iload 5, 2)), (287, (.imul, 1)), (288, (.iload 6, 2)), (290, (.iadd, 1)), (291, (.aload_n 0, 1)), (292, (.getfield 101, 3)), (295, (.bipush 64, 2)), (297, (.iload 5, 2)), (299, (.imul, 1)), (300, (.iload 6, 2)), (302, (.iadd, 1)), (303, (.baload, 1)), (304, (.ifCond .ne 52, 3)), (307, (.aload_n 0, 1))] : List (Nat × (Instr × Nat))), decode cX12_findSoonest r.1 = .ok r.2 := by decide +kernel
theorem dX12_findSoonest_232 : decode cX12_findSoonest 232 = .ok (.istore 5, 2) := dgX12_findSoonest_3 (232, (.istore 5, 2)) (List.mem_of_getElem? (i := 0) rfl)
theorem dX12_findSoonest_234 : decode cX12_findSoonest 234 = .ok (.iload 5, 2) := dgX12_findSoonest_3 (234, (.iload 5, 2)) (List.mem_of_getElem? (i := 1) rfl)
theorem dX12_findSoonest_236 : decode cX12_findSoonest 236 = .ok (.iload_n 3, 1) := dgX12_findSoonest_3 (236, (.iload_n 3, 1)) (List.mem_of_getElem? (i := 2) rfl)
theorem dX12_findSoonest_237 : decode cX12_findSoonest 237 = .ok (.if_icmp .lt 143, 3) := dgX12_findSoonest_3 (237, (.if_icmp .lt 143, 3)) (List.mem_of_getElem? (i := 3) rfl)
theorem dX12_findSoonest_240 : decode cX12_findSoonest 240 = .ok (.iconst 0, 1) := dgX12_findSoonest_3 (240, (.iconst 0, 1)) (List.mem_of_getElem? (i := 4) rfl)
theorem dX12_findSoonest_241 : decode cX12_findSoonest 241 = .ok (.istore 6, 2) := dgX12_findSoonest_3 (241, (.istore 6, 2)) (List.mem_of_getElem? (i := 5) rfl)
theorem dX12_findSoonest_243 : decode cX12_findSoonest 243 = .ok (.iload 6, 2) := dgX12_findSoonest_3 (243, (.iload 6, 2)) (List.mem_of_getElem? (i := 6) rfl)
theorem dX12_findSoonest_245 : decode cX12_findSoonest 245 = .ok (.bipush 64, 2) := dgX12_findSoonest_3 (245, (.bipush 64, 2)) (List.mem_of_getElem? (i := 7) rfl)
theorem dX12_findSoonest_247 : decode cX12_findSoonest 247 = .ok (.if_icmp .ge 127, 3) := dgX12_findSoonest_3 (247, (.if_icmp .ge 127, 3)) (List.mem_of_getElem? (i := 8) rfl)
theorem dX12_findSoonest_250 : decode cX12_findSoonest 250 = .ok (.iconst 0, 1) := dgX12_findSoonest_3 (250, (.iconst 0, 1)) (List.mem_of_getElem? (i := 9) rfl)
theorem dX12_findSoonest_251 : decode cX12_findSoonest 251 = .ok (.istore 7, 2) := dgX12_findSoonest_3 (251, (.istore 7, 2)) (List.mem_of_getElem? (i := 10) rfl)
theorem dX12_findSoonest_253 : decode cX12_findSoonest 253 = .ok (.iload 7, 2) := dgX12_findSoonest_3 (253, (.iload 7, 2)) (List.mem_of_getElem? (i := 11) rfl)
theorem dX12_findSoonest_255 : decode cX12_findSoonest 255 = .ok (.iconst 5, 1) := dgX12_findSoonest_3 (255, (.iconst 5, 1)) (List.mem_of_getElem? (i := 12) rfl)
theorem dX12_findSoonest_256 : decode cX12_findSoonest 256 = .ok (.if_icmp .ge 112, 3) := dgX12_findSoonest_3 (256, (.if_icmp .ge 112, 3)) (List.mem_of_getElem? (i := 13) rfl)
theorem dX12_findSoonest_259 : decode cX12_findSoonest 259 = .ok (.iload 7, 2) := dgX12_findSoonest_3 (259, (.iload 7, 2)) (List.mem_of_getElem? (i := 14) rfl)
theorem dX12_findSoonest_261 : decode cX12_findSoonest 261 = .ok (.iconst 4, 1) := dgX12_findSoonest_3 (261, (.iconst 4, 1)) (List.mem_of_getElem? (i := 15) rfl)
theorem dX12_findSoonest_262 : decode cX12_findSoonest 262 = .ok (.if_icmp .ne 8, 3) := dgX12_findSoonest_3 (262, (.if_icmp .ne 8, 3)) (List.mem_of_getElem? (i := 16) rfl)
theorem dX12_findSoonest_265 : decode cX12_findSoonest 265 = .ok (.iload 6, 2) := dgX12_findSoonest_3 (265, (.iload 6, 2)) (List.mem_of_getElem? (i := 17) rfl)
theorem dX12_findSoonest_267 : decode cX12_findSoonest 267 = .ok (.goto 10, 3) := dgX12_findSoonest_3 (267, (.goto 10, 3)) (List.mem_of_getElem? (i := 18) rfl)
theorem dX12_findSoonest_270 : decode cX12_findSoonest 270 = .ok (.iload 6, 2) := dgX12_findSoonest_3 (270, (.iload 6, 2)) (List.mem_of_getElem? (i := 19) rfl)
theorem dX12_findSoonest_272 : decode cX12_findSoonest 272 = .ok (.iload 7, 2) := dgX12_findSoonest_3 (272, (.iload 7, 2)) (List.mem_of_getElem? (i := 20) rfl)
theorem dX12_findSoonest_274 : decode cX12_findSoonest 274 = .ok (.invokestatic 374, 3) := dgX12_findSoonest_3 (274, (.invokestatic 374, 3)) (List.mem_of_getElem? (i := 21) rfl)
theorem dX12_findSoonest_277 : decode cX12_findSoonest 277 = .ok (.istore 8, 2) := dgX12_findSoonest_3 (277, (.istore 8, 2)) (List.mem_of_getElem? (i := 22) rfl)
theorem dX12_findSoonest_279 : decode cX12_findSoonest 279 = .ok (.aload_n 0, 1) := dgX12_findSoonest_3 (279, (.aload_n 0, 1)) (List.mem_of_getElem? (i := 23) rfl)
theorem dX12_findSoonest_280 : decode cX12_findSoonest 280 = .ok (.getfield 101, 3) := dgX12_findSoonest_3 (280, (.getfield 101, 3)) (List.mem_of_getElem? (i := 24) rfl)
theorem dX12_findSoonest_283 : decode cX12_findSoonest 283 = .ok (.bipush 64, 2) := dgX12_findSoonest_3 (283, (.bipush 64, 2)) (List.mem_of_getElem? (i := 25) rfl)
theorem dX12_findSoonest_285 : decode cX12_findSoonest 285 = .ok (.iload 5, 2) := dgX12_findSoonest_3 (285, (.iload 5, 2)) (List.mem_of_getElem? (i := 26) rfl)
theorem dX12_findSoonest_287 : decode cX12_findSoonest 287 = .ok (.imul, 1) := dgX12_findSoonest_3 (287, (.imul, 1)) (List.mem_of_getElem? (i := 27) rfl)
theorem dX12_findSoonest_288 : decode cX12_findSoonest 288 = .ok (.iload 6, 2) := dgX12_findSoonest_3 (288, (.iload 6, 2)) (List.mem_of_getElem? (i := 28) rfl)
theorem dX12_findSoonest_290 : decode cX12_findSoonest 290 = .ok (.iadd, 1) := dgX12_findSoonest_3 (290, (.iadd, 1)) (List.mem_of_getElem? (i := 29) rfl)
theorem dX12_findSoonest_291 : decode cX12_findSoonest 291 = .ok (.aload_n 0, 1) := dgX12_findSoonest_3 (291, (.aload_n 0, 1)) (List.mem_of_getElem? (i := 30) rfl)
theorem dX12_findSoonest_292 : decode cX12_findSoonest 292 = .ok (.getfield 101, 3) := dgX12_findSoonest_3 (292, (.getfield 101, 3)) (List.mem_of_getElem? (i := 31) rfl)
theorem dX12_findSoonest_295 : decode cX12_findSoonest 295 = .ok (.bipush 64, 2) := dgX12_findSoonest_3 (295, (.bipush 64, 2)) (List.mem_of_getElem? (i := 32) rfl)
theorem dX12_findSoonest_297 : decode cX12_findSoonest 297 = .ok (.iload 5, 2) := dgX12_findSoonest_3 (297, (.iload 5, 2)) (List.mem_of_getElem? (i := 33) rfl)
theorem dX12_findSoonest_299 : decode cX12_findSoonest 299 = .ok (.imul, 1) := dgX12_findSoonest_3 (299, (.imul, 1)) (List.mem_of_getElem? (i := 34) rfl)
theorem dX12_findSoonest_300 : decode cX12_findSoonest 300 = .ok (.iload 6, 2) := dgX12_findSoonest_3 (300, (.iload 6, 2)) (List.mem_of_getElem? (i := 35) rfl)
theorem dX12_findSoonest_302 : decode cX12_findSoonest 302 = .ok (.iadd, 1) := dgX12_findSoonest_3 (302, (.iadd, 1)) (List.mem_of_getElem? (i := 36) rfl)
theorem dX12_findSoonest_303 : decode cX12_findSoonest 303 = .ok (.baload, 1) := dgX12_findSoonest_3 (303, (.baload, 1)) (List.mem_of_getElem? (i := 37) rfl)
theorem dX12_findSoonest_304 : decode cX12_findSoonest 304 = .ok (.ifCond .ne 52, 3) := dgX12_findSoonest_3 (304, (.ifCond .ne 52, 3)) (List.mem_of_getElem? (i := 38) rfl)
theorem dX12_findSoonest_307 : decode cX12_findSoonest 307 = .ok (.aload_n 0, 1) := dgX12_findSoonest_3 (307, (.aload_n 0, 1)) (List.mem_of_getElem? (i := 39) rfl)
theorem dgX12_findSoonest_4 : ∀ r ∈ ([(308, (.getfield 98, 3)), (311, (.bipush 64, 2)), (313, (.iload 5, 2)), (315, (.imul, 1)), (316, (.iload 6, 2)), (318, (.iadd, 1)), (319, (.baload, 1)), (320, (.ifCond .eq 40, 3)), (323, (.iload 8, 2)), (325, (.iconst (-1), 1)), (326, (.if_icmp .eq 34, 3)), (329, (.aload_n 0, 1)), (330, (.getfield 101, 3)), (333, (.bipush 64, 2)), (335, (.iload 5, 2)), (337, (.iconst 1, 1)), (338, (.iadd, 1)), (339, (.imul, 1)), (340, (.iload 8, 2)), (342, (.ifCond .ge 7, 3)), (345, (.iconst 0, 1)), (346, (.goto 5, 3)), (349, (.iload 8, 2)), (351, (.iadd, 1)), (352, (.baload, 1)), (353, (.ifCond .eq 7, 3)), (356, (.iconst 1, 1)), (357, (.goto 4, 3)), (360, (.iconst 0, 1)), (361, (.bastore, 1)), (362, (.iinc 7 1, 3)), (365, (.goto (-112), 3)), (368, (.iinc 6 1, 3)), (371, (.goto (-128), 3)), (374, (.iinc 5 (-1), 3)), (377, (.goto (-143), 3)), (380, (.iload 4, 2)), (382, (.ireturn, 1))] : List (Nat × (Instr × Nat))), decode cX12_findSoonest r.1 = .ok r.2 := by decide +kernel
theorem dX12_findSoonest_308 : decode cX12_findSoonest 308 = .ok (.getfield 98, 3) := dgX12_findSoonest_4 (308, (.getfield 98, 3)) (List.mem_of_getElem? (i := 0) rfl)
theorem dX12_findSoonest_311 : decode cX12_findSoonest 311 = .ok (.bipush 64, 2) := dgX12_findSoonest_4 (311, (.bipush 64, 2)) (List.mem_of_getElem? (i := 1) rfl)
theorem dX12_findSoonest_313 : decode cX12_findSoonest 313 = .ok (.iload 5, 2) := dgX12_findSoonest_4 (313, (.iload 5, 2)) (List.mem_of_getElem? (i := 2) rfl)
theorem dX12_findSoonest_315 : decode cX12_findSoonest 315 = .ok (.imul, 1) := dgX12_findSoonest_4 (315, (.imul, 1)) (List.mem_of_getElem? (i := 3) rfl)
theorem dX12_findSoonest_316 : decode cX12_findSoonest 316 = .ok (.iload 6, 2) := dgX12_findSoonest_4 (316, (.iload 6, 2)) (List.mem_of_getElem? (i := 4) rfl)
theorem dX12_findSoonest_318 : decode cX12_findSoonest 318 = .ok (.iadd, 1) := dgX12_findSoonest_4 (318, (.iadd, 1)) (List.mem_of_getElem? (i := 5) rfl)
theorem dX12_findSoonest_319 : decode cX12_findSoonest 319 = .ok (.baload, 1) := dgX12_findSoonest_4 (319, (.baload, 1)) (List.mem_of_getElem? (i := 6) rfl)
theorem dX12_findSoonest_320 : decode cX12_findSoonest 320 = .ok (.ifCond .eq 40, 3) := dgX12_findSoonest_4 (320, (.ifCond .eq 40, 3)) (List.mem_of_getElem? (i := 7) rfl)
theorem dX12_findSoonest_323 : decode cX12_findSoonest 323 = .ok (.iload 8, 2) := dgX12_findSoonest_4 (323, (.iload 8, 2)) (List.mem_of_getElem? (i := 8) rfl)
theorem dX12_findSoonest_325 : decode cX12_findSoonest 325 = .ok (.iconst (-1), 1) := dgX12_findSoonest_4 (325, (.iconst (-1), 1)) (List.mem_of_getElem? (i := 9) rfl)
theorem dX12_findSoonest_326 : decode cX12_findSoonest 326 = .ok (.if_icmp .eq 34, 3) := dgX12_findSoonest_4 (326, (.if_icmp .eq 34, 3)) (List.mem_of_getElem? (i := 10) rfl)
theorem dX12_findSoonest_329 : decode cX12_findSoonest 329 = .ok (.aload_n 0, 1) := dgX12_findSoonest_4 (329, (.aload_n 0, 1)) (List.mem_of_getElem? (i := 11) rfl)
theorem dX12_findSoonest_330 : decode cX12_findSoonest 330 = .ok (.getfield 101, 3) := dgX12_findSoonest_4 (330, (.getfield 101, 3)) (List.mem_of_getElem? (i := 12) rfl)
theorem dX12_findSoonest_333 : decode cX12_findSoonest 333 = .ok (.bipush 64, 2) := dgX12_findSoonest_4 (333, (.bipush 64, 2)) (List.mem_of_getElem? (i := 13) rfl)
theorem dX12_findSoonest_335 : decode cX12_findSoonest 335 = .ok (.iload 5, 2) := dgX12_findSoonest_4 (335, (.iload 5, 2)) (List.mem_of_getElem? (i := 14) rfl)
theorem dX12_findSoonest_337 : decode cX12_findSoonest 337 = .ok (.iconst 1, 1) := dgX12_findSoonest_4 (337, (.iconst 1, 1)) (List.mem_of_getElem? (i := 15) rfl)
theorem dX12_findSoonest_338 : decode cX12_findSoonest 338 = .ok (.iadd, 1) := dgX12_findSoonest_4 (338, (.iadd, 1)) (List.mem_of_getElem? (i := 16) rfl)
theorem dX12_findSoonest_339 : decode cX12_findSoonest 339 = .ok (.imul, 1) := dgX12_findSoonest_4 (339, (.imul, 1)) (List.mem_of_getElem? (i := 17) rfl)
theorem dX12_findSoonest_340 : decode cX12_findSoonest 340 = .ok (.iload 8, 2) := dgX12_findSoonest_4 (340, (.iload 8, 2)) (List.mem_of_getElem? (i := 18) rfl)
theorem dX12_findSoonest_342 : decode cX12_findSoonest 342 = .ok (.ifCond .ge 7, 3) := dgX12_findSoonest_4 (342, (.ifCond .ge 7, 3)) (List.mem_of_getElem? (i := 19) rfl)
theorem dX12_findSoonest_349 : decode cX12_findSoonest 349 = .ok (.iload 8, 2) := dgX12_findSoonest_4 (349, (.iload 8, 2)) (List.mem_of_getElem? (i := 22) rfl)
theorem dX12_findSoonest_351 : decode cX12_findSoonest 351 = .ok (.iadd, 1) := dgX12_findSoonest_4 (351, (.iadd, 1)) (List.mem_of_getElem? (i := 23) rfl)
theorem dX12_findSoonest_352 : decode cX12_findSoonest 352 = .ok (.baload, 1) := dgX12_findSoonest_4 (352, (.baload, 1)) (List.mem_of_getElem? (i := 24) rfl)
theorem dX12_findSoonest_353 : decode cX12_findSoonest 353 = .ok (.ifCond .eq 7, 3) := dgX12_findSoonest_4 (353, (.ifCond .eq 7, 3)) (List.mem_of_getElem? (i := 25) rfl)
theorem dX12_findSoonest_356 : decode cX12_findSoonest 356 = .ok (.iconst 1, 1) := dgX12_findSoonest_4 (356, (.iconst 1, 1)) (List.mem_of_getElem? (i := 26) rfl)
theorem dX12_findSoonest_357 : decode cX12_findSoonest 357 = .ok (.goto 4, 3) := dgX12_findSoonest_4 (357, (.goto 4, 3)) (List.mem_of_getElem? (i := 27) rfl)
theorem dX12_findSoonest_360 : decode cX12_findSoonest 360 = .ok (.iconst 0, 1) := dgX12_findSoonest_4 (360, (.iconst 0, 1)) (List.mem_of_getElem? (i := 28) rfl)
theorem dX12_findSoonest_361 : decode cX12_findSoonest 361 = .ok (.bastore, 1) := dgX12_findSoonest_4 (361, (.bastore, 1)) (List.mem_of_getElem? (i := 29) rfl)
theorem dX12_findSoonest_362 : decode cX12_findSoonest 362 = .ok (.iinc 7 1, 3) := dgX12_findSoonest_4 (362, (.iinc 7 1, 3)) (List.mem_of_getElem? (i := 30) rfl)
theorem dX12_findSoonest_365 : decode cX12_findSoonest 365 = .ok (.goto (-112), 3) := dgX12_findSoonest_4 (365, (.goto (-112), 3)) (List.mem_of_getElem? (i := 31) rfl)
theorem dX12_findSoonest_368 : decode cX12_findSoonest 368 = .ok (.iinc 6 1, 3) := dgX12_findSoonest_4 (368, (.iinc 6 1, 3)) (List.mem_of_getElem? (i := 32) rfl)
theorem dX12_findSoonest_371 : decode cX12_findSoonest 371 = .ok (.goto (-128), 3) := dgX12_findSoonest_4 (371, (.goto (-128), 3)) (List.mem_of_getElem? (i := 33) rfl)
theorem dX12_findSoonest_374 : decode cX12_findSoonest 374 = .ok (.iinc 5 (-1), 3) := dgX12_findSoonest_4 (374, (.iinc 5 (-1), 3)) (List.mem_of_getElem? (i := 34) rfl)
theorem dX12_findSoonest_377 : decode cX12_findSoonest 377 = .ok (.goto (-143), 3) := dgX12_findSoonest_4 (377, (.goto (-143), 3)) (List.mem_of_getElem? (i := 35) rfl)
theorem dX12_findSoonest_380 : decode cX12_findSoonest 380 = .ok (.iload 4, 2) := dgX12_findSoonest_4 (380, (.iload 4, 2)) (List.mem_of_getElem? (i := 36) rfl)
theorem dX12_findSoonest_382 : decode cX12_findSoonest 382 = .ok (.ireturn, 1) := dgX12_findSoonest_4 (382, (.ireturn, 1)) (List.mem_of_getElem? (i := 37) rfl)
theorem fl_X12_101 : Cond.fieldLink RX12 101 "LateGlassModel" "leads" "[Z" ∈ tblG := tg 1251 (by decide +kernel) (by decide +kernel)
theorem fl_X12_98 : Cond.fieldLink RX12 98 "LateGlassModel" "there" "[Z" ∈ tblG := tg 1250 (by decide +kernel) (by decide +kernel)
