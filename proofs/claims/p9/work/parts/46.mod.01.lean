set_option maxHeartbeats 4000000 in
set_option maxRecDepth 100000 in
theorem n_rowsAt (l : Launch) (G : g5_G) (b_o b_ah b_be b_rf b_ro b_im b_ke b_tp b_nl b_op b_ar b_pi b_pa b_ws b_hw b_se b_re b_pt b_ip b_me b_tr b_ld b_wn : Nat) (sz : Nat) (u_th : Int32) (u_sa : Int32) (u_fd : Int32) (u_td : Int32) (u_fr : Int32) (u_to : Int32) (u_so : Int32) (u_fa : Int32) (u_bd : Int32) (u_nc : Int32) (u_co : Int32) (u_le : Int32) (u_pd : Int32) (u_od : Int32) (u_la : Int32) (u_bk : Int32) (u_ce : Int32) (u_ho : Int32) (u_wy : Int32) (u_bt : Int32) (u_ps : Int32) (u_tg : Int32) (u_sn : Int32) (u_ic : Int32) (u_wd : Int32) (u_id : Int32) (p_1 : Int32) (p_2 : Int32) (u_wo : Int64) (u_va : Int64) (u_su : Int64) (u_st : Int64) (v_ah : Nat → Int64) (v_be : Nat → Int64) (h_u_td : 0 ≤ u_td.toInt ∧ u_td.toInt ≤ 400) (h_u_fr : 0 ≤ u_fr.toInt ∧ u_fr.toInt ≤ 400) (h_u_to : 0 ≤ u_to.toInt ∧ u_to.toInt ≤ 400) (h_u_bd : 0 ≤ u_bd.toInt ∧ u_bd.toInt ≤ 1) (h_u_nc : 0 ≤ u_nc.toInt ∧ u_nc.toInt ≤ 12) (h_u_co : 0 ≤ u_co.toInt ∧ u_co.toInt ≤ 400) (h_u_pd : 0 ≤ u_pd.toInt ∧ u_pd.toInt ≤ 400) (h_u_la : 0 ≤ u_la.toInt ∧ u_la.toInt ≤ 4840) (h_u_bk : 0 ≤ u_bk.toInt ∧ u_bk.toInt ≤ 1) (h_u_ce : 0 ≤ u_ce.toInt ∧ u_ce.toInt ≤ 63) (h_u_ho : 0 ≤ u_ho.toInt ∧ u_ho.toInt ≤ 23) (h_u_wy : 0 ≤ u_wy.toInt ∧ u_wy.toInt ≤ 3) (h_u_bt : 0 ≤ u_bt.toInt ∧ u_bt.toInt ≤ 1000000) (h_u_ps : 0 ≤ u_ps.toInt ∧ u_ps.toInt ≤ 200) (h_u_ic : 0 ≤ u_ic.toInt ∧ u_ic.toInt ≤ 1) (h_u_id : 0 ≤ u_id.toInt ∧ u_id.toInt ≤ 1) (h_p_1 : 0 ≤ p_1.toInt ∧ p_1.toInt ≤ 23) (h_p_2 : 0 ≤ p_2.toInt ∧ p_2.toInt ≤ 63) : Met l yX12_rowsAt (wsG yX12_rowsAt cX12_rowsAt 7 (some .long)) ({ frames := 0, cells := 0, slots := 0, locals := 0 }) (va_Pc [.ref b_o, .int p_1, .int p_2] (g5_P G [(b_o, (oc12 u_th u_sa b_rf b_ro b_im b_ke u_fd b_tp u_td u_fr u_to u_so u_wo u_fa u_bd u_nc b_nl u_co b_op b_ar u_le b_pi b_pa u_pd u_od b_ws b_hw u_la b_se b_re u_bk u_va u_su u_ce u_ho u_wy u_bt u_ps b_pt u_tg u_sn b_ip u_ic b_ah b_be b_me u_wd b_tr b_ld u_st b_wn u_id)), (b_ah, (arJ G 49152 v_ah)), (b_be, (arJ G 49152 v_be))] sz)) (va_Ql (fun (r : Int64) (u : va_W) => (∃ (o_r : Int64), (r = o_r) ∧ (u = [(b_o, (oc12 u_th u_sa b_rf b_ro b_im b_ke u_fd b_tp u_td u_fr u_to u_so u_wo u_fa u_bd u_nc b_nl u_co b_op b_ar u_le b_pi b_pa u_pd u_od b_ws b_hw u_la b_se b_re u_bk u_va u_su u_ce u_ho u_wy u_bt u_ps b_pt u_tg u_sn b_ip u_ic b_ah b_be b_me u_wd b_tr b_ld u_st b_wn u_id)), (b_ah, (arJ G 49152 v_ah)), (b_be, (arJ G 49152 v_be))]))) (g5_B G (va_A [(b_o, (oc12 u_th u_sa b_rf b_ro b_im b_ke u_fd b_tp u_td u_fr u_to u_so u_wo u_fa u_bd u_nc b_nl u_co b_op b_ar u_le b_pi b_pa u_pd u_od b_ws b_hw u_la b_se b_re u_bk u_va u_su u_ce u_ho u_wy u_bt u_ps b_pt u_tg u_sn b_ip u_ic b_ah b_be b_me u_wd b_tr b_ld u_st b_wn u_id)), (b_ah, (arJ G 49152 v_ah)), (b_be, (arJ G 49152 v_be))] sz)) (va_A [(b_o, (oc12 u_th u_sa b_rf b_ro b_im b_ke u_fd b_tp u_td u_fr u_to u_so u_wo u_fa u_bd u_nc b_nl u_co b_op b_ar u_le b_pi b_pa u_pd u_od b_ws b_hw u_la b_se b_re u_bk u_va u_su u_ce u_ho u_wy u_bt u_ps b_pt u_tg u_sn b_ip u_ic b_ah b_be b_me u_wd b_tr b_ld u_st b_wn u_id)), (b_ah, (arJ G 49152 v_ah)), (b_be, (arJ G 49152 v_be))] sz)) 0 0 (va_A [(b_o, (oc12 u_th u_sa b_rf b_ro b_im b_ke u_fd b_tp u_td u_fr u_to u_so u_wo u_fa u_bd u_nc b_nl u_co b_op b_ar u_le b_pi b_pa u_pd u_od b_ws b_hw u_la b_se b_re u_bk u_va u_su u_ce u_ho u_wy u_bt u_ps b_pt u_tg u_sn b_ip u_ic b_ah b_be b_me u_wd b_tr b_ld u_st b_wn u_id)), (b_ah, (arJ G 49152 v_ah)), (b_be, (arJ G 49152 v_be))] sz) := by
  refine Met.ofW (cc := cX12_rowsAt) (maxL := 7) (ret := (some .long)) (by decide) rfl ?_
  intro p e s m args below meth c s₁ B hml hv
  obtain ⟨rfl, hsz, hP, hK, hD0, hN, hT⟩ := hv
  have hx := B.exec
  have hb := B.bytes
  have hr := B.returns
  have hts : ∀ w ∈ tblG, w.before _ s = true := fun w h => atoms_spec (ws := (wsG yX12_rowsAt cX12_rowsAt 7 (some .long))) B.pre w (List.mem_cons_of_mem _ h)
  have hown : s.vm.findClass RX12 = some m.cls := findClass_of_methodNamed B.named
  have hlocks := B.notSynchronized
  subst hsz
  have hD := hD0.self (sz := s.heap.size)
  generalize hAe : va_A [(b_o, (oc12 u_th u_sa b_rf b_ro b_im b_ke u_fd b_tp u_td u_fr u_to u_so u_wo u_fa u_bd u_nc b_nl u_co b_op b_ar u_le b_pi b_pa u_pd u_od b_ws b_hw u_la b_se b_re u_bk u_va u_su u_ce u_ho u_wy u_bt u_ps b_pt u_tg u_sn b_ip u_ic b_ah b_be b_me u_wd b_tr b_ld u_st b_wn u_id)), (b_ah, (arJ G 49152 v_ah)), (b_be, (arJ G 49152 v_be))] s.heap.size = A at hD hT ⊢
  have hA : ∀ q : Nat, s.heap.size ≤ q → A q := fun q h => by rw [← hAe]; exact Or.inr h
  have hS : va_S A s.heap s.heap [] := va_S.rf
  have hP : va_P G.1 vwCl [(b_o, (oc12 u_th u_sa b_rf b_ro b_im b_ke u_fd b_tp u_td u_fr u_to u_so u_wo u_fa u_bd u_nc b_nl u_co b_op b_ar u_le b_pi b_pa u_pd u_od b_ws b_hw u_la b_se b_re u_bk u_va u_su u_ce u_ho u_wy u_bt u_ps b_pt u_tg u_sn b_ip u_ic b_ah b_be b_me u_wd b_tr b_ld u_st b_wn u_id)), (b_ah, (arJ G 49152 v_ah)), (b_be, (arJ G 49152 v_be))] s.heap := hP
  have hl := lv_entry ([.ref b_o, .int p_1, .int p_2]) (n := 7) (Nat.le_of_ble_eq_true rfl)
  rw [lg_entry_eq]
  generalize (lg_sl ([.ref b_o, .int p_1, .int p_2]) ++ List.replicate (7 - (lg_sl ([.ref b_o, .int p_1, .int p_2])).length) Slot.unset).toArray = ls at hl ⊢
  have hl : lv_has ls 7 [(0, .ref b_o), (1, .int p_1), (2, .int p_2)] := hl
  refine lv_lconst (v := 0) hx hb dX12_rowsAt_0 (by decide) ?_
  refine lv_lstore_n (lv' := [(3, .long 0), (0, .ref b_o), (1, .int p_1), (2, .int p_2)]) hx hb dX12_rowsAt_1 rfl hl (by decide) rfl (fun ls hl => ?_)
  refine lv_iconst (v := 0) hx hb dX12_rowsAt_2 (by decide) ?_
  refine lv_istore (lv' := [(5, .int 0), (3, .long 0), (0, .ref b_o), (1, .int p_1), (2, .int p_2)]) hx hb dX12_rowsAt_3 hl (by decide) rfl (fun ls hl => ?_)
  refine g5_loop (α := (Int32) × (Int64)) (fun (q : (Int32) × (Int64)) (ls : Array Slot) (H : Heap) (locs : List Loc) => match q with | (k5_5, k5_3) => lv_has ls 7 [(3, .long k5_3), (5, .int k5_5), (0, .ref b_o), (1, .int p_1), (2, .int p_2)] ∧ va_P G.1 vwCl [(b_o, (oc12 u_th u_sa b_rf b_ro b_im b_ke u_fd b_tp u_td u_fr u_to u_so u_wo u_fa u_bd u_nc b_nl u_co b_op b_ar u_le b_pi b_pa u_pd u_od b_ws b_hw u_la b_se b_re u_bk u_va u_su u_ce u_ho u_wy u_bt u_ps b_pt u_tg u_sn b_ip u_ic b_ah b_be b_me u_wd b_tr b_ld u_st b_wn u_id)), (b_ah, (arJ G 49152 v_ah)), (b_be, (arJ G 49152 v_be))] H ∧ va_D A [(b_o, (oc12 u_th u_sa b_rf b_ro b_im b_ke u_fd b_tp u_td u_fr u_to u_so u_wo u_fa u_bd u_nc b_nl u_co b_op b_ar u_le b_pi b_pa u_pd u_od b_ws b_hw u_la b_se b_re u_bk u_va u_su u_ce u_ho u_wy u_bt u_ps b_pt u_tg u_sn b_ip u_ic b_ah b_be b_me u_wd b_tr b_ld u_st b_wn u_id)), (b_ah, (arJ G 49152 v_ah)), (b_be, (arJ G 49152 v_be))] ∧ va_S A s.heap H locs ∧ (0 ≤ k5_5.toInt ∧ k5_5.toInt ≤ 32)) (fun (q : (Int32) × (Int64)) => match q with | (k5_5, k5_3) => Int.toNat (32 - k5_5.toInt)) (0, 0) ⟨lv_sub hl [1, 0, 2, 3, 4] rfl, hP, hD, hS, ⟨by decide, by decide⟩⟩ ?_
  rintro ⟨k5_5, k5_3⟩ ls H locs ⟨hl, hP, hD, hS, i_1⟩ ih_5_2
  have hl : lv_has ls 7 [(3, .long k5_3), (5, .int k5_5), (0, .ref b_o), (1, .int p_1), (2, .int p_2)] := hl
  have i_1 : 0 ≤ k5_5.toInt ∧ k5_5.toInt ≤ 32 := i_1
  refine g5_rs [(b_o, (oc12 u_th u_sa b_rf b_ro b_im b_ke u_fd b_tp u_td u_fr u_to u_so u_wo u_fa u_bd u_nc b_nl u_co b_op b_ar u_le b_pi b_pa u_pd u_od b_ws b_hw u_la b_se b_re u_bk u_va u_su u_ce u_ho u_wy u_bt u_ps b_pt u_tg u_sn b_ip u_ic b_ah b_be b_me u_wd b_tr b_ld u_st b_wn u_id)), (b_ah, (arJ G 49152 v_ah)), (b_be, (arJ G 49152 v_be))] hP hD (fun hP hD => ?_)
  refine lv_iload hx hb dX12_rowsAt_5 (lv_at hl 1 rfl) ?_
  refine lv_bipush (v := 32) hx hb dX12_rowsAt_7 (by decide) ?_
  refine lv_icmp_ge (tgt := 50) hx hb dX12_rowsAt_9 (by decide) (fun c_3 => ?_) (fun c_3 => ?_)
  ·
    have i_3 : k5_5.toInt ≥ 32 := by have z := g5_ge (a := k5_5.toInt) (b := 32) (by rfl) (by decide) c_3; omega
    refine lv_lload_n hx hb dX12_rowsAt_50 rfl (lv_at hl 0 rfl) ?_
    exact W.lret (v := k5_3) hx hb hr (fun t ht hW => ⟨⟨k5_3, [(b_o, (oc12 u_th u_sa b_rf b_ro b_im b_ke u_fd b_tp u_td u_fr u_to u_so u_wo u_fa u_bd u_nc b_nl u_co b_op b_ar u_le b_pi b_pa u_pd u_od b_ws b_hw u_la b_se b_re u_bk u_va u_su u_ce u_ho u_wy u_bt u_ps b_pt u_tg u_sn b_ip u_ic b_ah b_be b_me u_wd b_tr b_ld u_st b_wn u_id)), (b_ah, (arJ G 49152 v_ah)), (b_be, (arJ G 49152 v_be))], rfl, ⟨k5_3, rfl, rfl⟩, by rw [ht]; exact hP.sub [0, 1, 2] rfl, hD.sub [0, 1, 2] (by decide) rfl⟩, hS.F ht⟩) hS.2.2 dX12_rowsAt_51
  ·
    have i_3 : k5_5.toInt < 32 := by have z := g5_geN (a := k5_5.toInt) (b := 32) (by rfl) (by decide) c_3; omega
    refine lv_bipush (v := 32) hx hb dX12_rowsAt_12 (by decide) ?_
    refine lv_bipush (v := 64) hx hb dX12_rowsAt_14 (by decide) ?_
    refine lv_iload_n hx hb dX12_rowsAt_16 rfl (lv_at hl 3 rfl) ?_
    refine lv_imul hx hb dX12_rowsAt_17 ?_
    have t_4 : (64 * p_1).toInt = 64 * p_1.toInt := g5_imul (a := 64) (b := p_1.toInt) (by decide) (by rfl) (by omega) (by omega)
    refine lv_iload_n hx hb dX12_rowsAt_18 rfl (lv_at hl 4 rfl) ?_
    refine lv_iadd hx hb dX12_rowsAt_19 ?_
    have t_5 : ((64 * p_1) + p_2).toInt = (64 * p_1).toInt + p_2.toInt := g5_iadd (a := (64 * p_1).toInt) (b := p_2.toInt) (by rfl) (by rfl) (by omega) (by omega)
    refine lv_imul hx hb dX12_rowsAt_20 ?_
    have t_6 : (32 * ((64 * p_1) + p_2)).toInt = 32 * ((64 * p_1) + p_2).toInt := g5_imul (a := 32) (b := ((64 * p_1) + p_2).toInt) (by decide) (by rfl) (by omega) (by omega)
    refine lv_iload hx hb dX12_rowsAt_21 (lv_at hl 1 rfl) ?_
    refine lv_iadd hx hb dX12_rowsAt_23 ?_
    have t_7 : ((32 * ((64 * p_1) + p_2)) + k5_5).toInt = (32 * ((64 * p_1) + p_2)).toInt + k5_5.toInt := g5_iadd (a := (32 * ((64 * p_1) + p_2)).toInt) (b := k5_5.toInt) (by rfl) (by rfl) (by omega) (by omega)
    refine lv_istore (lv' := [(6, .int ((32 * ((64 * p_1) + p_2)) + k5_5)), (3, .long k5_3), (5, .int k5_5), (0, .ref b_o), (1, .int p_1), (2, .int p_2)]) hx hb dX12_rowsAt_24 hl (by decide) rfl (fun ls hl => ?_)
    refine lv_lload_n hx hb dX12_rowsAt_26 rfl (lv_at hl 1 rfl) ?_
    refine lv_aload_n hx hb dX12_rowsAt_27 rfl (lv_at hl 3 rfl) ?_
    refine va_get (D := G.1) (ci := 12) (v := .ref b_ah) (C := RX12) (T := TX12) (N := 52) hx hb hts inG_X12 hown hK hP 0 rfl rfl 43 (by decide) (hts _ fl_X12_89) (fun _ h9 => h9) rfl dX12_rowsAt_28 ?_
    refine lv_iload hx hb dX12_rowsAt_31 (lv_at hl 0 rfl) ?_
    refine va_lald hx hb hK hP 1 1 rfl rfl (i := ((32 * ((64 * p_1) + p_2)) + k5_5)) (vp_in_iff.mpr ⟨by omega, by omega⟩) dX12_rowsAt_33 ?_
    refine lv_aload_n hx hb dX12_rowsAt_34 rfl (lv_at hl 3 rfl) ?_
    refine va_get (D := G.1) (ci := 12) (v := .ref b_be) (C := RX12) (T := TX12) (N := 52) hx hb hts inG_X12 hown hK hP 0 rfl rfl 44 (by decide) (hts _ fl_X12_92) (fun _ h9 => h9) rfl dX12_rowsAt_35 ?_
    refine lv_iload hx hb dX12_rowsAt_38 (lv_at hl 0 rfl) ?_
    refine va_lald hx hb hK hP 2 1 rfl rfl (i := ((32 * ((64 * p_1) + p_2)) + k5_5)) (vp_in_iff.mpr ⟨by omega, by omega⟩) dX12_rowsAt_40 ?_
    refine lv_lmul hx hb dX12_rowsAt_41 ?_
    refine lv_ladd hx hb dX12_rowsAt_42 ?_
    refine lv_lstore_n (lv' := [(3, .long (k5_3 + ((v_ah ((32 * ((64 * p_1) + p_2)) + k5_5).toNatClampNeg) * (v_be ((32 * ((64 * p_1) + p_2)) + k5_5).toNatClampNeg)))), (6, .int ((32 * ((64 * p_1) + p_2)) + k5_5)), (5, .int k5_5), (0, .ref b_o), (1, .int p_1), (2, .int p_2)]) hx hb dX12_rowsAt_43 rfl hl (by decide) rfl (fun ls hl => ?_)
    refine lv_iinc (v := (k5_5 + 1)) (lv' := [(5, .int (k5_5 + 1)), (3, .long (k5_3 + ((v_ah ((32 * ((64 * p_1) + p_2)) + k5_5).toNatClampNeg) * (v_be ((32 * ((64 * p_1) + p_2)) + k5_5).toNatClampNeg)))), (6, .int ((32 * ((64 * p_1) + p_2)) + k5_5)), (0, .ref b_o), (1, .int p_1), (2, .int p_2)]) hx hb dX12_rowsAt_44 hl (k := 2) rfl rfl (by decide) rfl (fun ls hl => ?_)
    have t_8 : (k5_5 + 1).toInt = k5_5.toInt + 1 := g5_iadd (a := k5_5.toInt) (b := 1) rfl (by decide) (by omega) (by omega)
    refine lv_goto (tgt := 5) hx hb dX12_rowsAt_47 (by decide) ?_
    exact ih_5_2 ((k5_5 + 1), (k5_3 + ((v_ah ((32 * ((64 * p_1) + p_2)) + k5_5).toNatClampNeg) * (v_be ((32 * ((64 * p_1) + p_2)) + k5_5).toNatClampNeg)))) ls H locs (show Int.toNat (32 - (k5_5 + 1).toInt) < Int.toNat (32 - k5_5.toInt) from g_up (show k5_5.toInt < (k5_5 + 1).toInt by omega) (show k5_5.toInt < 32 by omega)) ⟨lv_sub hl [1, 0, 3, 4, 5] rfl, hP, hD, hS, ⟨by omega, by omega⟩⟩
theorem dgX12_allRows_0 : ∀ r ∈ ([(0, (.lconst 0, 1)), (1, (.lstore_n 1, 1)), (2, (.iconst 0, 1)), (3, (.istore_n 3, 1)), (4, (.iload_n 3, 1)), (5, (.bipush 64, 2)), (7, (.if_icmp .ge 18, 3)), (10, (.lload_n 1, 1)), (11, (.aload_n 0, 1)), (12, (.iconst 0, 1)), (13, (.iload_n 3, 1)), (14, (.invokevirtual 440, 3)), (17, (.ladd, 1)), (18, (.lstore_n 1, 1)), (19, (.iinc 3 1, 3)), (22, (.goto (-18), 3)), (25, (.lload_n 1, 1)), (26, (.lreturn, 1))] : List (Nat × (Instr × Nat))), decode cX12_allRows r.1 = .ok r.2 := by decide +kernel
theorem dX12_allRows_0 : decode cX12_allRows 0 = .ok (.lconst 0, 1) := dgX12_allRows_0 (0, (.lconst 0, 1)) (List.mem_of_getElem? (i := 0) rfl)
theorem dX12_allRows_1 : decode cX12_allRows 1 = .ok (.lstore_n 1, 1) := dgX12_allRows_0 (1, (.lstore_n 1, 1)) (List.mem_of_getElem? (i := 1) rfl)
theorem dX12_allRows_2 : decode cX12_allRows 2 = .ok (.iconst 0, 1) := dgX12_allRows_0 (2, (.iconst 0, 1)) (List.mem_of_getElem? (i := 2) rfl)
theorem dX12_allRows_3 : decode cX12_allRows 3 = .ok (.istore_n 3, 1) := dgX12_allRows_0 (3, (.istore_n 3, 1)) (List.mem_of_getElem? (i := 3) rfl)
theorem dX12_allRows_4 : decode cX12_allRows 4 = .ok (.iload_n 3, 1) := dgX12_allRows_0 (4, (.iload_n 3, 1)) (List.mem_of_getElem? (i := 4) rfl)
theorem dX12_allRows_5 : decode cX12_allRows 5 = .ok (.bipush 64, 2) := dgX12_allRows_0 (5, (.bipush 64, 2)) (List.mem_of_getElem? (i := 5) rfl)
theorem dX12_allRows_7 : decode cX12_allRows 7 = .ok (.if_icmp .ge 18, 3) := dgX12_allRows_0 (7, (.if_icmp .ge 18, 3)) (List.mem_of_getElem? (i := 6) rfl)
theorem dX12_allRows_10 : decode cX12_allRows 10 = .ok (.lload_n 1, 1) := dgX12_allRows_0 (10, (.lload_n 1, 1)) (List.mem_of_getElem? (i := 7) rfl)
theorem dX12_allRows_11 : decode cX12_allRows 11 = .ok (.aload_n 0, 1) := dgX12_allRows_0 (11, (.aload_n 0, 1)) (List.mem_of_getElem? (i := 8) rfl)
theorem dX12_allRows_12 : decode cX12_allRows 12 = .ok (.iconst 0, 1) := dgX12_allRows_0 (12, (.iconst 0, 1)) (List.mem_of_getElem? (i := 9) rfl)
theorem dX12_allRows_13 : decode cX12_allRows 13 = .ok (.iload_n 3, 1) := dgX12_allRows_0 (13, (.iload_n 3, 1)) (List.mem_of_getElem? (i := 10) rfl)
theorem dX12_allRows_14 : decode cX12_allRows 14 = .ok (.invokevirtual 440, 3) := dgX12_allRows_0 (14, (.invokevirtual 440, 3)) (List.mem_of_getElem? (i := 11) rfl)
theorem dX12_allRows_17 : decode cX12_allRows 17 = .ok (.ladd, 1) := dgX12_allRows_0 (17, (.ladd, 1)) (List.mem_of_getElem? (i := 12) rfl)
theorem dX12_allRows_18 : decode cX12_allRows 18 = .ok (.lstore_n 1, 1) := dgX12_allRows_0 (18, (.lstore_n 1, 1)) (List.mem_of_getElem? (i := 13) rfl)
theorem dX12_allRows_19 : decode cX12_allRows 19 = .ok (.iinc 3 1, 3) := dgX12_allRows_0 (19, (.iinc 3 1, 3)) (List.mem_of_getElem? (i := 14) rfl)
theorem dX12_allRows_22 : decode cX12_allRows 22 = .ok (.goto (-18), 3) := dgX12_allRows_0 (22, (.goto (-18), 3)) (List.mem_of_getElem? (i := 15) rfl)
theorem dX12_allRows_25 : decode cX12_allRows 25 = .ok (.lload_n 1, 1) := dgX12_allRows_0 (25, (.lload_n 1, 1)) (List.mem_of_getElem? (i := 16) rfl)
theorem dX12_allRows_26 : decode cX12_allRows 26 = .ok (.lreturn, 1) := dgX12_allRows_0 (26, (.lreturn, 1)) (List.mem_of_getElem? (i := 17) rfl)
theorem ml_X12_440 : Cond.methodLink RX12 440 yX12_rowsAt ∈ tblG := tg 1740 (by decide +kernel) (by decide +kernel)
theorem im_X12_rowsAt : Cond.instanceMethod yX12_rowsAt ∈ tblG := tg 1742 (by decide +kernel) (by decide +kernel)
theorem se_X12_rowsAt : Cond.selects RX12 yX12_rowsAt yX12_rowsAt ∈ tblG := tg 82 (by decide +kernel) (by decide +kernel)
theorem cd_X12_rowsAt : Cond.code yX12_rowsAt cX12_rowsAt 7 (some .long) ∈ tblG := tg 1743 (by decide +kernel) (by decide +kernel)
theorem gW_X12_rowsAt : GoodIn tblG (wsG yX12_rowsAt cX12_rowsAt 7 (some .long)) := tgi cd_X12_rowsAt
theorem gV_X12_440 : GoodIn tblG (wsV RX12 440 RX12 yX12_rowsAt (wsG yX12_rowsAt cX12_rowsAt 7 (some .long))) := tgV ml_X12_440 im_X12_rowsAt se_X12_rowsAt ini_X12 gW_X12_rowsAt
theorem hv_X12_rowsAt : yX12_rowsAt.cls = RX12 ∧ yX12_rowsAt.cls ≠ "java/lang/invoke/MethodHandle" ∧ yX12_rowsAt.cls ≠ "java/lang/invoke/VarHandle" ∧ (parseMethodDescriptor yX12_rowsAt.desc).map (fun d => d.parameters.length) = some 2 := by decide +kernel
set_option maxHeartbeats 4000000 in
set_option maxRecDepth 100000 in
theorem n_allRows (l : Launch) (G : g5_G) (b_o b_ah b_be b_rf b_ro b_im b_ke b_tp b_nl b_op b_ar b_pi b_pa b_ws b_hw b_se b_re b_pt b_ip b_me b_tr b_ld b_wn : Nat) (sz : Nat) (u_th : Int32) (u_sa : Int32) (u_fd : Int32) (u_td : Int32) (u_fr : Int32) (u_to : Int32) (u_so : Int32) (u_fa : Int32) (u_bd : Int32) (u_nc : Int32) (u_co : Int32) (u_le : Int32) (u_pd : Int32) (u_od : Int32) (u_la : Int32) (u_bk : Int32) (u_ce : Int32) (u_ho : Int32) (u_wy : Int32) (u_bt : Int32) (u_ps : Int32) (u_tg : Int32) (u_sn : Int32) (u_ic : Int32) (u_wd : Int32) (u_id : Int32) (u_wo : Int64) (u_va : Int64) (u_su : Int64) (u_st : Int64) (v_ah : Nat → Int64) (v_be : Nat → Int64) (h_u_td : 0 ≤ u_td.toInt ∧ u_td.toInt ≤ 400) (h_u_fr : 0 ≤ u_fr.toInt ∧ u_fr.toInt ≤ 400) (h_u_to : 0 ≤ u_to.toInt ∧ u_to.toInt ≤ 400) (h_u_bd : 0 ≤ u_bd.toInt ∧ u_bd.toInt ≤ 1) (h_u_nc : 0 ≤ u_nc.toInt ∧ u_nc.toInt ≤ 12) (h_u_co : 0 ≤ u_co.toInt ∧ u_co.toInt ≤ 400) (h_u_pd : 0 ≤ u_pd.toInt ∧ u_pd.toInt ≤ 400) (h_u_la : 0 ≤ u_la.toInt ∧ u_la.toInt ≤ 4840) (h_u_bk : 0 ≤ u_bk.toInt ∧ u_bk.toInt ≤ 1) (h_u_ce : 0 ≤ u_ce.toInt ∧ u_ce.toInt ≤ 63) (h_u_ho : 0 ≤ u_ho.toInt ∧ u_ho.toInt ≤ 23) (h_u_wy : 0 ≤ u_wy.toInt ∧ u_wy.toInt ≤ 3) (h_u_bt : 0 ≤ u_bt.toInt ∧ u_bt.toInt ≤ 1000000) (h_u_ps : 0 ≤ u_ps.toInt ∧ u_ps.toInt ≤ 200) (h_u_ic : 0 ≤ u_ic.toInt ∧ u_ic.toInt ≤ 1) (h_u_id : 0 ≤ u_id.toInt ∧ u_id.toInt ≤ 1) : Met l yX12_allRows (wsG yX12_allRows cX12_allRows 4 (some .long)) ({ frames := 1, cells := 0, slots := 0, locals := 26 }) (va_Pc [.ref b_o] (g5_P G [(b_o, (oc12 u_th u_sa b_rf b_ro b_im b_ke u_fd b_tp u_td u_fr u_to u_so u_wo u_fa u_bd u_nc b_nl u_co b_op b_ar u_le b_pi b_pa u_pd u_od b_ws b_hw u_la b_se b_re u_bk u_va u_su u_ce u_ho u_wy u_bt u_ps b_pt u_tg u_sn b_ip u_ic b_ah b_be b_me u_wd b_tr b_ld u_st b_wn u_id)), (b_ah, (arJ G 49152 v_ah)), (b_be, (arJ G 49152 v_be))] sz)) (va_Ql (fun (r : Int64) (u : va_W) => (∃ (o_r : Int64), (r = o_r) ∧ (u = [(b_o, (oc12 u_th u_sa b_rf b_ro b_im b_ke u_fd b_tp u_td u_fr u_to u_so u_wo u_fa u_bd u_nc b_nl u_co b_op b_ar u_le b_pi b_pa u_pd u_od b_ws b_hw u_la b_se b_re u_bk u_va u_su u_ce u_ho u_wy u_bt u_ps b_pt u_tg u_sn b_ip u_ic b_ah b_be b_me u_wd b_tr b_ld u_st b_wn u_id)), (b_ah, (arJ G 49152 v_ah)), (b_be, (arJ G 49152 v_be))]))) (g5_B G (va_A [(b_o, (oc12 u_th u_sa b_rf b_ro b_im b_ke u_fd b_tp u_td u_fr u_to u_so u_wo u_fa u_bd u_nc b_nl u_co b_op b_ar u_le b_pi b_pa u_pd u_od b_ws b_hw u_la b_se b_re u_bk u_va u_su u_ce u_ho u_wy u_bt u_ps b_pt u_tg u_sn b_ip u_ic b_ah b_be b_me u_wd b_tr b_ld u_st b_wn u_id)), (b_ah, (arJ G 49152 v_ah)), (b_be, (arJ G 49152 v_be))] sz)) (va_A [(b_o, (oc12 u_th u_sa b_rf b_ro b_im b_ke u_fd b_tp u_td u_fr u_to u_so u_wo u_fa u_bd u_nc b_nl u_co b_op b_ar u_le b_pi b_pa u_pd u_od b_ws b_hw u_la b_se b_re u_bk u_va u_su u_ce u_ho u_wy u_bt u_ps b_pt u_tg u_sn b_ip u_ic b_ah b_be b_me u_wd b_tr b_ld u_st b_wn u_id)), (b_ah, (arJ G 49152 v_ah)), (b_be, (arJ G 49152 v_be))] sz)) 0 0 (va_A [(b_o, (oc12 u_th u_sa b_rf b_ro b_im b_ke u_fd b_tp u_td u_fr u_to u_so u_wo u_fa u_bd u_nc b_nl u_co b_op b_ar u_le b_pi b_pa u_pd u_od b_ws b_hw u_la b_se b_re u_bk u_va u_su u_ce u_ho u_wy u_bt u_ps b_pt u_tg u_sn b_ip u_ic b_ah b_be b_me u_wd b_tr b_ld u_st b_wn u_id)), (b_ah, (arJ G 49152 v_ah)), (b_be, (arJ G 49152 v_be))] sz) := by
  refine Met.ofW (cc := cX12_allRows) (maxL := 4) (ret := (some .long)) (by decide) rfl ?_
  intro p e s m args below meth c s₁ B hml hv
  obtain ⟨rfl, hsz, hP, hK, hD0, hN, hT⟩ := hv
  have hx := B.exec
  have hb := B.bytes
  have hr := B.returns
  have hts : ∀ w ∈ tblG, w.before _ s = true := fun w h => atoms_spec (ws := (wsG yX12_allRows cX12_allRows 4 (some .long))) B.pre w (List.mem_cons_of_mem _ h)
  have hown : s.vm.findClass RX12 = some m.cls := findClass_of_methodNamed B.named
  have hlocks := B.notSynchronized
  subst hsz
  have hD := hD0.self (sz := s.heap.size)
  generalize hAe : va_A [(b_o, (oc12 u_th u_sa b_rf b_ro b_im b_ke u_fd b_tp u_td u_fr u_to u_so u_wo u_fa u_bd u_nc b_nl u_co b_op b_ar u_le b_pi b_pa u_pd u_od b_ws b_hw u_la b_se b_re u_bk u_va u_su u_ce u_ho u_wy u_bt u_ps b_pt u_tg u_sn b_ip u_ic b_ah b_be b_me u_wd b_tr b_ld u_st b_wn u_id)), (b_ah, (arJ G 49152 v_ah)), (b_be, (arJ G 49152 v_be))] s.heap.size = A at hD hT ⊢
  have hA : ∀ q : Nat, s.heap.size ≤ q → A q := fun q h => by rw [← hAe]; exact Or.inr h
  have hS : va_S A s.heap s.heap [] := va_S.rf
  have hP : va_P G.1 vwCl [(b_o, (oc12 u_th u_sa b_rf b_ro b_im b_ke u_fd b_tp u_td u_fr u_to u_so u_wo u_fa u_bd u_nc b_nl u_co b_op b_ar u_le b_pi b_pa u_pd u_od b_ws b_hw u_la b_se b_re u_bk u_va u_su u_ce u_ho u_wy u_bt u_ps b_pt u_tg u_sn b_ip u_ic b_ah b_be b_me u_wd b_tr b_ld u_st b_wn u_id)), (b_ah, (arJ G 49152 v_ah)), (b_be, (arJ G 49152 v_be))] s.heap := hP
  have hl := lv_entry ([.ref b_o]) (n := 4) (Nat.le_of_ble_eq_true rfl)
  rw [lg_entry_eq]
  generalize (lg_sl ([.ref b_o]) ++ List.replicate (4 - (lg_sl ([.ref b_o])).length) Slot.unset).toArray = ls at hl ⊢
  have hl : lv_has ls 4 [(0, .ref b_o)] := hl
  refine lv_lconst (v := 0) hx hb dX12_allRows_0 (by decide) ?_
  refine lv_lstore_n (lv' := [(1, .long 0), (0, .ref b_o)]) hx hb dX12_allRows_1 rfl hl (by decide) rfl (fun ls hl => ?_)
  refine lv_iconst (v := 0) hx hb dX12_allRows_2 (by decide) ?_
  refine lv_istore_n (lv' := [(3, .int 0), (1, .long 0), (0, .ref b_o)]) hx hb dX12_allRows_3 rfl hl (by decide) rfl (fun ls hl => ?_)
  refine g5_loop (α := (Int32) × (Int64)) (fun (q : (Int32) × (Int64)) (ls : Array Slot) (H : Heap) (locs : List Loc) => match q with | (k4_3, k4_1) => lv_has ls 4 [(1, .long k4_1), (3, .int k4_3), (0, .ref b_o)] ∧ va_P G.1 vwCl [(b_o, (oc12 u_th u_sa b_rf b_ro b_im b_ke u_fd b_tp u_td u_fr u_to u_so u_wo u_fa u_bd u_nc b_nl u_co b_op b_ar u_le b_pi b_pa u_pd u_od b_ws b_hw u_la b_se b_re u_bk u_va u_su u_ce u_ho u_wy u_bt u_ps b_pt u_tg u_sn b_ip u_ic b_ah b_be b_me u_wd b_tr b_ld u_st b_wn u_id)), (b_ah, (arJ G 49152 v_ah)), (b_be, (arJ G 49152 v_be))] H ∧ va_D A [(b_o, (oc12 u_th u_sa b_rf b_ro b_im b_ke u_fd b_tp u_td u_fr u_to u_so u_wo u_fa u_bd u_nc b_nl u_co b_op b_ar u_le b_pi b_pa u_pd u_od b_ws b_hw u_la b_se b_re u_bk u_va u_su u_ce u_ho u_wy u_bt u_ps b_pt u_tg u_sn b_ip u_ic b_ah b_be b_me u_wd b_tr b_ld u_st b_wn u_id)), (b_ah, (arJ G 49152 v_ah)), (b_be, (arJ G 49152 v_be))] ∧ va_S A s.heap H locs ∧ (0 ≤ k4_3.toInt ∧ k4_3.toInt ≤ 64)) (fun (q : (Int32) × (Int64)) => match q with | (k4_3, k4_1) => Int.toNat (64 - k4_3.toInt)) (0, 0) ⟨lv_sub hl [1, 0, 2] rfl, hP, hD, hS, ⟨by decide, by decide⟩⟩ ?_
  rintro ⟨k4_3, k4_1⟩ ls H locs ⟨hl, hP, hD, hS, i_1⟩ ih_4_2
  have hl : lv_has ls 4 [(1, .long k4_1), (3, .int k4_3), (0, .ref b_o)] := hl
  have i_1 : 0 ≤ k4_3.toInt ∧ k4_3.toInt ≤ 64 := i_1
  refine g5_rs [(b_o, (oc12 u_th u_sa b_rf b_ro b_im b_ke u_fd b_tp u_td u_fr u_to u_so u_wo u_fa u_bd u_nc b_nl u_co b_op b_ar u_le b_pi b_pa u_pd u_od b_ws b_hw u_la b_se b_re u_bk u_va u_su u_ce u_ho u_wy u_bt u_ps b_pt u_tg u_sn b_ip u_ic b_ah b_be b_me u_wd b_tr b_ld u_st b_wn u_id)), (b_ah, (arJ G 49152 v_ah)), (b_be, (arJ G 49152 v_be))] hP hD (fun hP hD => ?_)
  refine lv_iload_n hx hb dX12_allRows_4 rfl (lv_at hl 1 rfl) ?_
  refine lv_bipush (v := 64) hx hb dX12_allRows_5 (by decide) ?_
  refine lv_icmp_ge (tgt := 25) hx hb dX12_allRows_7 (by decide) (fun c_3 => ?_) (fun c_3 => ?_)
  ·
    have i_3 : k4_3.toInt ≥ 64 := by have z := g5_ge (a := k4_3.toInt) (b := 64) (by rfl) (by decide) c_3; omega
    refine lv_lload_n hx hb dX12_allRows_25 rfl (lv_at hl 0 rfl) ?_
    exact W.lret (v := k4_1) hx hb hr (fun t ht hW => ⟨⟨k4_1, [(b_o, (oc12 u_th u_sa b_rf b_ro b_im b_ke u_fd b_tp u_td u_fr u_to u_so u_wo u_fa u_bd u_nc b_nl u_co b_op b_ar u_le b_pi b_pa u_pd u_od b_ws b_hw u_la b_se b_re u_bk u_va u_su u_ce u_ho u_wy u_bt u_ps b_pt u_tg u_sn b_ip u_ic b_ah b_be b_me u_wd b_tr b_ld u_st b_wn u_id)), (b_ah, (arJ G 49152 v_ah)), (b_be, (arJ G 49152 v_be))], rfl, ⟨k4_1, rfl, rfl⟩, by rw [ht]; exact hP.sub [0, 1, 2] rfl, hD.sub [0, 1, 2] (by decide) rfl⟩, hS.F ht⟩) hS.2.2 dX12_allRows_26
  ·
    have i_3 : k4_3.toInt < 64 := by have z := g5_geN (a := k4_3.toInt) (b := 64) (by rfl) (by decide) c_3; omega
    refine lv_lload_n hx hb dX12_allRows_10 rfl (lv_at hl 0 rfl) ?_
    refine lv_aload_n hx hb dX12_allRows_11 rfl (lv_at hl 2 rfl) ?_
    refine lv_iconst (v := 0) hx hb dX12_allRows_12 (by decide) ?_
    refine lv_iload_n hx hb dX12_allRows_13 rfl (lv_at hl 1 rfl) ?_
    obtain ⟨hPc, hDc, hFc⟩ := g5_sub3 (wc := [(b_o, (oc12 u_th u_sa b_rf b_ro b_im b_ke u_fd b_tp u_td u_fr u_to u_so u_wo u_fa u_bd u_nc b_nl u_co b_op b_ar u_le b_pi b_pa u_pd u_od b_ws b_hw u_la b_se b_re u_bk u_va u_su u_ce u_ho u_wy u_bt u_ps b_pt u_tg u_sn b_ip u_ic b_ah b_be b_me u_wd b_tr b_ld u_st b_wn u_id)), (b_ah, (arJ G 49152 v_ah)), (b_be, (arJ G 49152 v_be))]) hP hD hS hA [0, 1, 2] (by decide) rfl
    refine va_calll (va_runV (As := [.int 0, .int k4_3]) (rest := [.long k4_1]) ⟨hx, hb, hml, hown, hts⟩ (n_rowsAt l G b_o b_ah b_be b_rf b_ro b_im b_ke b_tp b_nl b_op b_ar b_pi b_pa b_ws b_hw b_se b_re b_pt b_ip b_me b_tr b_ld b_wn H.size u_th u_sa u_fd u_td u_fr u_to u_so u_fa u_bd u_nc u_co u_le u_pd u_od u_la u_bk u_ce u_ho u_wy u_bt u_ps u_tg u_sn u_ic u_wd u_id 0 k4_3 u_wo u_va u_su u_st v_ah v_be h_u_td h_u_fr h_u_to h_u_bd h_u_nc h_u_co h_u_pd h_u_la h_u_bk h_u_ce h_u_ho h_u_wy h_u_bt h_u_ps h_u_ic h_u_id ⟨by decide, by decide⟩ ⟨by omega, by omega⟩) (cwV 2 hts gV_X12_440 rfl rfl rfl hv_X12_rowsAt ⟨Nat.le_of_ble_eq_true rfl, Nat.le_of_ble_eq_true rfl⟩) (g5_preV hPc hK hDc hN hT hS hFc (ci := 12) (q0 := 0) rfl rfl) rfl rfl hl.1 rfl (lv_room (Nat.le_of_ble_eq_true rfl)) dX12_allRows_14 ⟨Nat.le_of_ble_eq_true rfl, Nat.le_of_ble_eq_true rfl⟩) hS (fun q _ h => hFc q h) hFc (fun r u t H1 locs ht hvm hw hB hz1 hk1 hS => ?_)
    obtain ⟨hP1, hD1⟩ := hB
    rw [ht] at hP1
    obtain ⟨z4, y5, rfl⟩ := hw
    obtain ⟨hP, hD⟩ := va_join (wr := []) hP hD [0, 1, 2] [] rfl rfl (by decide) (by decide) hk1 hFc hP1 hD1
    generalize H1 = H at hP hS ⊢
    refine g5_rs [(b_o, (oc12 u_th u_sa b_rf b_ro b_im b_ke u_fd b_tp u_td u_fr u_to u_so u_wo u_fa u_bd u_nc b_nl u_co b_op b_ar u_le b_pi b_pa u_pd u_od b_ws b_hw u_la b_se b_re u_bk u_va u_su u_ce u_ho u_wy u_bt u_ps b_pt u_tg u_sn b_ip u_ic b_ah b_be b_me u_wd b_tr b_ld u_st b_wn u_id)), (b_ah, (arJ G 49152 v_ah)), (b_be, (arJ G 49152 v_be))] hP hD (fun hP hD => ?_)
    refine g5_tl (v := z4) y5 ?_
    refine lv_ladd hx hb dX12_allRows_17 ?_
    refine lv_lstore_n (lv' := [(1, .long (k4_1 + z4)), (3, .int k4_3), (0, .ref b_o)]) hx hb dX12_allRows_18 rfl hl (by decide) rfl (fun ls hl => ?_)
    refine lv_iinc (v := (k4_3 + 1)) (lv' := [(3, .int (k4_3 + 1)), (1, .long (k4_1 + z4)), (0, .ref b_o)]) hx hb dX12_allRows_19 hl (k := 1) rfl rfl (by decide) rfl (fun ls hl => ?_)
    have t_6 : (k4_3 + 1).toInt = k4_3.toInt + 1 := g5_iadd (a := k4_3.toInt) (b := 1) rfl (by decide) (by omega) (by omega)
    refine lv_goto (tgt := 4) hx hb dX12_allRows_22 (by decide) ?_
    exact ih_4_2 ((k4_3 + 1), (k4_1 + z4)) ls H locs (show Int.toNat (64 - (k4_3 + 1).toInt) < Int.toNat (64 - k4_3.toInt) from g_up (show k4_3.toInt < (k4_3 + 1).toInt by omega) (show k4_3.toInt < 64 by omega)) ⟨lv_sub hl [1, 0, 2] rfl, hP, hD, hS, ⟨by omega, by omega⟩⟩
theorem dgX12_findMeets_0 : ∀ r ∈ ([(0, (.aload_n 0, 1)), (1, (.iconst 0, 1)), (2, (.putfield 422, 3)), (5, (.iconst 0, 1)), (6, (.istore 5, 2)), (8, (.iconst 0, 1)), (9, (.istore 6, 2)), (11, (.iload 6, 2)), (13, (.sipush 1536, 3)), (16, (.if_icmp .ge 34, 3)), (19, (.aload_n 0, 1)), (20, (.getfield 95, 3)), (23, (.iload 6, 2)), (25, (.aload_n 0, 1)), (26, (.iload 6, 2)), (28, (.bipush 64, 2)), (30, (.irem, 1)), (31, (.invokevirtual 160, 3)), (34, (.ifCond .eq 8, 3)), (37, (.bipush 64, 2)), (39, (.goto 4, 3)), (42, (.iconst 0, 1)), (43, (.iastore, 1)), (44, (.iinc 6 1, 3)), (47, (.goto (-36), 3)), (50, (.iconst 0, 1)), (51, (.istore 6, 2)), (53, (.iload 6, 2)), (55, (.aload_n 0, 1)), (56, (.getfield 13, 3)), (59, (.iconst 5, 1)), (60, (.iaload, 1)), (61, (.if_icmp .ge 162, 3)), (64, (.sipush 230, 3)), (67, (.iconst 4, 1)), (68, (.iload 6, 2)), (70, (.imul, 1)), (71, (.iadd, 1)), (72, (.istore 7, 2)), (74, (.iload_n 1, 1))] : List (Nat × (Instr × Nat))), decode cX12_findMeets r.1 = .ok r.2 := by decide +kernel
theorem dX12_findMeets_0 : decode cX12_findMeets 0 = .ok (.aload_n 0, 1) := dgX12_findMeets_0 (0, (.aload_n 0, 1)) (List.mem_of_getElem? (i := 0) rfl)
theorem dX12_findMeets_1 : decode cX12_findMeets 1 = .ok (.iconst 0, 1) := dgX12_findMeets_0 (1, (.iconst 0, 1)) (List.mem_of_getElem? (i := 1) rfl)
theorem dX12_findMeets_2 : decode cX12_findMeets 2 = .ok (.putfield 422, 3) := dgX12_findMeets_0 (2, (.putfield 422, 3)) (List.mem_of_getElem? (i := 2) rfl)
theorem dX12_findMeets_5 : decode cX12_findMeets 5 = .ok (.iconst 0, 1) := dgX12_findMeets_0 (5, (.iconst 0, 1)) (List.mem_of_getElem? (i := 3) rfl)
theorem dX12_findMeets_6 : decode cX12_findMeets 6 = .ok (.istore 5, 2) := dgX12_findMeets_0 (6, (.istore 5, 2)) (List.mem_of_getElem? (i := 4) rfl)
theorem dX12_findMeets_8 : decode cX12_findMeets 8 = .ok (.iconst 0, 1) := dgX12_findMeets_0 (8, (.iconst 0, 1)) (List.mem_of_getElem? (i := 5) rfl)
theorem dX12_findMeets_9 : decode cX12_findMeets 9 = .ok (.istore 6, 2) := dgX12_findMeets_0 (9, (.istore 6, 2)) (List.mem_of_getElem? (i := 6) rfl)
theorem dX12_findMeets_11 : decode cX12_findMeets 11 = .ok (.iload 6, 2) := dgX12_findMeets_0 (11, (.iload 6, 2)) (List.mem_of_getElem? (i := 7) rfl)
theorem dX12_findMeets_13 : decode cX12_findMeets 13 = .ok (.sipush 1536, 3) := dgX12_findMeets_0 (13, (.sipush 1536, 3)) (List.mem_of_getElem? (i := 8) rfl)
theorem dX12_findMeets_16 : decode cX12_findMeets 16 = .ok (.if_icmp .ge 34, 3) := dgX12_findMeets_0 (16, (.if_icmp .ge 34, 3)) (List.mem_of_getElem? (i := 9) rfl)
theorem dX12_findMeets_19 : decode cX12_findMeets 19 = .ok (.aload_n 0, 1) := dgX12_findMeets_0 (19, (.aload_n 0, 1)) (List.mem_of_getElem? (i := 10) rfl)
theorem dX12_findMeets_20 : decode cX12_findMeets 20 = .ok (.getfield 95, 3) := dgX12_findMeets_0 (20, (.getfield 95, 3)) (List.mem_of_getElem? (i := 11) rfl)
theorem dX12_findMeets_23 : decode cX12_findMeets 23 = .ok (.iload 6, 2) := dgX12_findMeets_0 (23, (.iload 6, 2)) (List.mem_of_getElem? (i := 12) rfl)
theorem dX12_findMeets_25 : decode cX12_findMeets 25 = .ok (.aload_n 0, 1) := dgX12_findMeets_0 (25, (.aload_n 0, 1)) (List.mem_of_getElem? (i := 13) rfl)
theorem dX12_findMeets_26 : decode cX12_findMeets 26 = .ok (.iload 6, 2) := dgX12_findMeets_0 (26, (.iload 6, 2)) (List.mem_of_getElem? (i := 14) rfl)
theorem dX12_findMeets_28 : decode cX12_findMeets 28 = .ok (.bipush 64, 2) := dgX12_findMeets_0 (28, (.bipush 64, 2)) (List.mem_of_getElem? (i := 15) rfl)
theorem dX12_findMeets_30 : decode cX12_findMeets 30 = .ok (.irem, 1) := dgX12_findMeets_0 (30, (.irem, 1)) (List.mem_of_getElem? (i := 16) rfl)
theorem dX12_findMeets_31 : decode cX12_findMeets 31 = .ok (.invokevirtual 160, 3) := dgX12_findMeets_0 (31, (.invokevirtual 160, 3)) (List.mem_of_getElem? (i := 17) rfl)
theorem dX12_findMeets_34 : decode cX12_findMeets 34 = .ok (.ifCond .eq 8, 3) := dgX12_findMeets_0 (34, (.ifCond .eq 8, 3)) (List.mem_of_getElem? (i := 18) rfl)
theorem dX12_findMeets_37 : decode cX12_findMeets 37 = .ok (.bipush 64, 2) := dgX12_findMeets_0 (37, (.bipush 64, 2)) (List.mem_of_getElem? (i := 19) rfl)
theorem dX12_findMeets_39 : decode cX12_findMeets 39 = .ok (.goto 4, 3) := dgX12_findMeets_0 (39, (.goto 4, 3)) (List.mem_of_getElem? (i := 20) rfl)
theorem dX12_findMeets_42 : decode cX12_findMeets 42 = .ok (.iconst 0, 1) := dgX12_findMeets_0 (42, (.iconst 0, 1)) (List.mem_of_getElem? (i := 21) rfl)
theorem dX12_findMeets_43 : decode cX12_findMeets 43 = .ok (.iastore, 1) := dgX12_findMeets_0 (43, (.iastore, 1)) (List.mem_of_getElem? (i := 22) rfl)
theorem dX12_findMeets_44 : decode cX12_findMeets 44 = .ok (.iinc 6 1, 3) := dgX12_findMeets_0 (44, (.iinc 6 1, 3)) (List.mem_of_getElem? (i := 23) rfl)
theorem dX12_findMeets_47 : decode cX12_findMeets 47 = .ok (.goto (-36), 3) := dgX12_findMeets_0 (47, (.goto (-36), 3)) (List.mem_of_getElem? (i := 24) rfl)
theorem dX12_findMeets_50 : decode cX12_findMeets 50 = .ok (.iconst 0, 1) := dgX12_findMeets_0 (50, (.iconst 0, 1)) (List.mem_of_getElem? (i := 25) rfl)
theorem dX12_findMeets_51 : decode cX12_findMeets 51 = .ok (.istore 6, 2) := dgX12_findMeets_0 (51, (.istore 6, 2)) (List.mem_of_getElem? (i := 26) rfl)
theorem dX12_findMeets_53 : decode cX12_findMeets 53 = .ok (.iload 6, 2) := dgX12_findMeets_0 (53, (.iload 6, 2)) (List.mem_of_getElem? (i := 27) rfl)
theorem dX12_findMeets_55 : decode cX12_findMeets 55 = .ok (.aload_n 0, 1) := dgX12_findMeets_0 (55, (.aload_n 0, 1)) (List.mem_of_getElem? (i := 28) rfl)
theorem dX12_findMeets_56 : decode cX12_findMeets 56 = .ok (.getfield 13, 3) := dgX12_findMeets_0 (56, (.getfield 13, 3)) (List.mem_of_getElem? (i := 29) rfl)
theorem dX12_findMeets_59 : decode cX12_findMeets 59 = .ok (.iconst 5, 1) := dgX12_findMeets_0 (59, (.iconst 5, 1)) (List.mem_of_getElem? (i := 30) rfl)
theorem dX12_findMeets_60 : decode cX12_findMeets 60 = .ok (.iaload, 1) := dgX12_findMeets_0 (60, (.iaload, 1)) (List.mem_of_getElem? (i := 31) rfl)
theorem dX12_findMeets_61 : decode cX12_findMeets 61 = .ok (.if_icmp .ge 162, 3) := dgX12_findMeets_0 (61, (.if_icmp .ge 162, 3)) (List.mem_of_getElem? (i := 32) rfl)
theorem dX12_findMeets_64 : decode cX12_findMeets 64 = .ok (.sipush 230, 3) := dgX12_findMeets_0 (64, (.sipush 230, 3)) (List.mem_of_getElem? (i := 33) rfl)
theorem dX12_findMeets_67 : decode cX12_findMeets 67 = .ok (.iconst 4, 1) := dgX12_findMeets_0 (67, (.iconst 4, 1)) (List.mem_of_getElem? (i := 34) rfl)
theorem dX12_findMeets_68 : decode cX12_findMeets 68 = .ok (.iload 6, 2) := dgX12_findMeets_0 (68, (.iload 6, 2)) (List.mem_of_getElem? (i := 35) rfl)
theorem dX12_findMeets_70 : decode cX12_findMeets 70 = .ok (.imul, 1) := dgX12_findMeets_0 (70, (.imul, 1)) (List.mem_of_getElem? (i := 36) rfl)
theorem dX12_findMeets_71 : decode cX12_findMeets 71 = .ok (.iadd, 1) := dgX12_findMeets_0 (71, (.iadd, 1)) (List.mem_of_getElem? (i := 37) rfl)
theorem dX12_findMeets_72 : decode cX12_findMeets 72 = .ok (.istore 7, 2) := dgX12_findMeets_0 (72, (.istore 7, 2)) (List.mem_of_getElem? (i := 38) rfl)
theorem dX12_findMeets_74 : decode cX12_findMeets 74 = .ok (.iload_n 1, 1) := dgX12_findMeets_0 (74, (.iload_n 1, 1)) (List.mem_of_getElem? (i := 39) rfl)
theorem dgX12_findMeets_1 : ∀ r ∈ ([(75, (.iload 6, 2)), (77, (.invokestatic 387, 3)), (80, (.ifCond .eq 137, 3)), (83, (.aload_n 0, 1)), (84, (.getfield 13, 3)), (87, (.iload 7, 2)), (89, (.iconst 3, 1)), (90, (.iadd, 1)), (91, (.iaload, 1)), (92, (.iconst 1, 1)), (93, (.if_icmp .ne 7, 3)), (96, (.iconst 1, 1)), (97, (.goto 4, 3)), (100, (.iconst 0, 1)), (101, (.istore 8, 2)), (103, (.aload_n 0, 1)), (104, (.aload_n 0, 1)), (105, (.getfield 13, 3)), (108, (.iload 7, 2)), (110, (.iaload, 1)), (111, (.aload_n 0, 1)), (112, (.getfield 13, 3)), (115, (.iload 7, 2)), (117, (.iconst 1, 1)), (118, (.iadd, 1)), (119, (.iaload, 1)), (120, (.aload_n 0, 1)), (121, (.getfield 13, 3)), (124, (.iload 7, 2)), (126, (.iconst 2, 1)), (127, (.iadd, 1)), (128, (.iaload, 1)), (129, (.iconst 0, 1)), (130, (.invokevirtual 401, 3)), (133, (.iconst 0, 1)), (134, (.istore 9, 2)), (136, (.iload 9, 2)), (138, (.aload_n 0, 1)), (139, (.getfield 358, 3)), (142, (.if_icmp .ge 38, 3))] : List (Nat × (Instr × Nat))), decode cX12_findMeets r.1 = .ok r.2 := by decide +kernel
theorem dX12_findMeets_75 : decode cX12_findMeets 75 = .ok (.iload 6, 2) := dgX12_findMeets_1 (75, (.iload 6, 2)) (List.mem_of_getElem? (i := 0) rfl)
theorem dX12_findMeets_77 : decode cX12_findMeets 77 = .ok (.invokestatic 387, 3) := dgX12_findMeets_1 (77, (.invokestatic 387, 3)) (List.mem_of_getElem? (i := 1) rfl)
theorem dX12_findMeets_80 : decode cX12_findMeets 80 = .ok (.ifCond .eq 137, 3) := dgX12_findMeets_1 (80, (.ifCond .eq 137, 3)) (List.mem_of_getElem? (i := 2) rfl)
theorem dX12_findMeets_83 : decode cX12_findMeets 83 = .ok (.aload_n 0, 1) := dgX12_findMeets_1 (83, (.aload_n 0, 1)) (List.mem_of_getElem? (i := 3) rfl)
theorem dX12_findMeets_84 : decode cX12_findMeets 84 = .ok (.getfield 13, 3) := dgX12_findMeets_1 (84, (.getfield 13, 3)) (List.mem_of_getElem? (i := 4) rfl)
theorem dX12_findMeets_87 : decode cX12_findMeets 87 = .ok (.iload 7, 2) := dgX12_findMeets_1 (87, (.iload 7, 2)) (List.mem_of_getElem? (i := 5) rfl)
theorem dX12_findMeets_89 : decode cX12_findMeets 89 = .ok (.iconst 3, 1) := dgX12_findMeets_1 (89, (.iconst 3, 1)) (List.mem_of_getElem? (i := 6) rfl)
theorem dX12_findMeets_90 : decode cX12_findMeets 90 = .ok (.iadd, 1) := dgX12_findMeets_1 (90, (.iadd, 1)) (List.mem_of_getElem? (i := 7) rfl)
theorem dX12_findMeets_91 : decode cX12_findMeets 91 = .ok (.iaload, 1) := dgX12_findMeets_1 (91, (.iaload, 1)) (List.mem_of_getElem? (i := 8) rfl)
theorem dX12_findMeets_92 : decode cX12_findMeets 92 = .ok (.iconst 1, 1) := dgX12_findMeets_1 (92, (.iconst 1, 1)) (List.mem_of_getElem? (i := 9) rfl)
theorem dX12_findMeets_93 : decode cX12_findMeets 93 = .ok (.if_icmp .ne 7, 3) := dgX12_findMeets_1 (93, (.if_icmp .ne 7, 3)) (List.mem_of_getElem? (i := 10) rfl)
theorem dX12_findMeets_96 : decode cX12_findMeets 96 = .ok (.iconst 1, 1) := dgX12_findMeets_1 (96, (.iconst 1, 1)) (List.mem_of_getElem? (i := 11) rfl)
theorem dX12_findMeets_97 : decode cX12_findMeets 97 = .ok (.goto 4, 3) := dgX12_findMeets_1 (97, (.goto 4, 3)) (List.mem_of_getElem? (i := 12) rfl)
theorem dX12_findMeets_100 : decode cX12_findMeets 100 = .ok (.iconst 0, 1) := dgX12_findMeets_1 (100, (.iconst 0, 1)) (List.mem_of_getElem? (i := 13) rfl)
theorem dX12_findMeets_101 : decode cX12_findMeets 101 = .ok (.istore 8, 2) := dgX12_findMeets_1 (101, (.istore 8, 2)) (List.mem_of_getElem? (i := 14) rfl)
theorem dX12_findMeets_103 : decode cX12_findMeets 103 = .ok (.aload_n 0, 1) := dgX12_findMeets_1 (103, (.aload_n 0, 1)) (List.mem_of_getElem? (i := 15) rfl)
theorem dX12_findMeets_104 : decode cX12_findMeets 104 = .ok (.aload_n 0, 1) := dgX12_findMeets_1 (104, (.aload_n 0, 1)) (List.mem_of_getElem? (i := 16) rfl)
theorem dX12_findMeets_105 : decode cX12_findMeets 105 = .ok (.getfield 13, 3) := dgX12_findMeets_1 (105, (.getfield 13, 3)) (List.mem_of_getElem? (i := 17) rfl)
theorem dX12_findMeets_108 : decode cX12_findMeets 108 = .ok (.iload 7, 2) := dgX12_findMeets_1 (108, (.iload 7, 2)) (List.mem_of_getElem? (i := 18) rfl)
theorem dX12_findMeets_110 : decode cX12_findMeets 110 = .ok (.iaload, 1) := dgX12_findMeets_1 (110, (.iaload, 1)) (List.mem_of_getElem? (i := 19) rfl)
theorem dX12_findMeets_111 : decode cX12_findMeets 111 = .ok (.aload_n 0, 1) := dgX12_findMeets_1 (111, (.aload_n 0, 1)) (List.mem_of_getElem? (i := 20) rfl)
theorem dX12_findMeets_112 : decode cX12_findMeets 112 = .ok (.getfield 13, 3) := dgX12_findMeets_1 (112, (.getfield 13, 3)) (List.mem_of_getElem? (i := 21) rfl)
theorem dX12_findMeets_115 : decode cX12_findMeets 115 = .ok (.iload 7, 2) := dgX12_findMeets_1 (115, (.iload 7, 2)) (List.mem_of_getElem? (i := 22) rfl)
theorem dX12_findMeets_117 : decode cX12_findMeets 117 = .ok (.iconst 1, 1) := dgX12_findMeets_1 (117, (.iconst 1, 1)) (List.mem_of_getElem? (i := 23) rfl)
theorem dX12_findMeets_118 : decode cX12_findMeets 118 = .ok (.iadd, 1) := dgX12_findMeets_1 (118, (.iadd, 1)) (List.mem_of_getElem? (i := 24) rfl)
theorem dX12_findMeets_119 : decode cX12_findMeets 119 = .ok (.iaload, 1) := dgX12_findMeets_1 (119, (.iaload, 1)) (List.mem_of_getElem? (i := 25) rfl)
theorem dX12_findMeets_120 : decode cX12_findMeets 120 = .ok (.aload_n 0, 1) := dgX12_findMeets_1 (120, (.aload_n 0, 1)) (List.mem_of_getElem? (i := 26) rfl)
theorem dX12_findMeets_121 : decode cX12_findMeets 121 = .ok (.getfield 13, 3) := dgX12_findMeets_1 (121, (.getfield 13, 3)) (List.mem_of_getElem? (i := 27) rfl)
theorem dX12_findMeets_124 : decode cX12_findMeets 124 = .ok (.iload 7, 2) := dgX12_findMeets_1 (124, (.iload 7, 2)) (List.mem_of_getElem? (i := 28) rfl)
theorem dX12_findMeets_126 : decode cX12_findMeets 126 = .ok (.iconst 2, 1) := dgX12_findMeets_1 (126, (.iconst 2, 1)) (List.mem_of_getElem? (i := 29) rfl)
theorem dX12_findMeets_127 : decode cX12_findMeets 127 = .ok (.iadd, 1) := dgX12_findMeets_1 (127, (.iadd, 1)) (List.mem_of_getElem? (i := 30) rfl)
theorem dX12_findMeets_128 : decode cX12_findMeets 128 = .ok (.iaload, 1) := dgX12_findMeets_1 (128, (.iaload, 1)) (List.mem_of_getElem? (i := 31) rfl)
theorem dX12_findMeets_129 : decode cX12_findMeets 129 = .ok (.iconst 0, 1) := dgX12_findMeets_1 (129, (.iconst 0, 1)) (List.mem_of_getElem? (i := 32) rfl)
theorem dX12_findMeets_130 : decode cX12_findMeets 130 = .ok (.invokevirtual 401, 3) := dgX12_findMeets_1 (130, (.invokevirtual 401, 3)) (List.mem_of_getElem? (i := 33) rfl)
theorem dX12_findMeets_133 : decode cX12_findMeets 133 = .ok (.iconst 0, 1) := dgX12_findMeets_1 (133, (.iconst 0, 1)) (List.mem_of_getElem? (i := 34) rfl)
theorem dX12_findMeets_134 : decode cX12_findMeets 134 = .ok (.istore 9, 2) := dgX12_findMeets_1 (134, (.istore 9, 2)) (List.mem_of_getElem? (i := 35) rfl)
theorem dX12_findMeets_136 : decode cX12_findMeets 136 = .ok (.iload 9, 2) := dgX12_findMeets_1 (136, (.iload 9, 2)) (List.mem_of_getElem? (i := 36) rfl)
theorem dX12_findMeets_138 : decode cX12_findMeets 138 = .ok (.aload_n 0, 1) := dgX12_findMeets_1 (138, (.aload_n 0, 1)) (List.mem_of_getElem? (i := 37) rfl)
theorem dX12_findMeets_139 : decode cX12_findMeets 139 = .ok (.getfield 358, 3) := dgX12_findMeets_1 (139, (.getfield 358, 3)) (List.mem_of_getElem? (i := 38) rfl)
theorem dX12_findMeets_142 : decode cX12_findMeets 142 = .ok (.if_icmp .ge 38, 3) := dgX12_findMeets_1 (142, (.if_icmp .ge 38, 3)) (List.mem_of_getElem? (i := 39) rfl)
theorem dgX12_findMeets_2 : ∀ r ∈ ([(145, (.aload_n 0, 1)), (146, (.getfield 95, 3)), (149, (.aload_n 0, 1)), (150, (.getfield 82, 3)), (153, (.iload 9, 2)), (155, (.iaload, 1)), (156, (.dup2, 1)), (157, (.iaload, 1)), (158, (.iload 8, 2)), (160, (.ifCond .eq 10, 3)), (163, (.iconst 1, 1)), (164, (.iload 5, 2)), (166, (.ishl, 1)), (167, (.goto 5, 3)), (170, (.bipush 64, 2)), (172, (.ior, 1)), (173, (.iastore, 1)), (174, (.iinc 9 1, 3)), (177, (.goto (-41), 3)), (180, (.aload_n 0, 1)), (181, (.dup, 1)), (182, (.getfield 422, 3)), (185, (.iload 8, 2)), (187, (.ifCond .eq 10, 3)), (190, (.iconst 1, 1)), (191, (.iload 5, 2)), (193, (.ishl, 1)), (194, (.goto 4, 3)), (197, (.iconst 0, 1)), (198, (.ior, 1)), (199, (.putfield 422, 3)), (202, (.iload 5, 2)), (204, (.iload 8, 2)), (206, (.ifCond .eq 7, 3)), (209, (.iconst 1, 1)), (210, (.goto 4, 3)), (213, (.iconst 0, 1)), (214, (.iadd, 1)), (215, (.istore 5, 2)), (217, (.iinc 6 1, 3))] : List (Nat × (Instr × Nat))), decode cX12_findMeets r.1 = .ok r.2 := by decide +kernel
theorem dX12_findMeets_145 : decode cX12_findMeets 145 = .ok (.aload_n 0, 1) := dgX12_findMeets_2 (145, (.aload_n 0, 1)) (List.mem_of_getElem? (i := 0) rfl)
theorem dX12_findMeets_146 : decode cX12_findMeets 146 = .ok (.getfield 95, 3) := dgX12_findMeets_2 (146, (.getfield 95, 3)) (List.mem_of_getElem? (i := 1) rfl)
theorem dX12_findMeets_149 : decode cX12_findMeets 149 = .ok (.aload_n 0, 1) := dgX12_findMeets_2 (149, (.aload_n 0, 1)) (List.mem_of_getElem? (i := 2) rfl)
theorem dX12_findMeets_150 : decode cX12_findMeets 150 = .ok (.getfield 82, 3) := dgX12_findMeets_2 (150, (.getfield 82, 3)) (List.mem_of_getElem? (i := 3) rfl)
theorem dX12_findMeets_153 : decode cX12_findMeets 153 = .ok (.iload 9, 2) := dgX12_findMeets_2 (153, (.iload 9, 2)) (List.mem_of_getElem? (i := 4) rfl)
theorem dX12_findMeets_155 : decode cX12_findMeets 155 = .ok (.iaload, 1) := dgX12_findMeets_2 (155, (.iaload, 1)) (List.mem_of_getElem? (i := 5) rfl)
theorem dX12_findMeets_156 : decode cX12_findMeets 156 = .ok (.dup2, 1) := dgX12_findMeets_2 (156, (.dup2, 1)) (List.mem_of_getElem? (i := 6) rfl)
theorem dX12_findMeets_157 : decode cX12_findMeets 157 = .ok (.iaload, 1) := dgX12_findMeets_2 (157, (.iaload, 1)) (List.mem_of_getElem? (i := 7) rfl)
theorem dX12_findMeets_158 : decode cX12_findMeets 158 = .ok (.iload 8, 2) := dgX12_findMeets_2 (158, (.iload 8, 2)) (List.mem_of_getElem? (i := 8) rfl)
theorem dX12_findMeets_160 : decode cX12_findMeets 160 = .ok (.ifCond .eq 10, 3) := dgX12_findMeets_2 (160, (.ifCond .eq 10, 3)) (List.mem_of_getElem? (i := 9) rfl)
theorem dX12_findMeets_163 : decode cX12_findMeets 163 = .ok (.iconst 1, 1) := dgX12_findMeets_2 (163, (.iconst 1, 1)) (List.mem_of_getElem? (i := 10) rfl)
theorem dX12_findMeets_164 : decode cX12_findMeets 164 = .ok (.iload 5, 2) := dgX12_findMeets_2 (164, (.iload 5, 2)) (List.mem_of_getElem? (i := 11) rfl)
theorem dX12_findMeets_166 : decode cX12_findMeets 166 = .ok (.ishl, 1) := dgX12_findMeets_2 (166, (.ishl, 1)) (List.mem_of_getElem? (i := 12) rfl)
theorem dX12_findMeets_167 : decode cX12_findMeets 167 = .ok (.goto 5, 3) := dgX12_findMeets_2 (167, (.goto 5, 3)) (List.mem_of_getElem? (i := 13) rfl)
theorem dX12_findMeets_170 : decode cX12_findMeets 170 = .ok (.bipush 64, 2) := dgX12_findMeets_2 (170, (.bipush 64, 2)) (List.mem_of_getElem? (i := 14) rfl)
theorem dX12_findMeets_172 : decode cX12_findMeets 172 = .ok (.ior, 1) := dgX12_findMeets_2 (172, (.ior, 1)) (List.mem_of_getElem? (i := 15) rfl)
theorem dX12_findMeets_173 : decode cX12_findMeets 173 = .ok (.iastore, 1) := dgX12_findMeets_2 (173, (.iastore, 1)) (List.mem_of_getElem? (i := 16) rfl)
theorem dX12_findMeets_174 : decode cX12_findMeets 174 = .ok (.iinc 9 1, 3) := dgX12_findMeets_2 (174, (.iinc 9 1, 3)) (List.mem_of_getElem? (i := 17) rfl)
theorem dX12_findMeets_177 : decode cX12_findMeets 177 = .ok (.goto (-41), 3) := dgX12_findMeets_2 (177, (.goto (-41), 3)) (List.mem_of_getElem? (i := 18) rfl)
theorem dX12_findMeets_180 : decode cX12_findMeets 180 = .ok (.aload_n 0, 1) := dgX12_findMeets_2 (180, (.aload_n 0, 1)) (List.mem_of_getElem? (i := 19) rfl)
theorem dX12_findMeets_181 : decode cX12_findMeets 181 = .ok (.dup, 1) := dgX12_findMeets_2 (181, (.dup, 1)) (List.mem_of_getElem? (i := 20) rfl)
theorem dX12_findMeets_182 : decode cX12_findMeets 182 = .ok (.getfield 422, 3) := dgX12_findMeets_2 (182, (.getfield 422, 3)) (List.mem_of_getElem? (i := 21) rfl)
theorem dX12_findMeets_185 : decode cX12_findMeets 185 = .ok (.iload 8, 2) := dgX12_findMeets_2 (185, (.iload 8, 2)) (List.mem_of_getElem? (i := 22) rfl)
theorem dX12_findMeets_187 : decode cX12_findMeets 187 = .ok (.ifCond .eq 10, 3) := dgX12_findMeets_2 (187, (.ifCond .eq 10, 3)) (List.mem_of_getElem? (i := 23) rfl)
theorem dX12_findMeets_190 : decode cX12_findMeets 190 = .ok (.iconst 1, 1) := dgX12_findMeets_2 (190, (.iconst 1, 1)) (List.mem_of_getElem? (i := 24) rfl)
theorem dX12_findMeets_191 : decode cX12_findMeets 191 = .ok (.iload 5, 2) := dgX12_findMeets_2 (191, (.iload 5, 2)) (List.mem_of_getElem? (i := 25) rfl)
theorem dX12_findMeets_193 : decode cX12_findMeets 193 = .ok (.ishl, 1) := dgX12_findMeets_2 (193, (.ishl, 1)) (List.mem_of_getElem? (i := 26) rfl)
theorem dX12_findMeets_194 : decode cX12_findMeets 194 = .ok (.goto 4, 3) := dgX12_findMeets_2 (194, (.goto 4, 3)) (List.mem_of_getElem? (i := 27) rfl)
theorem dX12_findMeets_197 : decode cX12_findMeets 197 = .ok (.iconst 0, 1) := dgX12_findMeets_2 (197, (.iconst 0, 1)) (List.mem_of_getElem? (i := 28) rfl)
theorem dX12_findMeets_198 : decode cX12_findMeets 198 = .ok (.ior, 1) := dgX12_findMeets_2 (198, (.ior, 1)) (List.mem_of_getElem? (i := 29) rfl)
theorem dX12_findMeets_199 : decode cX12_findMeets 199 = .ok (.putfield 422, 3) := dgX12_findMeets_2 (199, (.putfield 422, 3)) (List.mem_of_getElem? (i := 30) rfl)
theorem dX12_findMeets_202 : decode cX12_findMeets 202 = .ok (.iload 5, 2) := dgX12_findMeets_2 (202, (.iload 5, 2)) (List.mem_of_getElem? (i := 31) rfl)
theorem dX12_findMeets_204 : decode cX12_findMeets 204 = .ok (.iload 8, 2) := dgX12_findMeets_2 (204, (.iload 8, 2)) (List.mem_of_getElem? (i := 32) rfl)
theorem dX12_findMeets_206 : decode cX12_findMeets 206 = .ok (.ifCond .eq 7, 3) := dgX12_findMeets_2 (206, (.ifCond .eq 7, 3)) (List.mem_of_getElem? (i := 33) rfl)
theorem dX12_findMeets_209 : decode cX12_findMeets 209 = .ok (.iconst 1, 1) := dgX12_findMeets_2 (209, (.iconst 1, 1)) (List.mem_of_getElem? (i := 34) rfl)
theorem dX12_findMeets_210 : decode cX12_findMeets 210 = .ok (.goto 4, 3) := dgX12_findMeets_2 (210, (.goto 4, 3)) (List.mem_of_getElem? (i := 35) rfl)
theorem dX12_findMeets_213 : decode cX12_findMeets 213 = .ok (.iconst 0, 1) := dgX12_findMeets_2 (213, (.iconst 0, 1)) (List.mem_of_getElem? (i := 36) rfl)
theorem dX12_findMeets_214 : decode cX12_findMeets 214 = .ok (.iadd, 1) := dgX12_findMeets_2 (214, (.iadd, 1)) (List.mem_of_getElem? (i := 37) rfl)
theorem dX12_findMeets_215 : decode cX12_findMeets 215 = .ok (.istore 5, 2) := dgX12_findMeets_2 (215, (.istore 5, 2)) (List.mem_of_getElem? (i := 38) rfl)
theorem dX12_findMeets_217 : decode cX12_findMeets 217 = .ok (.iinc 6 1, 3) := dgX12_findMeets_2 (217, (.iinc 6 1, 3)) (List.mem_of_getElem? (i := 39) rfl)
theorem dgX12_findMeets_3 : ∀ r ∈ ([(220, (.goto (-167), 3)), (223, (.iload_n 3, 1)), (224, (.iconst (-1), 1)), (225, (.if_icmp .eq 47, 3)), (228, (.aload_n 0, 1)), (229, (.iload_n 2, 1)), (230, (.iload_n 3, 1)), (231, (.iload 4, 2)), (233, (.iconst 0, 1)), (234, (.invokevirtual 401, 3)), (237, (.iconst 0, 1)), (238, (.istore 6, 2)), (240, (.iload 6, 2)), (242, (.aload_n 0, 1)), (243, (.getfield 358, 3)), (246, (.if_icmp .ge 26, 3)), (249, (.aload_n 0, 1)), (250, (.getfield 95, 3)), (253, (.aload_n 0, 1)), (254, (.getfield 82, 3)), (257, (.iload 6, 2)), (259, (.iaload, 1)), (260, (.dup2, 1)), (261, (.iaload, 1)), (262, (.bipush 64, 2)), (264, (.ior, 1)), (265, (.iastore, 1)), (266, (.iinc 6 1, 3)), (269, (.goto (-29), 3)), (272, (.return_, 1))] : List (Nat × (Instr × Nat))), decode cX12_findMeets r.1 = .ok r.2 := by decide +kernel
theorem dX12_findMeets_220 : decode cX12_findMeets 220 = .ok (.goto (-167), 3) := dgX12_findMeets_3 (220, (.goto (-167), 3)) (List.mem_of_getElem? (i := 0) rfl)
theorem dX12_findMeets_223 : decode cX12_findMeets 223 = .ok (.iload_n 3, 1) := dgX12_findMeets_3 (223, (.iload_n 3, 1)) (List.mem_of_getElem? (i := 1) rfl)
theorem dX12_findMeets_224 : decode cX12_findMeets 224 = .ok (.iconst (-1), 1) := dgX12_findMeets_3 (224, (.iconst (-1), 1)) (List.mem_of_getElem? (i := 2) rfl)
theorem dX12_findMeets_225 : decode cX12_findMeets 225 = .ok (.if_icmp .eq 47, 3) := dgX12_findMeets_3 (225, (.if_icmp .eq 47, 3)) (List.mem_of_getElem? (i := 3) rfl)
theorem dX12_findMeets_228 : decode cX12_findMeets 228 = .ok (.aload_n 0, 1) := dgX12_findMeets_3 (228, (.aload_n 0, 1)) (List.mem_of_getElem? (i := 4) rfl)
theorem dX12_findMeets_229 : decode cX12_findMeets 229 = .ok (.iload_n 2, 1) := dgX12_findMeets_3 (229, (.iload_n 2, 1)) (List.mem_of_getElem? (i := 5) rfl)
theorem dX12_findMeets_230 : decode cX12_findMeets 230 = .ok (.iload_n 3, 1) := dgX12_findMeets_3 (230, (.iload_n 3, 1)) (List.mem_of_getElem? (i := 6) rfl)
theorem dX12_findMeets_231 : decode cX12_findMeets 231 = .ok (.iload 4, 2) := dgX12_findMeets_3 (231, (.iload 4, 2)) (List.mem_of_getElem? (i := 7) rfl)
theorem dX12_findMeets_233 : decode cX12_findMeets 233 = .ok (.iconst 0, 1) := dgX12_findMeets_3 (233, (.iconst 0, 1)) (List.mem_of_getElem? (i := 8) rfl)
theorem dX12_findMeets_234 : decode cX12_findMeets 234 = .ok (.invokevirtual 401, 3) := dgX12_findMeets_3 (234, (.invokevirtual 401, 3)) (List.mem_of_getElem? (i := 9) rfl)
theorem dX12_findMeets_237 : decode cX12_findMeets 237 = .ok (.iconst 0, 1) := dgX12_findMeets_3 (237, (.iconst 0, 1)) (List.mem_of_getElem? (i := 10) rfl)
theorem dX12_findMeets_238 : decode cX12_findMeets 238 = .ok (.istore 6, 2) := dgX12_findMeets_3 (238, (.istore 6, 2)) (List.mem_of_getElem? (i := 11) rfl)
theorem dX12_findMeets_240 : decode cX12_findMeets 240 = .ok (.iload 6, 2) := dgX12_findMeets_3 (240, (.iload 6, 2)) (List.mem_of_getElem? (i := 12) rfl)
theorem dX12_findMeets_242 : decode cX12_findMeets 242 = .ok (.aload_n 0, 1) := dgX12_findMeets_3 (242, (.aload_n 0, 1)) (List.mem_of_getElem? (i := 13) rfl)
theorem dX12_findMeets_243 : decode cX12_findMeets 243 = .ok (.getfield 358, 3) := dgX12_findMeets_3 (243, (.getfield 358, 3)) (List.mem_of_getElem? (i := 14) rfl)
theorem dX12_findMeets_246 : decode cX12_findMeets 246 = .ok (.if_icmp .ge 26, 3) := dgX12_findMeets_3 (246, (.if_icmp .ge 26, 3)) (List.mem_of_getElem? (i := 15) rfl)
theorem dX12_findMeets_249 : decode cX12_findMeets 249 = .ok (.aload_n 0, 1) := dgX12_findMeets_3 (249, (.aload_n 0, 1)) (List.mem_of_getElem? (i := 16) rfl)
theorem dX12_findMeets_250 : decode cX12_findMeets 250 = .ok (.getfield 95, 3) := dgX12_findMeets_3 (250, (.getfield 95, 3)) (List.mem_of_getElem? (i := 17) rfl)
theorem dX12_findMeets_253 : decode cX12_findMeets 253 = .ok (.aload_n 0, 1) := dgX12_findMeets_3 (253, (.aload_n 0, 1)) (List.mem_of_getElem? (i := 18) rfl)
theorem dX12_findMeets_254 : decode cX12_findMeets 254 = .ok (.getfield 82, 3) := dgX12_findMeets_3 (254, (.getfield 82, 3)) (List.mem_of_getElem? (i := 19) rfl)
theorem dX12_findMeets_257 : decode cX12_findMeets 257 = .ok (.iload 6, 2) := dgX12_findMeets_3 (257, (.iload 6, 2)) (List.mem_of_getElem? (i := 20) rfl)
theorem dX12_findMeets_259 : decode cX12_findMeets 259 = .ok (.iaload, 1) := dgX12_findMeets_3 (259, (.iaload, 1)) (List.mem_of_getElem? (i := 21) rfl)
theorem dX12_findMeets_260 : decode cX12_findMeets 260 = .ok (.dup2, 1) := dgX12_findMeets_3 (260, (.dup2, 1)) (List.mem_of_getElem? (i := 22) rfl)
theorem dX12_findMeets_261 : decode cX12_findMeets 261 = .ok (.iaload, 1) := dgX12_findMeets_3 (261, (.iaload, 1)) (List.mem_of_getElem? (i := 23) rfl)
theorem dX12_findMeets_262 : decode cX12_findMeets 262 = .ok (.bipush 64, 2) := dgX12_findMeets_3 (262, (.bipush 64, 2)) (List.mem_of_getElem? (i := 24) rfl)
theorem dX12_findMeets_264 : decode cX12_findMeets 264 = .ok (.ior, 1) := dgX12_findMeets_3 (264, (.ior, 1)) (List.mem_of_getElem? (i := 25) rfl)
theorem dX12_findMeets_265 : decode cX12_findMeets 265 = .ok (.iastore, 1) := dgX12_findMeets_3 (265, (.iastore, 1)) (List.mem_of_getElem? (i := 26) rfl)
theorem dX12_findMeets_266 : decode cX12_findMeets 266 = .ok (.iinc 6 1, 3) := dgX12_findMeets_3 (266, (.iinc 6 1, 3)) (List.mem_of_getElem? (i := 27) rfl)
theorem dX12_findMeets_269 : decode cX12_findMeets 269 = .ok (.goto (-29), 3) := dgX12_findMeets_3 (269, (.goto (-29), 3)) (List.mem_of_getElem? (i := 28) rfl)
theorem dX12_findMeets_272 : decode cX12_findMeets 272 = .ok (.return_, 1) := dgX12_findMeets_3 (272, (.return_, 1)) (List.mem_of_getElem? (i := 29) rfl)
theorem fl_X12_422 : Cond.fieldLink RX12 422 "LateGlassModel" "wanted" "I" ∈ tblG := tg 1249 (by decide +kernel) (by decide +kernel)
