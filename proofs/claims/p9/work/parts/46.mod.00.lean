theorem dgX12_step_0 : ∀ r ∈ ([(0, (.iload_n 2, 1)), (1, (.iconst 4, 1)), (2, (.if_icmp .ne 7, 3)), (5, (.iload_n 1, 1)), (6, (.goto 8, 3)), (9, (.iload_n 1, 1)), (10, (.iload_n 2, 1)), (11, (.invokestatic 374, 3)), (14, (.istore 4, 2)), (16, (.iload 4, 2)), (18, (.iconst (-1), 1)), (19, (.if_icmp .eq 34, 3)), (22, (.aload_n 0, 1)), (23, (.getfield 95, 3)), (26, (.bipush 64, 2)), (28, (.iload_n 3, 1)), (29, (.imul, 1)), (30, (.iload 4, 2)), (32, (.ifCond .ge 7, 3)), (35, (.iconst 0, 1)), (36, (.goto 5, 3)), (39, (.iload 4, 2)), (41, (.iadd, 1)), (42, (.iaload, 1)), (43, (.bipush 64, 2)), (45, (.if_icmp .ge 8, 3)), (48, (.iload 4, 2)), (50, (.goto 4, 3)), (53, (.iconst (-1), 1)), (54, (.ireturn, 1))] : List (Nat × (Instr × Nat))), decode cX12_step r.1 = .ok r.2 := by decide +kernel
theorem dX12_step_0 : decode cX12_step 0 = .ok (.iload_n 2, 1) := dgX12_step_0 (0, (.iload_n 2, 1)) (List.mem_of_getElem? (i := 0) rfl)
theorem dX12_step_1 : decode cX12_step 1 = .ok (.iconst 4, 1) := dgX12_step_0 (1, (.iconst 4, 1)) (List.mem_of_getElem? (i := 1) rfl)
theorem dX12_step_2 : decode cX12_step 2 = .ok (.if_icmp .ne 7, 3) := dgX12_step_0 (2, (.if_icmp .ne 7, 3)) (List.mem_of_getElem? (i := 2) rfl)
theorem dX12_step_5 : decode cX12_step 5 = .ok (.iload_n 1, 1) := dgX12_step_0 (5, (.iload_n 1, 1)) (List.mem_of_getElem? (i := 3) rfl)
theorem dX12_step_6 : decode cX12_step 6 = .ok (.goto 8, 3) := dgX12_step_0 (6, (.goto 8, 3)) (List.mem_of_getElem? (i := 4) rfl)
theorem dX12_step_9 : decode cX12_step 9 = .ok (.iload_n 1, 1) := dgX12_step_0 (9, (.iload_n 1, 1)) (List.mem_of_getElem? (i := 5) rfl)
theorem dX12_step_10 : decode cX12_step 10 = .ok (.iload_n 2, 1) := dgX12_step_0 (10, (.iload_n 2, 1)) (List.mem_of_getElem? (i := 6) rfl)
theorem dX12_step_11 : decode cX12_step 11 = .ok (.invokestatic 374, 3) := dgX12_step_0 (11, (.invokestatic 374, 3)) (List.mem_of_getElem? (i := 7) rfl)
theorem dX12_step_14 : decode cX12_step 14 = .ok (.istore 4, 2) := dgX12_step_0 (14, (.istore 4, 2)) (List.mem_of_getElem? (i := 8) rfl)
theorem dX12_step_16 : decode cX12_step 16 = .ok (.iload 4, 2) := dgX12_step_0 (16, (.iload 4, 2)) (List.mem_of_getElem? (i := 9) rfl)
theorem dX12_step_18 : decode cX12_step 18 = .ok (.iconst (-1), 1) := dgX12_step_0 (18, (.iconst (-1), 1)) (List.mem_of_getElem? (i := 10) rfl)
theorem dX12_step_19 : decode cX12_step 19 = .ok (.if_icmp .eq 34, 3) := dgX12_step_0 (19, (.if_icmp .eq 34, 3)) (List.mem_of_getElem? (i := 11) rfl)
theorem dX12_step_22 : decode cX12_step 22 = .ok (.aload_n 0, 1) := dgX12_step_0 (22, (.aload_n 0, 1)) (List.mem_of_getElem? (i := 12) rfl)
theorem dX12_step_23 : decode cX12_step 23 = .ok (.getfield 95, 3) := dgX12_step_0 (23, (.getfield 95, 3)) (List.mem_of_getElem? (i := 13) rfl)
theorem dX12_step_26 : decode cX12_step 26 = .ok (.bipush 64, 2) := dgX12_step_0 (26, (.bipush 64, 2)) (List.mem_of_getElem? (i := 14) rfl)
theorem dX12_step_28 : decode cX12_step 28 = .ok (.iload_n 3, 1) := dgX12_step_0 (28, (.iload_n 3, 1)) (List.mem_of_getElem? (i := 15) rfl)
theorem dX12_step_29 : decode cX12_step 29 = .ok (.imul, 1) := dgX12_step_0 (29, (.imul, 1)) (List.mem_of_getElem? (i := 16) rfl)
theorem dX12_step_30 : decode cX12_step 30 = .ok (.iload 4, 2) := dgX12_step_0 (30, (.iload 4, 2)) (List.mem_of_getElem? (i := 17) rfl)
theorem dX12_step_32 : decode cX12_step 32 = .ok (.ifCond .ge 7, 3) := dgX12_step_0 (32, (.ifCond .ge 7, 3)) (List.mem_of_getElem? (i := 18) rfl)
theorem dX12_step_39 : decode cX12_step 39 = .ok (.iload 4, 2) := dgX12_step_0 (39, (.iload 4, 2)) (List.mem_of_getElem? (i := 21) rfl)
theorem dX12_step_41 : decode cX12_step 41 = .ok (.iadd, 1) := dgX12_step_0 (41, (.iadd, 1)) (List.mem_of_getElem? (i := 22) rfl)
theorem dX12_step_42 : decode cX12_step 42 = .ok (.iaload, 1) := dgX12_step_0 (42, (.iaload, 1)) (List.mem_of_getElem? (i := 23) rfl)
theorem dX12_step_43 : decode cX12_step 43 = .ok (.bipush 64, 2) := dgX12_step_0 (43, (.bipush 64, 2)) (List.mem_of_getElem? (i := 24) rfl)
theorem dX12_step_45 : decode cX12_step 45 = .ok (.if_icmp .ge 8, 3) := dgX12_step_0 (45, (.if_icmp .ge 8, 3)) (List.mem_of_getElem? (i := 25) rfl)
theorem dX12_step_48 : decode cX12_step 48 = .ok (.iload 4, 2) := dgX12_step_0 (48, (.iload 4, 2)) (List.mem_of_getElem? (i := 26) rfl)
theorem dX12_step_50 : decode cX12_step 50 = .ok (.goto 4, 3) := dgX12_step_0 (50, (.goto 4, 3)) (List.mem_of_getElem? (i := 27) rfl)
theorem dX12_step_53 : decode cX12_step 53 = .ok (.iconst (-1), 1) := dgX12_step_0 (53, (.iconst (-1), 1)) (List.mem_of_getElem? (i := 28) rfl)
theorem dX12_step_54 : decode cX12_step 54 = .ok (.ireturn, 1) := dgX12_step_0 (54, (.ireturn, 1)) (List.mem_of_getElem? (i := 29) rfl)
theorem fl_X12_95 : Cond.fieldLink RX12 95 "LateGlassModel" "meets" "[I" ∈ tblG := tg 1248 (by decide +kernel) (by decide +kernel)
set_option maxHeartbeats 4000000 in
set_option maxRecDepth 100000 in
theorem n_step (l : Launch) (G : g5_G) (b_o b_me b_rf b_ro b_im b_ke b_tp b_nl b_op b_ar b_pi b_pa b_ws b_hw b_se b_re b_pt b_ip b_ah b_be b_tr b_ld b_wn : Nat) (sz : Nat) (u_th : Int32) (u_sa : Int32) (u_fd : Int32) (u_td : Int32) (u_fr : Int32) (u_to : Int32) (u_so : Int32) (u_fa : Int32) (u_bd : Int32) (u_nc : Int32) (u_co : Int32) (u_le : Int32) (u_pd : Int32) (u_od : Int32) (u_la : Int32) (u_bk : Int32) (u_ce : Int32) (u_ho : Int32) (u_wy : Int32) (u_bt : Int32) (u_ps : Int32) (u_tg : Int32) (u_sn : Int32) (u_ic : Int32) (u_wd : Int32) (u_id : Int32) (p_1 : Int32) (p_2 : Int32) (p_3 : Int32) (u_wo : Int64) (u_va : Int64) (u_su : Int64) (u_st : Int64) (v_me : Nat → Int32) (h_u_td : 0 ≤ u_td.toInt ∧ u_td.toInt ≤ 400) (h_u_fr : 0 ≤ u_fr.toInt ∧ u_fr.toInt ≤ 400) (h_u_to : 0 ≤ u_to.toInt ∧ u_to.toInt ≤ 400) (h_u_bd : 0 ≤ u_bd.toInt ∧ u_bd.toInt ≤ 1) (h_u_nc : 0 ≤ u_nc.toInt ∧ u_nc.toInt ≤ 12) (h_u_co : 0 ≤ u_co.toInt ∧ u_co.toInt ≤ 400) (h_u_pd : 0 ≤ u_pd.toInt ∧ u_pd.toInt ≤ 400) (h_u_la : 0 ≤ u_la.toInt ∧ u_la.toInt ≤ 4840) (h_u_bk : 0 ≤ u_bk.toInt ∧ u_bk.toInt ≤ 1) (h_u_ce : 0 ≤ u_ce.toInt ∧ u_ce.toInt ≤ 63) (h_u_ho : 0 ≤ u_ho.toInt ∧ u_ho.toInt ≤ 23) (h_u_wy : 0 ≤ u_wy.toInt ∧ u_wy.toInt ≤ 3) (h_u_bt : 0 ≤ u_bt.toInt ∧ u_bt.toInt ≤ 1000000) (h_u_ps : 0 ≤ u_ps.toInt ∧ u_ps.toInt ≤ 200) (h_u_ic : 0 ≤ u_ic.toInt ∧ u_ic.toInt ≤ 1) (h_u_id : 0 ≤ u_id.toInt ∧ u_id.toInt ≤ 1) (h_p_1 : 0 ≤ p_1.toInt ∧ p_1.toInt ≤ 63) (h_p_2 : 0 ≤ p_2.toInt ∧ p_2.toInt ≤ 4) (h_p_3 : 0 ≤ p_3.toInt ∧ p_3.toInt ≤ 23) (r_me : MEI v_me) : Met l yX12_step (wsG yX12_step cX12_step 5 (some .int)) ({ frames := 1, cells := 0, slots := 0, locals := 21 }) (va_Pc [.ref b_o, .int p_1, .int p_2, .int p_3] (g5_P G [(b_o, (oc12 u_th u_sa b_rf b_ro b_im b_ke u_fd b_tp u_td u_fr u_to u_so u_wo u_fa u_bd u_nc b_nl u_co b_op b_ar u_le b_pi b_pa u_pd u_od b_ws b_hw u_la b_se b_re u_bk u_va u_su u_ce u_ho u_wy u_bt u_ps b_pt u_tg u_sn b_ip u_ic b_ah b_be b_me u_wd b_tr b_ld u_st b_wn u_id)), (b_me, (arI G 1536 v_me))] sz)) (va_Qi (fun (r : Int32) (u : va_W) => (∃ (o_r : Int32), ((-1) ≤ o_r.toInt ∧ o_r.toInt ≤ 63) ∧ (o_r.toInt = -1 ∨ (v_me (64 * p_3.toInt + o_r.toInt).toNat).toInt < 64) ∧ (r = o_r) ∧ (u = [(b_o, (oc12 u_th u_sa b_rf b_ro b_im b_ke u_fd b_tp u_td u_fr u_to u_so u_wo u_fa u_bd u_nc b_nl u_co b_op b_ar u_le b_pi b_pa u_pd u_od b_ws b_hw u_la b_se b_re u_bk u_va u_su u_ce u_ho u_wy u_bt u_ps b_pt u_tg u_sn b_ip u_ic b_ah b_be b_me u_wd b_tr b_ld u_st b_wn u_id)), (b_me, (arI G 1536 v_me))]))) (g5_B G (va_A [(b_o, (oc12 u_th u_sa b_rf b_ro b_im b_ke u_fd b_tp u_td u_fr u_to u_so u_wo u_fa u_bd u_nc b_nl u_co b_op b_ar u_le b_pi b_pa u_pd u_od b_ws b_hw u_la b_se b_re u_bk u_va u_su u_ce u_ho u_wy u_bt u_ps b_pt u_tg u_sn b_ip u_ic b_ah b_be b_me u_wd b_tr b_ld u_st b_wn u_id)), (b_me, (arI G 1536 v_me))] sz)) (va_A [(b_o, (oc12 u_th u_sa b_rf b_ro b_im b_ke u_fd b_tp u_td u_fr u_to u_so u_wo u_fa u_bd u_nc b_nl u_co b_op b_ar u_le b_pi b_pa u_pd u_od b_ws b_hw u_la b_se b_re u_bk u_va u_su u_ce u_ho u_wy u_bt u_ps b_pt u_tg u_sn b_ip u_ic b_ah b_be b_me u_wd b_tr b_ld u_st b_wn u_id)), (b_me, (arI G 1536 v_me))] sz)) 0 0 (va_A [(b_o, (oc12 u_th u_sa b_rf b_ro b_im b_ke u_fd b_tp u_td u_fr u_to u_so u_wo u_fa u_bd u_nc b_nl u_co b_op b_ar u_le b_pi b_pa u_pd u_od b_ws b_hw u_la b_se b_re u_bk u_va u_su u_ce u_ho u_wy u_bt u_ps b_pt u_tg u_sn b_ip u_ic b_ah b_be b_me u_wd b_tr b_ld u_st b_wn u_id)), (b_me, (arI G 1536 v_me))] sz) := by
  refine Met.ofW (cc := cX12_step) (maxL := 5) (ret := (some .int)) (by decide) rfl ?_
  intro p e s m args below meth c s₁ B hml hv
  obtain ⟨rfl, hsz, hP, hK, hD0, hN, hT⟩ := hv
  have hx := B.exec
  have hb := B.bytes
  have hr := B.returns
  have hts : ∀ w ∈ tblG, w.before _ s = true := fun w h => atoms_spec (ws := (wsG yX12_step cX12_step 5 (some .int))) B.pre w (List.mem_cons_of_mem _ h)
  have hown : s.vm.findClass RX12 = some m.cls := findClass_of_methodNamed B.named
  have hlocks := B.notSynchronized
  subst hsz
  have hD := hD0.self (sz := s.heap.size)
  generalize hAe : va_A [(b_o, (oc12 u_th u_sa b_rf b_ro b_im b_ke u_fd b_tp u_td u_fr u_to u_so u_wo u_fa u_bd u_nc b_nl u_co b_op b_ar u_le b_pi b_pa u_pd u_od b_ws b_hw u_la b_se b_re u_bk u_va u_su u_ce u_ho u_wy u_bt u_ps b_pt u_tg u_sn b_ip u_ic b_ah b_be b_me u_wd b_tr b_ld u_st b_wn u_id)), (b_me, (arI G 1536 v_me))] s.heap.size = A at hD hT ⊢
  have hA : ∀ q : Nat, s.heap.size ≤ q → A q := fun q h => by rw [← hAe]; exact Or.inr h
  have hS : va_S A s.heap s.heap [] := va_S.rf
  have hP : va_P G.1 vwCl [(b_o, (oc12 u_th u_sa b_rf b_ro b_im b_ke u_fd b_tp u_td u_fr u_to u_so u_wo u_fa u_bd u_nc b_nl u_co b_op b_ar u_le b_pi b_pa u_pd u_od b_ws b_hw u_la b_se b_re u_bk u_va u_su u_ce u_ho u_wy u_bt u_ps b_pt u_tg u_sn b_ip u_ic b_ah b_be b_me u_wd b_tr b_ld u_st b_wn u_id)), (b_me, (arI G 1536 v_me))] s.heap := hP
  have hl := lv_entry ([.ref b_o, .int p_1, .int p_2, .int p_3]) (n := 5) (Nat.le_of_ble_eq_true rfl)
  rw [lg_entry_eq]
  generalize (lg_sl ([.ref b_o, .int p_1, .int p_2, .int p_3]) ++ List.replicate (5 - (lg_sl ([.ref b_o, .int p_1, .int p_2, .int p_3])).length) Slot.unset).toArray = ls at hl ⊢
  have hl : lv_has ls 5 [(0, .ref b_o), (1, .int p_1), (2, .int p_2), (3, .int p_3)] := hl
  refine lv_iload_n hx hb dX12_step_0 rfl (lv_at hl 2 rfl) ?_
  refine lv_iconst (v := 4) hx hb dX12_step_1 (by decide) ?_
  refine lv_icmp_ne (tgt := 9) hx hb dX12_step_2 (by decide) (fun c_1 => ?_) (fun c_1 => ?_)
  ·
    have n_1 : gNe (p_2.toInt) (4) := by have z := g5_ne (a := p_2.toInt) (b := 4) (by rfl) (by decide) c_1; unfold gNe; omega
    have i_1 : p_2.toInt ≤ 3 := by have z := g5_ne (a := p_2.toInt) (b := 4) (by rfl) (by decide) c_1; omega
    refine lv_iload_n hx hb dX12_step_9 rfl (lv_at hl 1 rfl) ?_
    refine lv_iload_n hx hb dX12_step_10 rfl (lv_at hl 2 rfl) ?_
    obtain ⟨hPc, hDc, hFc⟩ := g5_sub3 (wc := []) hP hD hS hA [] (by decide) rfl
    refine va_calli (va_runS (As := [.int p_1, .int p_2]) (rest := []) ⟨hx, hb, hml, hown, hts⟩ (n_beside l G s.heap.size p_1 p_2 h_p_1) (va_cwS 2 hts gS_X12_374 rfl rfl rfl hs_X12_beside ⟨Nat.le_of_ble_eq_true rfl, Nat.le_of_ble_eq_true rfl⟩) (g5_preS hPc hK hDc hN hT hS hFc) rfl rfl hl.1 rfl (lv_room (Nat.le_of_ble_eq_true rfl)) dX12_step_11 ⟨Nat.le_of_ble_eq_true rfl, Nat.le_of_ble_eq_true rfl⟩) hS (fun q _ h => hFc q h) hFc (fun r u t H1 locs ht hvm hw hB hz1 hk1 hS => ?_)
    obtain ⟨hP1, hD1⟩ := hB
    rw [ht] at hP1
    obtain ⟨z3, i_2, y4, rfl⟩ := hw
    have i_2 : -1 ≤ z3.toInt ∧ z3.toInt ≤ 63 := i_2
    have hP := g5_same hP hk1
    generalize H1 = H at hP hS ⊢
    refine g5_ti (v := z3) y4 ?_
    refine lv_istore (lv' := [(4, .int z3), (0, .ref b_o), (1, .int p_1), (2, .int p_2), (3, .int p_3)]) hx hb dX12_step_14 hl (by decide) rfl (fun ls hl => ?_)
    refine lv_iload hx hb dX12_step_16 (lv_at hl 0 rfl) ?_
    refine lv_iconst (v := (-1)) hx hb dX12_step_18 (by decide) ?_
    refine lv_icmp_eq (tgt := 53) hx hb dX12_step_19 (by decide) (fun c_5 => ?_) (fun c_5 => ?_)
    ·
      have i_5 : z3.toInt = (-1) := by have z := g5_eq (a := z3.toInt) (b := (-1)) (by rfl) (by decide) c_5; omega
      refine lv_iconst (v := (-1)) hx hb dX12_step_53 (by decide) ?_
      exact W.iret (v := (-1)) hx hb hr (fun t ht hW => ⟨⟨(-1), [(b_o, (oc12 u_th u_sa b_rf b_ro b_im b_ke u_fd b_tp u_td u_fr u_to u_so u_wo u_fa u_bd u_nc b_nl u_co b_op b_ar u_le b_pi b_pa u_pd u_od b_ws b_hw u_la b_se b_re u_bk u_va u_su u_ce u_ho u_wy u_bt u_ps b_pt u_tg u_sn b_ip u_ic b_ah b_be b_me u_wd b_tr b_ld u_st b_wn u_id)), (b_me, (arI G 1536 v_me))], rfl, ⟨(-1), ⟨by have zc_o_r : ((-1) : Int32).toInt = (-1) := (by decide); omega, by have zc_o_r : ((-1) : Int32).toInt = (-1) := (by decide); omega⟩, Or.inl (by decide), rfl, rfl⟩, by rw [ht]; exact hP.sub [0, 1] rfl, hD.sub [0, 1] (by decide) rfl⟩, hS.F ht⟩) hS.2.2 dX12_step_54
    ·
      have n_5 : gNe (z3.toInt) ((-1)) := by have z := g5_eqN (a := z3.toInt) (b := (-1)) (by rfl) (by decide) c_5; unfold gNe; omega
      have i_5 : z3.toInt ≥ 0 := by have z := g5_eqN (a := z3.toInt) (b := (-1)) (by rfl) (by decide) c_5; omega
      refine lv_aload_n hx hb dX12_step_22 rfl (lv_at hl 1 rfl) ?_
      refine va_get (D := G.1) (ci := 12) (v := .ref b_me) (C := RX12) (T := TX12) (N := 52) hx hb hts inG_X12 hown hK hP 0 rfl rfl 45 (by decide) (hts _ fl_X12_95) (fun _ h9 => h9) rfl dX12_step_23 ?_
      refine lv_bipush (v := 64) hx hb dX12_step_26 (by decide) ?_
      refine lv_iload_n hx hb dX12_step_28 rfl (lv_at hl 4 rfl) ?_
      refine lv_imul hx hb dX12_step_29 ?_
      have t_6 : (64 * p_3).toInt = 64 * p_3.toInt := g5_imul (a := 64) (b := p_3.toInt) (by decide) (by rfl) (by omega) (by omega)
      refine lv_iload hx hb dX12_step_30 (lv_at hl 0 rfl) ?_
      refine lv_if_ge (tgt := 39) hx hb dX12_step_32 (by decide) (fun c_7 => ?_) (fun c_7 => ?_)
      ·
        have i_7 : z3.toInt ≥ 0 := by have z := g5_ge (a := z3.toInt) (b := 0) (by rfl) (by decide) c_7; omega
        refine lv_iload hx hb dX12_step_39 (lv_at hl 0 rfl) ?_
        refine lv_iadd hx hb dX12_step_41 ?_
        have t_8 : ((64 * p_3) + z3).toInt = (64 * p_3).toInt + z3.toInt := g5_iadd (a := (64 * p_3).toInt) (b := z3.toInt) (by rfl) (by rfl) (by omega) (by omega)
        refine va_iald hx hb hK hP 1 0 rfl rfl (i := ((64 * p_3) + z3)) (vp_in_iff.mpr ⟨by omega, by omega⟩) dX12_step_42 ?_
        have hr_9 : 0 ≤ (v_me ((64 * p_3) + z3).toNatClampNeg).toInt ∧ ((v_me ((64 * p_3) + z3).toNatClampNeg).toInt < 32 ∨ 64 ≤ (v_me ((64 * p_3) + z3).toNatClampNeg).toInt) ∧ (v_me ((64 * p_3) + z3).toNatClampNeg).toInt ≤ 127 := r_me (((64 * p_3) + z3).toNatClampNeg)
        refine lv_bipush (v := 64) hx hb dX12_step_43 (by decide) ?_
        refine lv_icmp_ge (tgt := 53) hx hb dX12_step_45 (by decide) (fun c_10 => ?_) (fun c_10 => ?_)
        ·
          have i_10 : (v_me ((64 * p_3) + z3).toNatClampNeg).toInt ≥ 64 := by have z := g5_ge (a := (v_me ((64 * p_3) + z3).toNatClampNeg).toInt) (b := 64) (by rfl) (by decide) c_10; omega
          refine lv_iconst (v := (-1)) hx hb dX12_step_53 (by decide) ?_
          exact W.iret (v := (-1)) hx hb hr (fun t ht hW => ⟨⟨(-1), [(b_o, (oc12 u_th u_sa b_rf b_ro b_im b_ke u_fd b_tp u_td u_fr u_to u_so u_wo u_fa u_bd u_nc b_nl u_co b_op b_ar u_le b_pi b_pa u_pd u_od b_ws b_hw u_la b_se b_re u_bk u_va u_su u_ce u_ho u_wy u_bt u_ps b_pt u_tg u_sn b_ip u_ic b_ah b_be b_me u_wd b_tr b_ld u_st b_wn u_id)), (b_me, (arI G 1536 v_me))], rfl, ⟨(-1), ⟨by have zc_o_r : ((-1) : Int32).toInt = (-1) := (by decide); omega, by have zc_o_r : ((-1) : Int32).toInt = (-1) := (by decide); omega⟩, Or.inl (by decide), rfl, rfl⟩, by rw [ht]; exact hP.sub [0, 1] rfl, hD.sub [0, 1] (by decide) rfl⟩, hS.F ht⟩) hS.2.2 dX12_step_54
        ·
          have i_10 : (v_me ((64 * p_3) + z3).toNatClampNeg).toInt < 64 := by have z := g5_geN (a := (v_me ((64 * p_3) + z3).toNatClampNeg).toInt) (b := 64) (by rfl) (by decide) c_10; omega
          refine lv_iload hx hb dX12_step_48 (lv_at hl 0 rfl) ?_
          refine lv_goto (tgt := 54) hx hb dX12_step_50 (by decide) ?_
          exact W.iret (v := z3) hx hb hr (fun t ht hW => ⟨⟨z3, [(b_o, (oc12 u_th u_sa b_rf b_ro b_im b_ke u_fd b_tp u_td u_fr u_to u_so u_wo u_fa u_bd u_nc b_nl u_co b_op b_ar u_le b_pi b_pa u_pd u_od b_ws b_hw u_la b_se b_re u_bk u_va u_su u_ce u_ho u_wy u_bt u_ps b_pt u_tg u_sn b_ip u_ic b_ah b_be b_me u_wd b_tr b_ld u_st b_wn u_id)), (b_me, (arI G 1536 v_me))], rfl, ⟨z3, ⟨by omega, by omega⟩, Or.inr (by have e9 : (64 * p_3.toInt + z3.toInt).toNat = ((64 * p_3) + z3).toNatClampNeg := (by have zz := g5_clamp ((64 * p_3) + z3); omega); rw [e9]; exact i_10), rfl, rfl⟩, by rw [ht]; exact hP.sub [0, 1] rfl, hD.sub [0, 1] (by decide) rfl⟩, hS.F ht⟩) hS.2.2 dX12_step_54
      ·
        have i_7 : z3.toInt < 0 := by have z := g5_geN (a := z3.toInt) (b := 0) (by rfl) (by decide) c_7; omega
        omega
  ·
    have i_1 : p_2.toInt = 4 := by have z := g5_neN (a := p_2.toInt) (b := 4) (by rfl) (by decide) c_1; omega
    refine lv_iload_n hx hb dX12_step_5 rfl (lv_at hl 1 rfl) ?_
    refine lv_goto (tgt := 14) hx hb dX12_step_6 (by decide) ?_
    refine lv_istore (lv' := [(4, .int p_1), (0, .ref b_o), (1, .int p_1), (2, .int p_2), (3, .int p_3)]) hx hb dX12_step_14 hl (by decide) rfl (fun ls hl => ?_)
    refine lv_iload hx hb dX12_step_16 (lv_at hl 0 rfl) ?_
    refine lv_iconst (v := (-1)) hx hb dX12_step_18 (by decide) ?_
    refine lv_icmp_eq (tgt := 53) hx hb dX12_step_19 (by decide) (fun c_11 => ?_) (fun c_11 => ?_)
    ·
      have i_11 : p_1.toInt = (-1) := by have z := g5_eq (a := p_1.toInt) (b := (-1)) (by rfl) (by decide) c_11; omega
      omega
    ·
      have n_11 : gNe (p_1.toInt) ((-1)) := by have z := g5_eqN (a := p_1.toInt) (b := (-1)) (by rfl) (by decide) c_11; unfold gNe; omega
      refine lv_aload_n hx hb dX12_step_22 rfl (lv_at hl 1 rfl) ?_
      refine va_get (D := G.1) (ci := 12) (v := .ref b_me) (C := RX12) (T := TX12) (N := 52) hx hb hts inG_X12 hown hK hP 0 rfl rfl 45 (by decide) (hts _ fl_X12_95) (fun _ h9 => h9) rfl dX12_step_23 ?_
      refine lv_bipush (v := 64) hx hb dX12_step_26 (by decide) ?_
      refine lv_iload_n hx hb dX12_step_28 rfl (lv_at hl 4 rfl) ?_
      refine lv_imul hx hb dX12_step_29 ?_
      have t_12 : (64 * p_3).toInt = 64 * p_3.toInt := g5_imul (a := 64) (b := p_3.toInt) (by decide) (by rfl) (by omega) (by omega)
      refine lv_iload hx hb dX12_step_30 (lv_at hl 0 rfl) ?_
      refine lv_if_ge (tgt := 39) hx hb dX12_step_32 (by decide) (fun c_13 => ?_) (fun c_13 => ?_)
      ·
        have i_13 : p_1.toInt ≥ 0 := by have z := g5_ge (a := p_1.toInt) (b := 0) (by rfl) (by decide) c_13; omega
        refine lv_iload hx hb dX12_step_39 (lv_at hl 0 rfl) ?_
        refine lv_iadd hx hb dX12_step_41 ?_
        have t_14 : ((64 * p_3) + p_1).toInt = (64 * p_3).toInt + p_1.toInt := g5_iadd (a := (64 * p_3).toInt) (b := p_1.toInt) (by rfl) (by rfl) (by omega) (by omega)
        refine va_iald hx hb hK hP 1 0 rfl rfl (i := ((64 * p_3) + p_1)) (vp_in_iff.mpr ⟨by omega, by omega⟩) dX12_step_42 ?_
        have hr_15 : 0 ≤ (v_me ((64 * p_3) + p_1).toNatClampNeg).toInt ∧ ((v_me ((64 * p_3) + p_1).toNatClampNeg).toInt < 32 ∨ 64 ≤ (v_me ((64 * p_3) + p_1).toNatClampNeg).toInt) ∧ (v_me ((64 * p_3) + p_1).toNatClampNeg).toInt ≤ 127 := r_me (((64 * p_3) + p_1).toNatClampNeg)
        refine lv_bipush (v := 64) hx hb dX12_step_43 (by decide) ?_
        refine lv_icmp_ge (tgt := 53) hx hb dX12_step_45 (by decide) (fun c_16 => ?_) (fun c_16 => ?_)
        ·
          have i_16 : (v_me ((64 * p_3) + p_1).toNatClampNeg).toInt ≥ 64 := by have z := g5_ge (a := (v_me ((64 * p_3) + p_1).toNatClampNeg).toInt) (b := 64) (by rfl) (by decide) c_16; omega
          refine lv_iconst (v := (-1)) hx hb dX12_step_53 (by decide) ?_
          exact W.iret (v := (-1)) hx hb hr (fun t ht hW => ⟨⟨(-1), [(b_o, (oc12 u_th u_sa b_rf b_ro b_im b_ke u_fd b_tp u_td u_fr u_to u_so u_wo u_fa u_bd u_nc b_nl u_co b_op b_ar u_le b_pi b_pa u_pd u_od b_ws b_hw u_la b_se b_re u_bk u_va u_su u_ce u_ho u_wy u_bt u_ps b_pt u_tg u_sn b_ip u_ic b_ah b_be b_me u_wd b_tr b_ld u_st b_wn u_id)), (b_me, (arI G 1536 v_me))], rfl, ⟨(-1), ⟨by have zc_o_r : ((-1) : Int32).toInt = (-1) := (by decide); omega, by have zc_o_r : ((-1) : Int32).toInt = (-1) := (by decide); omega⟩, Or.inl (by decide), rfl, rfl⟩, by rw [ht]; exact hP.sub [0, 1] rfl, hD.sub [0, 1] (by decide) rfl⟩, hS.F ht⟩) hS.2.2 dX12_step_54
        ·
          have i_16 : (v_me ((64 * p_3) + p_1).toNatClampNeg).toInt < 64 := by have z := g5_geN (a := (v_me ((64 * p_3) + p_1).toNatClampNeg).toInt) (b := 64) (by rfl) (by decide) c_16; omega
          refine lv_iload hx hb dX12_step_48 (lv_at hl 0 rfl) ?_
          refine lv_goto (tgt := 54) hx hb dX12_step_50 (by decide) ?_
          exact W.iret (v := p_1) hx hb hr (fun t ht hW => ⟨⟨p_1, [(b_o, (oc12 u_th u_sa b_rf b_ro b_im b_ke u_fd b_tp u_td u_fr u_to u_so u_wo u_fa u_bd u_nc b_nl u_co b_op b_ar u_le b_pi b_pa u_pd u_od b_ws b_hw u_la b_se b_re u_bk u_va u_su u_ce u_ho u_wy u_bt u_ps b_pt u_tg u_sn b_ip u_ic b_ah b_be b_me u_wd b_tr b_ld u_st b_wn u_id)), (b_me, (arI G 1536 v_me))], rfl, ⟨p_1, ⟨by omega, by omega⟩, Or.inr (by have e9 : (64 * p_3.toInt + p_1.toInt).toNat = ((64 * p_3) + p_1).toNatClampNeg := (by have zz := g5_clamp ((64 * p_3) + p_1); omega); rw [e9]; exact i_16), rfl, rfl⟩, by rw [ht]; exact hP.sub [0, 1] rfl, hD.sub [0, 1] (by decide) rfl⟩, hS.F ht⟩) hS.2.2 dX12_step_54
      ·
        have i_13 : p_1.toInt < 0 := by have z := g5_geN (a := p_1.toInt) (b := 0) (by rfl) (by decide) c_13; omega
        omega
theorem dgX12_goesOn_0 : ∀ r ∈ ([(0, (.iconst 0, 1)), (1, (.istore_n 3, 1)), (2, (.iload_n 3, 1)), (3, (.iconst 5, 1)), (4, (.if_icmp .ge 97, 3)), (7, (.aload_n 0, 1)), (8, (.iload_n 2, 1)), (9, (.iload_n 3, 1)), (10, (.iload_n 1, 1)), (11, (.iconst 1, 1)), (12, (.iadd, 1)), (13, (.invokevirtual 437, 3)), (16, (.istore 4, 2)), (18, (.iconst 0, 1)), (19, (.istore 5, 2)), (21, (.iload 5, 2)), (23, (.bipush 32, 2)), (25, (.if_icmp .ge 70, 3)), (28, (.iload 4, 2)), (30, (.iconst (-1), 1)), (31, (.if_icmp .eq 64, 3)), (34, (.aload_n 0, 1)), (35, (.getfield 89, 3)), (38, (.bipush 32, 2)), (40, (.bipush 64, 2)), (42, (.iload_n 1, 1)), (43, (.iconst 1, 1)), (44, (.iadd, 1)), (45, (.imul, 1)), (46, (.iload 4, 2)), (48, (.iadd, 1)), (49, (.imul, 1)), (50, (.iload 5, 2)), (52, (.aload_n 0, 1)), (53, (.getfield 95, 3)), (56, (.bipush 64, 2)), (58, (.iload_n 1, 1)), (59, (.iconst 1, 1)), (60, (.iadd, 1)), (61, (.imul, 1))] : List (Nat × (Instr × Nat))), decode cX12_goesOn r.1 = .ok r.2 := by decide +kernel
theorem dX12_goesOn_0 : decode cX12_goesOn 0 = .ok (.iconst 0, 1) := dgX12_goesOn_0 (0, (.iconst 0, 1)) (List.mem_of_getElem? (i := 0) rfl)
theorem dX12_goesOn_1 : decode cX12_goesOn 1 = .ok (.istore_n 3, 1) := dgX12_goesOn_0 (1, (.istore_n 3, 1)) (List.mem_of_getElem? (i := 1) rfl)
theorem dX12_goesOn_2 : decode cX12_goesOn 2 = .ok (.iload_n 3, 1) := dgX12_goesOn_0 (2, (.iload_n 3, 1)) (List.mem_of_getElem? (i := 2) rfl)
theorem dX12_goesOn_3 : decode cX12_goesOn 3 = .ok (.iconst 5, 1) := dgX12_goesOn_0 (3, (.iconst 5, 1)) (List.mem_of_getElem? (i := 3) rfl)
theorem dX12_goesOn_4 : decode cX12_goesOn 4 = .ok (.if_icmp .ge 97, 3) := dgX12_goesOn_0 (4, (.if_icmp .ge 97, 3)) (List.mem_of_getElem? (i := 4) rfl)
theorem dX12_goesOn_7 : decode cX12_goesOn 7 = .ok (.aload_n 0, 1) := dgX12_goesOn_0 (7, (.aload_n 0, 1)) (List.mem_of_getElem? (i := 5) rfl)
theorem dX12_goesOn_8 : decode cX12_goesOn 8 = .ok (.iload_n 2, 1) := dgX12_goesOn_0 (8, (.iload_n 2, 1)) (List.mem_of_getElem? (i := 6) rfl)
theorem dX12_goesOn_9 : decode cX12_goesOn 9 = .ok (.iload_n 3, 1) := dgX12_goesOn_0 (9, (.iload_n 3, 1)) (List.mem_of_getElem? (i := 7) rfl)
theorem dX12_goesOn_10 : decode cX12_goesOn 10 = .ok (.iload_n 1, 1) := dgX12_goesOn_0 (10, (.iload_n 1, 1)) (List.mem_of_getElem? (i := 8) rfl)
theorem dX12_goesOn_11 : decode cX12_goesOn 11 = .ok (.iconst 1, 1) := dgX12_goesOn_0 (11, (.iconst 1, 1)) (List.mem_of_getElem? (i := 9) rfl)
theorem dX12_goesOn_12 : decode cX12_goesOn 12 = .ok (.iadd, 1) := dgX12_goesOn_0 (12, (.iadd, 1)) (List.mem_of_getElem? (i := 10) rfl)
theorem dX12_goesOn_13 : decode cX12_goesOn 13 = .ok (.invokevirtual 437, 3) := dgX12_goesOn_0 (13, (.invokevirtual 437, 3)) (List.mem_of_getElem? (i := 11) rfl)
theorem dX12_goesOn_16 : decode cX12_goesOn 16 = .ok (.istore 4, 2) := dgX12_goesOn_0 (16, (.istore 4, 2)) (List.mem_of_getElem? (i := 12) rfl)
theorem dX12_goesOn_18 : decode cX12_goesOn 18 = .ok (.iconst 0, 1) := dgX12_goesOn_0 (18, (.iconst 0, 1)) (List.mem_of_getElem? (i := 13) rfl)
theorem dX12_goesOn_19 : decode cX12_goesOn 19 = .ok (.istore 5, 2) := dgX12_goesOn_0 (19, (.istore 5, 2)) (List.mem_of_getElem? (i := 14) rfl)
theorem dX12_goesOn_21 : decode cX12_goesOn 21 = .ok (.iload 5, 2) := dgX12_goesOn_0 (21, (.iload 5, 2)) (List.mem_of_getElem? (i := 15) rfl)
theorem dX12_goesOn_23 : decode cX12_goesOn 23 = .ok (.bipush 32, 2) := dgX12_goesOn_0 (23, (.bipush 32, 2)) (List.mem_of_getElem? (i := 16) rfl)
theorem dX12_goesOn_25 : decode cX12_goesOn 25 = .ok (.if_icmp .ge 70, 3) := dgX12_goesOn_0 (25, (.if_icmp .ge 70, 3)) (List.mem_of_getElem? (i := 17) rfl)
theorem dX12_goesOn_28 : decode cX12_goesOn 28 = .ok (.iload 4, 2) := dgX12_goesOn_0 (28, (.iload 4, 2)) (List.mem_of_getElem? (i := 18) rfl)
theorem dX12_goesOn_30 : decode cX12_goesOn 30 = .ok (.iconst (-1), 1) := dgX12_goesOn_0 (30, (.iconst (-1), 1)) (List.mem_of_getElem? (i := 19) rfl)
theorem dX12_goesOn_31 : decode cX12_goesOn 31 = .ok (.if_icmp .eq 64, 3) := dgX12_goesOn_0 (31, (.if_icmp .eq 64, 3)) (List.mem_of_getElem? (i := 20) rfl)
theorem dX12_goesOn_34 : decode cX12_goesOn 34 = .ok (.aload_n 0, 1) := dgX12_goesOn_0 (34, (.aload_n 0, 1)) (List.mem_of_getElem? (i := 21) rfl)
theorem dX12_goesOn_35 : decode cX12_goesOn 35 = .ok (.getfield 89, 3) := dgX12_goesOn_0 (35, (.getfield 89, 3)) (List.mem_of_getElem? (i := 22) rfl)
theorem dX12_goesOn_38 : decode cX12_goesOn 38 = .ok (.bipush 32, 2) := dgX12_goesOn_0 (38, (.bipush 32, 2)) (List.mem_of_getElem? (i := 23) rfl)
theorem dX12_goesOn_40 : decode cX12_goesOn 40 = .ok (.bipush 64, 2) := dgX12_goesOn_0 (40, (.bipush 64, 2)) (List.mem_of_getElem? (i := 24) rfl)
theorem dX12_goesOn_42 : decode cX12_goesOn 42 = .ok (.iload_n 1, 1) := dgX12_goesOn_0 (42, (.iload_n 1, 1)) (List.mem_of_getElem? (i := 25) rfl)
theorem dX12_goesOn_43 : decode cX12_goesOn 43 = .ok (.iconst 1, 1) := dgX12_goesOn_0 (43, (.iconst 1, 1)) (List.mem_of_getElem? (i := 26) rfl)
theorem dX12_goesOn_44 : decode cX12_goesOn 44 = .ok (.iadd, 1) := dgX12_goesOn_0 (44, (.iadd, 1)) (List.mem_of_getElem? (i := 27) rfl)
theorem dX12_goesOn_45 : decode cX12_goesOn 45 = .ok (.imul, 1) := dgX12_goesOn_0 (45, (.imul, 1)) (List.mem_of_getElem? (i := 28) rfl)
theorem dX12_goesOn_46 : decode cX12_goesOn 46 = .ok (.iload 4, 2) := dgX12_goesOn_0 (46, (.iload 4, 2)) (List.mem_of_getElem? (i := 29) rfl)
theorem dX12_goesOn_48 : decode cX12_goesOn 48 = .ok (.iadd, 1) := dgX12_goesOn_0 (48, (.iadd, 1)) (List.mem_of_getElem? (i := 30) rfl)
theorem dX12_goesOn_49 : decode cX12_goesOn 49 = .ok (.imul, 1) := dgX12_goesOn_0 (49, (.imul, 1)) (List.mem_of_getElem? (i := 31) rfl)
theorem dX12_goesOn_50 : decode cX12_goesOn 50 = .ok (.iload 5, 2) := dgX12_goesOn_0 (50, (.iload 5, 2)) (List.mem_of_getElem? (i := 32) rfl)
theorem dX12_goesOn_52 : decode cX12_goesOn 52 = .ok (.aload_n 0, 1) := dgX12_goesOn_0 (52, (.aload_n 0, 1)) (List.mem_of_getElem? (i := 33) rfl)
theorem dX12_goesOn_53 : decode cX12_goesOn 53 = .ok (.getfield 95, 3) := dgX12_goesOn_0 (53, (.getfield 95, 3)) (List.mem_of_getElem? (i := 34) rfl)
theorem dX12_goesOn_56 : decode cX12_goesOn 56 = .ok (.bipush 64, 2) := dgX12_goesOn_0 (56, (.bipush 64, 2)) (List.mem_of_getElem? (i := 35) rfl)
theorem dX12_goesOn_58 : decode cX12_goesOn 58 = .ok (.iload_n 1, 1) := dgX12_goesOn_0 (58, (.iload_n 1, 1)) (List.mem_of_getElem? (i := 36) rfl)
theorem dX12_goesOn_59 : decode cX12_goesOn 59 = .ok (.iconst 1, 1) := dgX12_goesOn_0 (59, (.iconst 1, 1)) (List.mem_of_getElem? (i := 37) rfl)
theorem dX12_goesOn_60 : decode cX12_goesOn 60 = .ok (.iadd, 1) := dgX12_goesOn_0 (60, (.iadd, 1)) (List.mem_of_getElem? (i := 38) rfl)
theorem dX12_goesOn_61 : decode cX12_goesOn 61 = .ok (.imul, 1) := dgX12_goesOn_0 (61, (.imul, 1)) (List.mem_of_getElem? (i := 39) rfl)
theorem dgX12_goesOn_1 : ∀ r ∈ ([(62, (.iload 4, 2)), (64, (.iadd, 1)), (65, (.iaload, 1)), (66, (.ior, 1)), (67, (.iadd, 1)), (68, (.dup2, 1)), (69, (.laload, 1)), (70, (.aload_n 0, 1)), (71, (.getfield 89, 3)), (74, (.bipush 32, 2)), (76, (.bipush 64, 2)), (78, (.iload_n 1, 1)), (79, (.imul, 1)), (80, (.iload_n 2, 1)), (81, (.iadd, 1)), (82, (.imul, 1)), (83, (.iload 5, 2)), (85, (.iadd, 1)), (86, (.laload, 1)), (87, (.ladd, 1)), (88, (.lastore, 1)), (89, (.iinc 5 1, 3)), (92, (.goto (-71), 3)), (95, (.iinc 3 1, 3)), (98, (.goto (-96), 3)), (101, (.return_, 1))] : List (Nat × (Instr × Nat))), decode cX12_goesOn r.1 = .ok r.2 := by decide +kernel
theorem dX12_goesOn_62 : decode cX12_goesOn 62 = .ok (.iload 4, 2) := dgX12_goesOn_1 (62, (.iload 4, 2)) (List.mem_of_getElem? (i := 0) rfl)
theorem dX12_goesOn_64 : decode cX12_goesOn 64 = .ok (.iadd, 1) := dgX12_goesOn_1 (64, (.iadd, 1)) (List.mem_of_getElem? (i := 1) rfl)
theorem dX12_goesOn_65 : decode cX12_goesOn 65 = .ok (.iaload, 1) := dgX12_goesOn_1 (65, (.iaload, 1)) (List.mem_of_getElem? (i := 2) rfl)
theorem dX12_goesOn_66 : decode cX12_goesOn 66 = .ok (.ior, 1) := dgX12_goesOn_1 (66, (.ior, 1)) (List.mem_of_getElem? (i := 3) rfl)
theorem dX12_goesOn_67 : decode cX12_goesOn 67 = .ok (.iadd, 1) := dgX12_goesOn_1 (67, (.iadd, 1)) (List.mem_of_getElem? (i := 4) rfl)
theorem dX12_goesOn_68 : decode cX12_goesOn 68 = .ok (.dup2, 1) := dgX12_goesOn_1 (68, (.dup2, 1)) (List.mem_of_getElem? (i := 5) rfl)
theorem dX12_goesOn_69 : decode cX12_goesOn 69 = .ok (.laload, 1) := dgX12_goesOn_1 (69, (.laload, 1)) (List.mem_of_getElem? (i := 6) rfl)
theorem dX12_goesOn_70 : decode cX12_goesOn 70 = .ok (.aload_n 0, 1) := dgX12_goesOn_1 (70, (.aload_n 0, 1)) (List.mem_of_getElem? (i := 7) rfl)
theorem dX12_goesOn_71 : decode cX12_goesOn 71 = .ok (.getfield 89, 3) := dgX12_goesOn_1 (71, (.getfield 89, 3)) (List.mem_of_getElem? (i := 8) rfl)
theorem dX12_goesOn_74 : decode cX12_goesOn 74 = .ok (.bipush 32, 2) := dgX12_goesOn_1 (74, (.bipush 32, 2)) (List.mem_of_getElem? (i := 9) rfl)
theorem dX12_goesOn_76 : decode cX12_goesOn 76 = .ok (.bipush 64, 2) := dgX12_goesOn_1 (76, (.bipush 64, 2)) (List.mem_of_getElem? (i := 10) rfl)
theorem dX12_goesOn_78 : decode cX12_goesOn 78 = .ok (.iload_n 1, 1) := dgX12_goesOn_1 (78, (.iload_n 1, 1)) (List.mem_of_getElem? (i := 11) rfl)
theorem dX12_goesOn_79 : decode cX12_goesOn 79 = .ok (.imul, 1) := dgX12_goesOn_1 (79, (.imul, 1)) (List.mem_of_getElem? (i := 12) rfl)
theorem dX12_goesOn_80 : decode cX12_goesOn 80 = .ok (.iload_n 2, 1) := dgX12_goesOn_1 (80, (.iload_n 2, 1)) (List.mem_of_getElem? (i := 13) rfl)
theorem dX12_goesOn_81 : decode cX12_goesOn 81 = .ok (.iadd, 1) := dgX12_goesOn_1 (81, (.iadd, 1)) (List.mem_of_getElem? (i := 14) rfl)
theorem dX12_goesOn_82 : decode cX12_goesOn 82 = .ok (.imul, 1) := dgX12_goesOn_1 (82, (.imul, 1)) (List.mem_of_getElem? (i := 15) rfl)
theorem dX12_goesOn_83 : decode cX12_goesOn 83 = .ok (.iload 5, 2) := dgX12_goesOn_1 (83, (.iload 5, 2)) (List.mem_of_getElem? (i := 16) rfl)
theorem dX12_goesOn_85 : decode cX12_goesOn 85 = .ok (.iadd, 1) := dgX12_goesOn_1 (85, (.iadd, 1)) (List.mem_of_getElem? (i := 17) rfl)
theorem dX12_goesOn_86 : decode cX12_goesOn 86 = .ok (.laload, 1) := dgX12_goesOn_1 (86, (.laload, 1)) (List.mem_of_getElem? (i := 18) rfl)
theorem dX12_goesOn_87 : decode cX12_goesOn 87 = .ok (.ladd, 1) := dgX12_goesOn_1 (87, (.ladd, 1)) (List.mem_of_getElem? (i := 19) rfl)
theorem dX12_goesOn_88 : decode cX12_goesOn 88 = .ok (.lastore, 1) := dgX12_goesOn_1 (88, (.lastore, 1)) (List.mem_of_getElem? (i := 20) rfl)
theorem dX12_goesOn_89 : decode cX12_goesOn 89 = .ok (.iinc 5 1, 3) := dgX12_goesOn_1 (89, (.iinc 5 1, 3)) (List.mem_of_getElem? (i := 21) rfl)
theorem dX12_goesOn_92 : decode cX12_goesOn 92 = .ok (.goto (-71), 3) := dgX12_goesOn_1 (92, (.goto (-71), 3)) (List.mem_of_getElem? (i := 22) rfl)
theorem dX12_goesOn_95 : decode cX12_goesOn 95 = .ok (.iinc 3 1, 3) := dgX12_goesOn_1 (95, (.iinc 3 1, 3)) (List.mem_of_getElem? (i := 23) rfl)
theorem dX12_goesOn_98 : decode cX12_goesOn 98 = .ok (.goto (-96), 3) := dgX12_goesOn_1 (98, (.goto (-96), 3)) (List.mem_of_getElem? (i := 24) rfl)
theorem dX12_goesOn_101 : decode cX12_goesOn 101 = .ok (.return_, 1) := dgX12_goesOn_1 (101, (.return_, 1)) (List.mem_of_getElem? (i := 25) rfl)
theorem ml_X12_437 : Cond.methodLink RX12 437 yX12_step ∈ tblG := tg 1728 (by decide +kernel) (by decide +kernel)
theorem im_X12_step : Cond.instanceMethod yX12_step ∈ tblG := tg 1730 (by decide +kernel) (by decide +kernel)
theorem se_X12_step : Cond.selects RX12 yX12_step yX12_step ∈ tblG := tg 79 (by decide +kernel) (by decide +kernel)
theorem cd_X12_step : Cond.code yX12_step cX12_step 5 (some .int) ∈ tblG := tg 1731 (by decide +kernel) (by decide +kernel)
theorem gW_X12_step : GoodIn tblG (wsG yX12_step cX12_step 5 (some .int)) := tgi cd_X12_step
theorem gV_X12_437 : GoodIn tblG (wsV RX12 437 RX12 yX12_step (wsG yX12_step cX12_step 5 (some .int))) := tgV ml_X12_437 im_X12_step se_X12_step ini_X12 gW_X12_step
theorem hv_X12_step : yX12_step.cls = RX12 ∧ yX12_step.cls ≠ "java/lang/invoke/MethodHandle" ∧ yX12_step.cls ≠ "java/lang/invoke/VarHandle" ∧ (parseMethodDescriptor yX12_step.desc).map (fun d => d.parameters.length) = some 3 := by decide +kernel
theorem fl_X12_89 : Cond.fieldLink RX12 89 "LateGlassModel" "ahead" "[J" ∈ tblG := tg 1246 (by decide +kernel) (by decide +kernel)
theorem dgX12_comesFrom_0 : ∀ r ∈ ([(0, (.iconst 0, 1)), (1, (.istore_n 3, 1)), (2, (.iload_n 3, 1)), (3, (.iconst 5, 1)), (4, (.if_icmp .ge 97, 3)), (7, (.aload_n 0, 1)), (8, (.iload_n 2, 1)), (9, (.iload_n 3, 1)), (10, (.iload_n 1, 1)), (11, (.iconst 1, 1)), (12, (.iadd, 1)), (13, (.invokevirtual 437, 3)), (16, (.istore 4, 2)), (18, (.iconst 0, 1)), (19, (.istore 5, 2)), (21, (.iload 5, 2)), (23, (.bipush 32, 2)), (25, (.if_icmp .ge 70, 3)), (28, (.iload 4, 2)), (30, (.iconst (-1), 1)), (31, (.if_icmp .eq 64, 3)), (34, (.aload_n 0, 1)), (35, (.getfield 92, 3)), (38, (.bipush 32, 2)), (40, (.bipush 64, 2)), (42, (.iload_n 1, 1)), (43, (.imul, 1)), (44, (.iload_n 2, 1)), (45, (.iadd, 1)), (46, (.imul, 1)), (47, (.iload 5, 2)), (49, (.iadd, 1)), (50, (.dup2, 1)), (51, (.laload, 1)), (52, (.aload_n 0, 1)), (53, (.getfield 92, 3)), (56, (.bipush 32, 2)), (58, (.bipush 64, 2)), (60, (.iload_n 1, 1)), (61, (.iconst 1, 1))] : List (Nat × (Instr × Nat))), decode cX12_comesFrom r.1 = .ok r.2 := by decide +kernel
theorem dX12_comesFrom_0 : decode cX12_comesFrom 0 = .ok (.iconst 0, 1) := dgX12_comesFrom_0 (0, (.iconst 0, 1)) (List.mem_of_getElem? (i := 0) rfl)
theorem dX12_comesFrom_1 : decode cX12_comesFrom 1 = .ok (.istore_n 3, 1) := dgX12_comesFrom_0 (1, (.istore_n 3, 1)) (List.mem_of_getElem? (i := 1) rfl)
theorem dX12_comesFrom_2 : decode cX12_comesFrom 2 = .ok (.iload_n 3, 1) := dgX12_comesFrom_0 (2, (.iload_n 3, 1)) (List.mem_of_getElem? (i := 2) rfl)
theorem dX12_comesFrom_3 : decode cX12_comesFrom 3 = .ok (.iconst 5, 1) := dgX12_comesFrom_0 (3, (.iconst 5, 1)) (List.mem_of_getElem? (i := 3) rfl)
theorem dX12_comesFrom_4 : decode cX12_comesFrom 4 = .ok (.if_icmp .ge 97, 3) := dgX12_comesFrom_0 (4, (.if_icmp .ge 97, 3)) (List.mem_of_getElem? (i := 4) rfl)
theorem dX12_comesFrom_7 : decode cX12_comesFrom 7 = .ok (.aload_n 0, 1) := dgX12_comesFrom_0 (7, (.aload_n 0, 1)) (List.mem_of_getElem? (i := 5) rfl)
theorem dX12_comesFrom_8 : decode cX12_comesFrom 8 = .ok (.iload_n 2, 1) := dgX12_comesFrom_0 (8, (.iload_n 2, 1)) (List.mem_of_getElem? (i := 6) rfl)
theorem dX12_comesFrom_9 : decode cX12_comesFrom 9 = .ok (.iload_n 3, 1) := dgX12_comesFrom_0 (9, (.iload_n 3, 1)) (List.mem_of_getElem? (i := 7) rfl)
theorem dX12_comesFrom_10 : decode cX12_comesFrom 10 = .ok (.iload_n 1, 1) := dgX12_comesFrom_0 (10, (.iload_n 1, 1)) (List.mem_of_getElem? (i := 8) rfl)
theorem dX12_comesFrom_11 : decode cX12_comesFrom 11 = .ok (.iconst 1, 1) := dgX12_comesFrom_0 (11, (.iconst 1, 1)) (List.mem_of_getElem? (i := 9) rfl)
theorem dX12_comesFrom_12 : decode cX12_comesFrom 12 = .ok (.iadd, 1) := dgX12_comesFrom_0 (12, (.iadd, 1)) (List.mem_of_getElem? (i := 10) rfl)
theorem dX12_comesFrom_13 : decode cX12_comesFrom 13 = .ok (.invokevirtual 437, 3) := dgX12_comesFrom_0 (13, (.invokevirtual 437, 3)) (List.mem_of_getElem? (i := 11) rfl)
theorem dX12_comesFrom_16 : decode cX12_comesFrom 16 = .ok (.istore 4, 2) := dgX12_comesFrom_0 (16, (.istore 4, 2)) (List.mem_of_getElem? (i := 12) rfl)
theorem dX12_comesFrom_18 : decode cX12_comesFrom 18 = .ok (.iconst 0, 1) := dgX12_comesFrom_0 (18, (.iconst 0, 1)) (List.mem_of_getElem? (i := 13) rfl)
theorem dX12_comesFrom_19 : decode cX12_comesFrom 19 = .ok (.istore 5, 2) := dgX12_comesFrom_0 (19, (.istore 5, 2)) (List.mem_of_getElem? (i := 14) rfl)
theorem dX12_comesFrom_21 : decode cX12_comesFrom 21 = .ok (.iload 5, 2) := dgX12_comesFrom_0 (21, (.iload 5, 2)) (List.mem_of_getElem? (i := 15) rfl)
theorem dX12_comesFrom_23 : decode cX12_comesFrom 23 = .ok (.bipush 32, 2) := dgX12_comesFrom_0 (23, (.bipush 32, 2)) (List.mem_of_getElem? (i := 16) rfl)
theorem dX12_comesFrom_25 : decode cX12_comesFrom 25 = .ok (.if_icmp .ge 70, 3) := dgX12_comesFrom_0 (25, (.if_icmp .ge 70, 3)) (List.mem_of_getElem? (i := 17) rfl)
theorem dX12_comesFrom_28 : decode cX12_comesFrom 28 = .ok (.iload 4, 2) := dgX12_comesFrom_0 (28, (.iload 4, 2)) (List.mem_of_getElem? (i := 18) rfl)
theorem dX12_comesFrom_30 : decode cX12_comesFrom 30 = .ok (.iconst (-1), 1) := dgX12_comesFrom_0 (30, (.iconst (-1), 1)) (List.mem_of_getElem? (i := 19) rfl)
theorem dX12_comesFrom_31 : decode cX12_comesFrom 31 = .ok (.if_icmp .eq 64, 3) := dgX12_comesFrom_0 (31, (.if_icmp .eq 64, 3)) (List.mem_of_getElem? (i := 20) rfl)
theorem dX12_comesFrom_34 : decode cX12_comesFrom 34 = .ok (.aload_n 0, 1) := dgX12_comesFrom_0 (34, (.aload_n 0, 1)) (List.mem_of_getElem? (i := 21) rfl)
theorem dX12_comesFrom_35 : decode cX12_comesFrom 35 = .ok (.getfield 92, 3) := dgX12_comesFrom_0 (35, (.getfield 92, 3)) (List.mem_of_getElem? (i := 22) rfl)
theorem dX12_comesFrom_38 : decode cX12_comesFrom 38 = .ok (.bipush 32, 2) := dgX12_comesFrom_0 (38, (.bipush 32, 2)) (List.mem_of_getElem? (i := 23) rfl)
theorem dX12_comesFrom_40 : decode cX12_comesFrom 40 = .ok (.bipush 64, 2) := dgX12_comesFrom_0 (40, (.bipush 64, 2)) (List.mem_of_getElem? (i := 24) rfl)
theorem dX12_comesFrom_42 : decode cX12_comesFrom 42 = .ok (.iload_n 1, 1) := dgX12_comesFrom_0 (42, (.iload_n 1, 1)) (List.mem_of_getElem? (i := 25) rfl)
theorem dX12_comesFrom_43 : decode cX12_comesFrom 43 = .ok (.imul, 1) := dgX12_comesFrom_0 (43, (.imul, 1)) (List.mem_of_getElem? (i := 26) rfl)
theorem dX12_comesFrom_44 : decode cX12_comesFrom 44 = .ok (.iload_n 2, 1) := dgX12_comesFrom_0 (44, (.iload_n 2, 1)) (List.mem_of_getElem? (i := 27) rfl)
theorem dX12_comesFrom_45 : decode cX12_comesFrom 45 = .ok (.iadd, 1) := dgX12_comesFrom_0 (45, (.iadd, 1)) (List.mem_of_getElem? (i := 28) rfl)
theorem dX12_comesFrom_46 : decode cX12_comesFrom 46 = .ok (.imul, 1) := dgX12_comesFrom_0 (46, (.imul, 1)) (List.mem_of_getElem? (i := 29) rfl)
theorem dX12_comesFrom_47 : decode cX12_comesFrom 47 = .ok (.iload 5, 2) := dgX12_comesFrom_0 (47, (.iload 5, 2)) (List.mem_of_getElem? (i := 30) rfl)
theorem dX12_comesFrom_49 : decode cX12_comesFrom 49 = .ok (.iadd, 1) := dgX12_comesFrom_0 (49, (.iadd, 1)) (List.mem_of_getElem? (i := 31) rfl)
theorem dX12_comesFrom_50 : decode cX12_comesFrom 50 = .ok (.dup2, 1) := dgX12_comesFrom_0 (50, (.dup2, 1)) (List.mem_of_getElem? (i := 32) rfl)
theorem dX12_comesFrom_51 : decode cX12_comesFrom 51 = .ok (.laload, 1) := dgX12_comesFrom_0 (51, (.laload, 1)) (List.mem_of_getElem? (i := 33) rfl)
theorem dX12_comesFrom_52 : decode cX12_comesFrom 52 = .ok (.aload_n 0, 1) := dgX12_comesFrom_0 (52, (.aload_n 0, 1)) (List.mem_of_getElem? (i := 34) rfl)
theorem dX12_comesFrom_53 : decode cX12_comesFrom 53 = .ok (.getfield 92, 3) := dgX12_comesFrom_0 (53, (.getfield 92, 3)) (List.mem_of_getElem? (i := 35) rfl)
theorem dX12_comesFrom_56 : decode cX12_comesFrom 56 = .ok (.bipush 32, 2) := dgX12_comesFrom_0 (56, (.bipush 32, 2)) (List.mem_of_getElem? (i := 36) rfl)
theorem dX12_comesFrom_58 : decode cX12_comesFrom 58 = .ok (.bipush 64, 2) := dgX12_comesFrom_0 (58, (.bipush 64, 2)) (List.mem_of_getElem? (i := 37) rfl)
theorem dX12_comesFrom_60 : decode cX12_comesFrom 60 = .ok (.iload_n 1, 1) := dgX12_comesFrom_0 (60, (.iload_n 1, 1)) (List.mem_of_getElem? (i := 38) rfl)
theorem dX12_comesFrom_61 : decode cX12_comesFrom 61 = .ok (.iconst 1, 1) := dgX12_comesFrom_0 (61, (.iconst 1, 1)) (List.mem_of_getElem? (i := 39) rfl)
theorem dgX12_comesFrom_1 : ∀ r ∈ ([(62, (.iadd, 1)), (63, (.imul, 1)), (64, (.iload 4, 2)), (66, (.iadd, 1)), (67, (.imul, 1)), (68, (.iload 5, 2)), (70, (.aload_n 0, 1)), (71, (.getfield 95, 3)), (74, (.bipush 64, 2)), (76, (.iload_n 1, 1)), (77, (.iconst 1, 1)), (78, (.iadd, 1)), (79, (.imul, 1)), (80, (.iload 4, 2)), (82, (.iadd, 1)), (83, (.iaload, 1)), (84, (.ior, 1)), (85, (.iadd, 1)), (86, (.laload, 1)), (87, (.ladd, 1)), (88, (.lastore, 1)), (89, (.iinc 5 1, 3)), (92, (.goto (-71), 3)), (95, (.iinc 3 1, 3)), (98, (.goto (-96), 3)), (101, (.return_, 1))] : List (Nat × (Instr × Nat))), decode cX12_comesFrom r.1 = .ok r.2 := by decide +kernel
theorem dX12_comesFrom_62 : decode cX12_comesFrom 62 = .ok (.iadd, 1) := dgX12_comesFrom_1 (62, (.iadd, 1)) (List.mem_of_getElem? (i := 0) rfl)
theorem dX12_comesFrom_63 : decode cX12_comesFrom 63 = .ok (.imul, 1) := dgX12_comesFrom_1 (63, (.imul, 1)) (List.mem_of_getElem? (i := 1) rfl)
theorem dX12_comesFrom_64 : decode cX12_comesFrom 64 = .ok (.iload 4, 2) := dgX12_comesFrom_1 (64, (.iload 4, 2)) (List.mem_of_getElem? (i := 2) rfl)
theorem dX12_comesFrom_66 : decode cX12_comesFrom 66 = .ok (.iadd, 1) := dgX12_comesFrom_1 (66, (.iadd, 1)) (List.mem_of_getElem? (i := 3) rfl)
theorem dX12_comesFrom_67 : decode cX12_comesFrom 67 = .ok (.imul, 1) := dgX12_comesFrom_1 (67, (.imul, 1)) (List.mem_of_getElem? (i := 4) rfl)
theorem dX12_comesFrom_68 : decode cX12_comesFrom 68 = .ok (.iload 5, 2) := dgX12_comesFrom_1 (68, (.iload 5, 2)) (List.mem_of_getElem? (i := 5) rfl)
theorem dX12_comesFrom_70 : decode cX12_comesFrom 70 = .ok (.aload_n 0, 1) := dgX12_comesFrom_1 (70, (.aload_n 0, 1)) (List.mem_of_getElem? (i := 6) rfl)
theorem dX12_comesFrom_71 : decode cX12_comesFrom 71 = .ok (.getfield 95, 3) := dgX12_comesFrom_1 (71, (.getfield 95, 3)) (List.mem_of_getElem? (i := 7) rfl)
theorem dX12_comesFrom_74 : decode cX12_comesFrom 74 = .ok (.bipush 64, 2) := dgX12_comesFrom_1 (74, (.bipush 64, 2)) (List.mem_of_getElem? (i := 8) rfl)
theorem dX12_comesFrom_76 : decode cX12_comesFrom 76 = .ok (.iload_n 1, 1) := dgX12_comesFrom_1 (76, (.iload_n 1, 1)) (List.mem_of_getElem? (i := 9) rfl)
theorem dX12_comesFrom_77 : decode cX12_comesFrom 77 = .ok (.iconst 1, 1) := dgX12_comesFrom_1 (77, (.iconst 1, 1)) (List.mem_of_getElem? (i := 10) rfl)
theorem dX12_comesFrom_78 : decode cX12_comesFrom 78 = .ok (.iadd, 1) := dgX12_comesFrom_1 (78, (.iadd, 1)) (List.mem_of_getElem? (i := 11) rfl)
theorem dX12_comesFrom_79 : decode cX12_comesFrom 79 = .ok (.imul, 1) := dgX12_comesFrom_1 (79, (.imul, 1)) (List.mem_of_getElem? (i := 12) rfl)
theorem dX12_comesFrom_80 : decode cX12_comesFrom 80 = .ok (.iload 4, 2) := dgX12_comesFrom_1 (80, (.iload 4, 2)) (List.mem_of_getElem? (i := 13) rfl)
theorem dX12_comesFrom_82 : decode cX12_comesFrom 82 = .ok (.iadd, 1) := dgX12_comesFrom_1 (82, (.iadd, 1)) (List.mem_of_getElem? (i := 14) rfl)
theorem dX12_comesFrom_83 : decode cX12_comesFrom 83 = .ok (.iaload, 1) := dgX12_comesFrom_1 (83, (.iaload, 1)) (List.mem_of_getElem? (i := 15) rfl)
theorem dX12_comesFrom_84 : decode cX12_comesFrom 84 = .ok (.ior, 1) := dgX12_comesFrom_1 (84, (.ior, 1)) (List.mem_of_getElem? (i := 16) rfl)
theorem dX12_comesFrom_85 : decode cX12_comesFrom 85 = .ok (.iadd, 1) := dgX12_comesFrom_1 (85, (.iadd, 1)) (List.mem_of_getElem? (i := 17) rfl)
theorem dX12_comesFrom_86 : decode cX12_comesFrom 86 = .ok (.laload, 1) := dgX12_comesFrom_1 (86, (.laload, 1)) (List.mem_of_getElem? (i := 18) rfl)
theorem dX12_comesFrom_87 : decode cX12_comesFrom 87 = .ok (.ladd, 1) := dgX12_comesFrom_1 (87, (.ladd, 1)) (List.mem_of_getElem? (i := 19) rfl)
theorem dX12_comesFrom_88 : decode cX12_comesFrom 88 = .ok (.lastore, 1) := dgX12_comesFrom_1 (88, (.lastore, 1)) (List.mem_of_getElem? (i := 20) rfl)
theorem dX12_comesFrom_89 : decode cX12_comesFrom 89 = .ok (.iinc 5 1, 3) := dgX12_comesFrom_1 (89, (.iinc 5 1, 3)) (List.mem_of_getElem? (i := 21) rfl)
theorem dX12_comesFrom_92 : decode cX12_comesFrom 92 = .ok (.goto (-71), 3) := dgX12_comesFrom_1 (92, (.goto (-71), 3)) (List.mem_of_getElem? (i := 22) rfl)
theorem dX12_comesFrom_95 : decode cX12_comesFrom 95 = .ok (.iinc 3 1, 3) := dgX12_comesFrom_1 (95, (.iinc 3 1, 3)) (List.mem_of_getElem? (i := 23) rfl)
theorem dX12_comesFrom_98 : decode cX12_comesFrom 98 = .ok (.goto (-96), 3) := dgX12_comesFrom_1 (98, (.goto (-96), 3)) (List.mem_of_getElem? (i := 24) rfl)
theorem dX12_comesFrom_101 : decode cX12_comesFrom 101 = .ok (.return_, 1) := dgX12_comesFrom_1 (101, (.return_, 1)) (List.mem_of_getElem? (i := 25) rfl)
theorem fl_X12_92 : Cond.fieldLink RX12 92 "LateGlassModel" "behind" "[J" ∈ tblG := tg 1247 (by decide +kernel) (by decide +kernel)
set_option maxHeartbeats 4000000 in
set_option maxRecDepth 100000 in
theorem n_comesFrom (l : Launch) (G : g5_G) (b_o b_be b_me b_rf b_ro b_im b_ke b_tp b_nl b_op b_ar b_pi b_pa b_ws b_hw b_se b_re b_pt b_ip b_ah b_tr b_ld b_wn : Nat) (sz : Nat) (u_th : Int32) (u_sa : Int32) (u_fd : Int32) (u_td : Int32) (u_fr : Int32) (u_to : Int32) (u_so : Int32) (u_fa : Int32) (u_bd : Int32) (u_nc : Int32) (u_co : Int32) (u_le : Int32) (u_pd : Int32) (u_od : Int32) (u_la : Int32) (u_bk : Int32) (u_ce : Int32) (u_ho : Int32) (u_wy : Int32) (u_bt : Int32) (u_ps : Int32) (u_tg : Int32) (u_sn : Int32) (u_ic : Int32) (u_wd : Int32) (u_id : Int32) (p_1 : Int32) (p_2 : Int32) (u_wo : Int64) (u_va : Int64) (u_su : Int64) (u_st : Int64) (v_be : Nat → Int64) (v_me : Nat → Int32) (h_u_td : 0 ≤ u_td.toInt ∧ u_td.toInt ≤ 400) (h_u_fr : 0 ≤ u_fr.toInt ∧ u_fr.toInt ≤ 400) (h_u_to : 0 ≤ u_to.toInt ∧ u_to.toInt ≤ 400) (h_u_bd : 0 ≤ u_bd.toInt ∧ u_bd.toInt ≤ 1) (h_u_nc : 0 ≤ u_nc.toInt ∧ u_nc.toInt ≤ 12) (h_u_co : 0 ≤ u_co.toInt ∧ u_co.toInt ≤ 400) (h_u_pd : 0 ≤ u_pd.toInt ∧ u_pd.toInt ≤ 400) (h_u_la : 0 ≤ u_la.toInt ∧ u_la.toInt ≤ 4840) (h_u_bk : 0 ≤ u_bk.toInt ∧ u_bk.toInt ≤ 1) (h_u_ce : 0 ≤ u_ce.toInt ∧ u_ce.toInt ≤ 63) (h_u_ho : 0 ≤ u_ho.toInt ∧ u_ho.toInt ≤ 23) (h_u_wy : 0 ≤ u_wy.toInt ∧ u_wy.toInt ≤ 3) (h_u_bt : 0 ≤ u_bt.toInt ∧ u_bt.toInt ≤ 1000000) (h_u_ps : 0 ≤ u_ps.toInt ∧ u_ps.toInt ≤ 200) (h_u_ic : 0 ≤ u_ic.toInt ∧ u_ic.toInt ≤ 1) (h_u_id : 0 ≤ u_id.toInt ∧ u_id.toInt ≤ 1) (h_p_1 : 0 ≤ p_1.toInt ∧ p_1.toInt ≤ 22) (h_p_2 : 0 ≤ p_2.toInt ∧ p_2.toInt ≤ 63) (r_me : MEI v_me) : Met l yX12_comesFrom (wsG yX12_comesFrom cX12_comesFrom 6 none) ({ frames := 2, cells := 0, slots := 0, locals := 45 }) (va_Pc [.ref b_o, .int p_1, .int p_2] (g5_P G [(b_o, (oc12 u_th u_sa b_rf b_ro b_im b_ke u_fd b_tp u_td u_fr u_to u_so u_wo u_fa u_bd u_nc b_nl u_co b_op b_ar u_le b_pi b_pa u_pd u_od b_ws b_hw u_la b_se b_re u_bk u_va u_su u_ce u_ho u_wy u_bt u_ps b_pt u_tg u_sn b_ip u_ic b_ah b_be b_me u_wd b_tr b_ld u_st b_wn u_id)), (b_be, (arJ G 49152 v_be)), (b_me, (arI G 1536 v_me))] sz)) (va_Qv (fun (u : va_W) => (∃ (o_be : Nat → Int64), (u = [(b_o, (oc12 u_th u_sa b_rf b_ro b_im b_ke u_fd b_tp u_td u_fr u_to u_so u_wo u_fa u_bd u_nc b_nl u_co b_op b_ar u_le b_pi b_pa u_pd u_od b_ws b_hw u_la b_se b_re u_bk u_va u_su u_ce u_ho u_wy u_bt u_ps b_pt u_tg u_sn b_ip u_ic b_ah b_be b_me u_wd b_tr b_ld u_st b_wn u_id)), (b_be, (arJ G 49152 o_be)), (b_me, (arI G 1536 v_me))]))) (g5_B G (va_A [(b_o, (oc12 u_th u_sa b_rf b_ro b_im b_ke u_fd b_tp u_td u_fr u_to u_so u_wo u_fa u_bd u_nc b_nl u_co b_op b_ar u_le b_pi b_pa u_pd u_od b_ws b_hw u_la b_se b_re u_bk u_va u_su u_ce u_ho u_wy u_bt u_ps b_pt u_tg u_sn b_ip u_ic b_ah b_be b_me u_wd b_tr b_ld u_st b_wn u_id)), (b_be, (arJ G 49152 v_be)), (b_me, (arI G 1536 v_me))] sz)) (va_A [(b_o, (oc12 u_th u_sa b_rf b_ro b_im b_ke u_fd b_tp u_td u_fr u_to u_so u_wo u_fa u_bd u_nc b_nl u_co b_op b_ar u_le b_pi b_pa u_pd u_od b_ws b_hw u_la b_se b_re u_bk u_va u_su u_ce u_ho u_wy u_bt u_ps b_pt u_tg u_sn b_ip u_ic b_ah b_be b_me u_wd b_tr b_ld u_st b_wn u_id)), (b_be, (arJ G 49152 v_be)), (b_me, (arI G 1536 v_me))] sz)) 0 0 (va_A [(b_o, (oc12 u_th u_sa b_rf b_ro b_im b_ke u_fd b_tp u_td u_fr u_to u_so u_wo u_fa u_bd u_nc b_nl u_co b_op b_ar u_le b_pi b_pa u_pd u_od b_ws b_hw u_la b_se b_re u_bk u_va u_su u_ce u_ho u_wy u_bt u_ps b_pt u_tg u_sn b_ip u_ic b_ah b_be b_me u_wd b_tr b_ld u_st b_wn u_id)), (b_be, (arJ G 49152 v_be)), (b_me, (arI G 1536 v_me))] sz) := by
  refine Met.ofW (cc := cX12_comesFrom) (maxL := 6) (ret := none) (by decide) rfl ?_
  intro p e s m args below meth c s₁ B hml hv
  obtain ⟨rfl, hsz, hP, hK, hD0, hN, hT⟩ := hv
  have hx := B.exec
  have hb := B.bytes
  have hr := B.returns
  have hts : ∀ w ∈ tblG, w.before _ s = true := fun w h => atoms_spec (ws := (wsG yX12_comesFrom cX12_comesFrom 6 none)) B.pre w (List.mem_cons_of_mem _ h)
  have hown : s.vm.findClass RX12 = some m.cls := findClass_of_methodNamed B.named
  have hlocks := B.notSynchronized
  subst hsz
  have hD := hD0.self (sz := s.heap.size)
  generalize hAe : va_A [(b_o, (oc12 u_th u_sa b_rf b_ro b_im b_ke u_fd b_tp u_td u_fr u_to u_so u_wo u_fa u_bd u_nc b_nl u_co b_op b_ar u_le b_pi b_pa u_pd u_od b_ws b_hw u_la b_se b_re u_bk u_va u_su u_ce u_ho u_wy u_bt u_ps b_pt u_tg u_sn b_ip u_ic b_ah b_be b_me u_wd b_tr b_ld u_st b_wn u_id)), (b_be, (arJ G 49152 v_be)), (b_me, (arI G 1536 v_me))] s.heap.size = A at hD hT ⊢
  have hA : ∀ q : Nat, s.heap.size ≤ q → A q := fun q h => by rw [← hAe]; exact Or.inr h
  have hS : va_S A s.heap s.heap [] := va_S.rf
  have hP : va_P G.1 vwCl [(b_o, (oc12 u_th u_sa b_rf b_ro b_im b_ke u_fd b_tp u_td u_fr u_to u_so u_wo u_fa u_bd u_nc b_nl u_co b_op b_ar u_le b_pi b_pa u_pd u_od b_ws b_hw u_la b_se b_re u_bk u_va u_su u_ce u_ho u_wy u_bt u_ps b_pt u_tg u_sn b_ip u_ic b_ah b_be b_me u_wd b_tr b_ld u_st b_wn u_id)), (b_be, (arJ G 49152 v_be)), (b_me, (arI G 1536 v_me))] s.heap := hP
  have hl := lv_entry ([.ref b_o, .int p_1, .int p_2]) (n := 6) (Nat.le_of_ble_eq_true rfl)
  rw [lg_entry_eq]
  generalize (lg_sl ([.ref b_o, .int p_1, .int p_2]) ++ List.replicate (6 - (lg_sl ([.ref b_o, .int p_1, .int p_2])).length) Slot.unset).toArray = ls at hl ⊢
  have hl : lv_has ls 6 [(0, .ref b_o), (1, .int p_1), (2, .int p_2)] := hl
  refine lv_iconst (v := 0) hx hb dX12_comesFrom_0 (by decide) ?_
  refine lv_istore_n (lv' := [(3, .int 0), (0, .ref b_o), (1, .int p_1), (2, .int p_2)]) hx hb dX12_comesFrom_1 rfl hl (by decide) rfl (fun ls hl => ?_)
  refine g5_loop (α := (Int32) × (Nat → Int64)) (fun (q : (Int32) × (Nat → Int64)) (ls : Array Slot) (H : Heap) (locs : List Loc) => match q with | (k2_3, k2_be) => lv_has ls 6 [(3, .int k2_3), (0, .ref b_o), (1, .int p_1), (2, .int p_2)] ∧ va_P G.1 vwCl [(b_o, (oc12 u_th u_sa b_rf b_ro b_im b_ke u_fd b_tp u_td u_fr u_to u_so u_wo u_fa u_bd u_nc b_nl u_co b_op b_ar u_le b_pi b_pa u_pd u_od b_ws b_hw u_la b_se b_re u_bk u_va u_su u_ce u_ho u_wy u_bt u_ps b_pt u_tg u_sn b_ip u_ic b_ah b_be b_me u_wd b_tr b_ld u_st b_wn u_id)), (b_be, (arJ G 49152 k2_be)), (b_me, (arI G 1536 v_me))] H ∧ va_D A [(b_o, (oc12 u_th u_sa b_rf b_ro b_im b_ke u_fd b_tp u_td u_fr u_to u_so u_wo u_fa u_bd u_nc b_nl u_co b_op b_ar u_le b_pi b_pa u_pd u_od b_ws b_hw u_la b_se b_re u_bk u_va u_su u_ce u_ho u_wy u_bt u_ps b_pt u_tg u_sn b_ip u_ic b_ah b_be b_me u_wd b_tr b_ld u_st b_wn u_id)), (b_be, (arJ G 49152 k2_be)), (b_me, (arI G 1536 v_me))] ∧ va_S A s.heap H locs ∧ (0 ≤ k2_3.toInt ∧ k2_3.toInt ≤ 5)) (fun (q : (Int32) × (Nat → Int64)) => match q with | (k2_3, k2_be) => Int.toNat (5 - k2_3.toInt)) (0, v_be) ⟨lv_sub hl [0, 1, 2, 3] rfl, hP, hD, hS, ⟨by decide, by decide⟩⟩ ?_
  rintro ⟨k2_3, k2_be⟩ ls H locs ⟨hl, hP, hD, hS, i_1⟩ ih_2_2
  have hl : lv_has ls 6 [(3, .int k2_3), (0, .ref b_o), (1, .int p_1), (2, .int p_2)] := hl
  have i_1 : 0 ≤ k2_3.toInt ∧ k2_3.toInt ≤ 5 := i_1
  refine g5_rs [(b_o, (oc12 u_th u_sa b_rf b_ro b_im b_ke u_fd b_tp u_td u_fr u_to u_so u_wo u_fa u_bd u_nc b_nl u_co b_op b_ar u_le b_pi b_pa u_pd u_od b_ws b_hw u_la b_se b_re u_bk u_va u_su u_ce u_ho u_wy u_bt u_ps b_pt u_tg u_sn b_ip u_ic b_ah b_be b_me u_wd b_tr b_ld u_st b_wn u_id)), (b_be, (arJ G 49152 k2_be)), (b_me, (arI G 1536 v_me))] hP hD (fun hP hD => ?_)
  refine lv_iload_n hx hb dX12_comesFrom_2 rfl (lv_at hl 0 rfl) ?_
  refine lv_iconst (v := 5) hx hb dX12_comesFrom_3 (by decide) ?_
  refine lv_icmp_ge (tgt := 101) hx hb dX12_comesFrom_4 (by decide) (fun c_3 => ?_) (fun c_3 => ?_)
  ·
    have i_3 : k2_3.toInt ≥ 5 := by have z := g5_ge (a := k2_3.toInt) (b := 5) (by rfl) (by decide) c_3; omega
    exact W.vret hx hb hr (fun t ht hW => ⟨⟨[(b_o, (oc12 u_th u_sa b_rf b_ro b_im b_ke u_fd b_tp u_td u_fr u_to u_so u_wo u_fa u_bd u_nc b_nl u_co b_op b_ar u_le b_pi b_pa u_pd u_od b_ws b_hw u_la b_se b_re u_bk u_va u_su u_ce u_ho u_wy u_bt u_ps b_pt u_tg u_sn b_ip u_ic b_ah b_be b_me u_wd b_tr b_ld u_st b_wn u_id)), (b_be, (arJ G 49152 k2_be)), (b_me, (arI G 1536 v_me))], rfl, ⟨k2_be, rfl⟩, by rw [ht]; exact hP.sub [0, 1, 2] rfl, hD.sub [0, 1, 2] (by decide) rfl⟩, hS.F ht⟩) hS.2.2 dX12_comesFrom_101
  ·
    have i_3 : k2_3.toInt < 5 := by have z := g5_geN (a := k2_3.toInt) (b := 5) (by rfl) (by decide) c_3; omega
    refine lv_aload_n hx hb dX12_comesFrom_7 rfl (lv_at hl 1 rfl) ?_
    refine lv_iload_n hx hb dX12_comesFrom_8 rfl (lv_at hl 3 rfl) ?_
    refine lv_iload_n hx hb dX12_comesFrom_9 rfl (lv_at hl 0 rfl) ?_
    refine lv_iload_n hx hb dX12_comesFrom_10 rfl (lv_at hl 2 rfl) ?_
    refine lv_iconst (v := 1) hx hb dX12_comesFrom_11 (by decide) ?_
    refine lv_iadd hx hb dX12_comesFrom_12 ?_
    have t_4 : (p_1 + 1).toInt = p_1.toInt + 1 := g5_iadd (a := p_1.toInt) (b := 1) (by rfl) (by decide) (by omega) (by omega)
    obtain ⟨hPc, hDc, hFc⟩ := g5_sub3 (wc := [(b_o, (oc12 u_th u_sa b_rf b_ro b_im b_ke u_fd b_tp u_td u_fr u_to u_so u_wo u_fa u_bd u_nc b_nl u_co b_op b_ar u_le b_pi b_pa u_pd u_od b_ws b_hw u_la b_se b_re u_bk u_va u_su u_ce u_ho u_wy u_bt u_ps b_pt u_tg u_sn b_ip u_ic b_ah b_be b_me u_wd b_tr b_ld u_st b_wn u_id)), (b_me, (arI G 1536 v_me))]) hP hD hS hA [0, 2] (by decide) rfl
    refine va_calli (va_runV (As := [.int p_2, .int k2_3, .int (p_1 + 1)]) (rest := []) ⟨hx, hb, hml, hown, hts⟩ (n_step l G b_o b_me b_rf b_ro b_im b_ke b_tp b_nl b_op b_ar b_pi b_pa b_ws b_hw b_se b_re b_pt b_ip b_ah b_be b_tr b_ld b_wn H.size u_th u_sa u_fd u_td u_fr u_to u_so u_fa u_bd u_nc u_co u_le u_pd u_od u_la u_bk u_ce u_ho u_wy u_bt u_ps u_tg u_sn u_ic u_wd u_id p_2 k2_3 (p_1 + 1) u_wo u_va u_su u_st v_me h_u_td h_u_fr h_u_to h_u_bd h_u_nc h_u_co h_u_pd h_u_la h_u_bk h_u_ce h_u_ho h_u_wy h_u_bt h_u_ps h_u_ic h_u_id h_p_2 ⟨by omega, by omega⟩ ⟨by omega, by omega⟩ (r_me)) (cwV 3 hts gV_X12_437 rfl rfl rfl hv_X12_step ⟨Nat.le_of_ble_eq_true rfl, Nat.le_of_ble_eq_true rfl⟩) (g5_preV hPc hK hDc hN hT hS hFc (ci := 12) (q0 := 0) rfl rfl) rfl rfl hl.1 rfl (lv_room (Nat.le_of_ble_eq_true rfl)) dX12_comesFrom_13 ⟨Nat.le_of_ble_eq_true rfl, Nat.le_of_ble_eq_true rfl⟩) hS (fun q _ h => hFc q h) hFc (fun r u t H1 locs ht hvm hw hB hz1 hk1 hS => ?_)
    obtain ⟨hP1, hD1⟩ := hB
    rw [ht] at hP1
    obtain ⟨z7, i_5, i_6, y8, rfl⟩ := hw
    have i_5 : (-1) ≤ z7.toInt ∧ z7.toInt ≤ 63 := i_5
    have i_6 : z7.toInt = -1 ∨ (v_me (64 * (p_1 + 1).toInt + z7.toInt).toNat).toInt < 64 := i_6
    obtain ⟨hP, hD⟩ := va_join (wr := [(b_be, (arJ G 49152 k2_be))]) hP hD [0, 2] [1] rfl rfl (by decide) (by decide) hk1 hFc hP1 hD1
    generalize H1 = H at hP hS ⊢
    refine g5_rs [(b_be, (arJ G 49152 k2_be)), (b_o, (oc12 u_th u_sa b_rf b_ro b_im b_ke u_fd b_tp u_td u_fr u_to u_so u_wo u_fa u_bd u_nc b_nl u_co b_op b_ar u_le b_pi b_pa u_pd u_od b_ws b_hw u_la b_se b_re u_bk u_va u_su u_ce u_ho u_wy u_bt u_ps b_pt u_tg u_sn b_ip u_ic b_ah b_be b_me u_wd b_tr b_ld u_st b_wn u_id)), (b_me, (arI G 1536 v_me))] hP hD (fun hP hD => ?_)
    refine g5_ti (v := z7) y8 ?_
    refine lv_istore (lv' := [(4, .int z7), (3, .int k2_3), (0, .ref b_o), (1, .int p_1), (2, .int p_2)]) hx hb dX12_comesFrom_16 hl (by decide) rfl (fun ls hl => ?_)
    refine lv_iconst (v := 0) hx hb dX12_comesFrom_18 (by decide) ?_
    refine lv_istore (lv' := [(5, .int 0), (4, .int z7), (3, .int k2_3), (0, .ref b_o), (1, .int p_1), (2, .int p_2)]) hx hb dX12_comesFrom_19 hl (by decide) rfl (fun ls hl => ?_)
    refine g5_loop (α := (Int32) × (Nat → Int64)) (fun (q : (Int32) × (Nat → Int64)) (ls : Array Slot) (H : Heap) (locs : List Loc) => match q with | (k21_5, k21_be) => lv_has ls 6 [(5, .int k21_5), (4, .int z7), (3, .int k2_3), (0, .ref b_o), (1, .int p_1), (2, .int p_2)] ∧ va_P G.1 vwCl [(b_be, (arJ G 49152 k21_be)), (b_o, (oc12 u_th u_sa b_rf b_ro b_im b_ke u_fd b_tp u_td u_fr u_to u_so u_wo u_fa u_bd u_nc b_nl u_co b_op b_ar u_le b_pi b_pa u_pd u_od b_ws b_hw u_la b_se b_re u_bk u_va u_su u_ce u_ho u_wy u_bt u_ps b_pt u_tg u_sn b_ip u_ic b_ah b_be b_me u_wd b_tr b_ld u_st b_wn u_id)), (b_me, (arI G 1536 v_me))] H ∧ va_D A [(b_be, (arJ G 49152 k21_be)), (b_o, (oc12 u_th u_sa b_rf b_ro b_im b_ke u_fd b_tp u_td u_fr u_to u_so u_wo u_fa u_bd u_nc b_nl u_co b_op b_ar u_le b_pi b_pa u_pd u_od b_ws b_hw u_la b_se b_re u_bk u_va u_su u_ce u_ho u_wy u_bt u_ps b_pt u_tg u_sn b_ip u_ic b_ah b_be b_me u_wd b_tr b_ld u_st b_wn u_id)), (b_me, (arI G 1536 v_me))] ∧ va_S A s.heap H locs ∧ (0 ≤ k21_5.toInt ∧ k21_5.toInt ≤ 32)) (fun (q : (Int32) × (Nat → Int64)) => match q with | (k21_5, k21_be) => Int.toNat (32 - k21_5.toInt)) (0, k2_be) ⟨lv_sub hl [0, 1, 2, 3, 4, 5] rfl, hP, hD, hS, ⟨by decide, by decide⟩⟩ ?_
    rintro ⟨k21_5, k21_be⟩ ls H locs ⟨hl, hP, hD, hS, i_9⟩ ih_21_10
    have hl : lv_has ls 6 [(5, .int k21_5), (4, .int z7), (3, .int k2_3), (0, .ref b_o), (1, .int p_1), (2, .int p_2)] := hl
    have i_9 : 0 ≤ k21_5.toInt ∧ k21_5.toInt ≤ 32 := i_9
    refine g5_rs [(b_be, (arJ G 49152 k21_be)), (b_o, (oc12 u_th u_sa b_rf b_ro b_im b_ke u_fd b_tp u_td u_fr u_to u_so u_wo u_fa u_bd u_nc b_nl u_co b_op b_ar u_le b_pi b_pa u_pd u_od b_ws b_hw u_la b_se b_re u_bk u_va u_su u_ce u_ho u_wy u_bt u_ps b_pt u_tg u_sn b_ip u_ic b_ah b_be b_me u_wd b_tr b_ld u_st b_wn u_id)), (b_me, (arI G 1536 v_me))] hP hD (fun hP hD => ?_)
    refine lv_iload hx hb dX12_comesFrom_21 (lv_at hl 0 rfl) ?_
    refine lv_bipush (v := 32) hx hb dX12_comesFrom_23 (by decide) ?_
    refine lv_icmp_ge (tgt := 95) hx hb dX12_comesFrom_25 (by decide) (fun c_11 => ?_) (fun c_11 => ?_)
    ·
      have i_11 : k21_5.toInt ≥ 32 := by have z := g5_ge (a := k21_5.toInt) (b := 32) (by rfl) (by decide) c_11; omega
      refine lv_iinc (v := (k2_3 + 1)) (lv' := [(3, .int (k2_3 + 1)), (5, .int k21_5), (4, .int z7), (0, .ref b_o), (1, .int p_1), (2, .int p_2)]) hx hb dX12_comesFrom_95 hl (k := 2) rfl rfl (by decide) rfl (fun ls hl => ?_)
      have t_12 : (k2_3 + 1).toInt = k2_3.toInt + 1 := g5_iadd (a := k2_3.toInt) (b := 1) rfl (by decide) (by omega) (by omega)
      refine lv_goto (tgt := 2) hx hb dX12_comesFrom_98 (by decide) ?_
      exact ih_2_2 ((k2_3 + 1), k21_be) ls H locs (show Int.toNat (5 - (k2_3 + 1).toInt) < Int.toNat (5 - k2_3.toInt) from g_up (show k2_3.toInt < (k2_3 + 1).toInt by omega) (show k2_3.toInt < 5 by omega)) ⟨lv_sub hl [0, 3, 4, 5] rfl, hP.sub [1, 0, 2] rfl, hD.sub [1, 0, 2] (by decide) rfl, hS, ⟨by omega, by omega⟩⟩
    ·
      have i_11 : k21_5.toInt < 32 := by have z := g5_geN (a := k21_5.toInt) (b := 32) (by rfl) (by decide) c_11; omega
      refine lv_iload hx hb dX12_comesFrom_28 (lv_at hl 1 rfl) ?_
      refine lv_iconst (v := (-1)) hx hb dX12_comesFrom_30 (by decide) ?_
      refine lv_icmp_eq (tgt := 95) hx hb dX12_comesFrom_31 (by decide) (fun c_13 => ?_) (fun c_13 => ?_)
      ·
        have i_13 : z7.toInt = (-1) := by have z := g5_eq (a := z7.toInt) (b := (-1)) (by rfl) (by decide) c_13; omega
        refine lv_iinc (v := (k2_3 + 1)) (lv' := [(3, .int (k2_3 + 1)), (5, .int k21_5), (4, .int z7), (0, .ref b_o), (1, .int p_1), (2, .int p_2)]) hx hb dX12_comesFrom_95 hl (k := 2) rfl rfl (by decide) rfl (fun ls hl => ?_)
        have t_14 : (k2_3 + 1).toInt = k2_3.toInt + 1 := g5_iadd (a := k2_3.toInt) (b := 1) rfl (by decide) (by omega) (by omega)
        refine lv_goto (tgt := 2) hx hb dX12_comesFrom_98 (by decide) ?_
        exact ih_2_2 ((k2_3 + 1), k21_be) ls H locs (show Int.toNat (5 - (k2_3 + 1).toInt) < Int.toNat (5 - k2_3.toInt) from g_up (show k2_3.toInt < (k2_3 + 1).toInt by omega) (show k2_3.toInt < 5 by omega)) ⟨lv_sub hl [0, 3, 4, 5] rfl, hP.sub [1, 0, 2] rfl, hD.sub [1, 0, 2] (by decide) rfl, hS, ⟨by omega, by omega⟩⟩
      ·
        have n_13 : gNe (z7.toInt) ((-1)) := by have z := g5_eqN (a := z7.toInt) (b := (-1)) (by rfl) (by decide) c_13; unfold gNe; omega
        have i_13 : z7.toInt ≥ 0 := by have z := g5_eqN (a := z7.toInt) (b := (-1)) (by rfl) (by decide) c_13; omega
        refine lv_aload_n hx hb dX12_comesFrom_34 rfl (lv_at hl 3 rfl) ?_
        refine va_get (D := G.1) (ci := 12) (v := .ref b_be) (C := RX12) (T := TX12) (N := 52) hx hb hts inG_X12 hown hK hP 1 rfl rfl 44 (by decide) (hts _ fl_X12_92) (fun _ h9 => h9) rfl dX12_comesFrom_35 ?_
        refine lv_bipush (v := 32) hx hb dX12_comesFrom_38 (by decide) ?_
        refine lv_bipush (v := 64) hx hb dX12_comesFrom_40 (by decide) ?_
        refine lv_iload_n hx hb dX12_comesFrom_42 rfl (lv_at hl 4 rfl) ?_
        refine lv_imul hx hb dX12_comesFrom_43 ?_
        have t_15 : (64 * p_1).toInt = 64 * p_1.toInt := g5_imul (a := 64) (b := p_1.toInt) (by decide) (by rfl) (by omega) (by omega)
        refine lv_iload_n hx hb dX12_comesFrom_44 rfl (lv_at hl 5 rfl) ?_
        refine lv_iadd hx hb dX12_comesFrom_45 ?_
        have t_16 : ((64 * p_1) + p_2).toInt = (64 * p_1).toInt + p_2.toInt := g5_iadd (a := (64 * p_1).toInt) (b := p_2.toInt) (by rfl) (by rfl) (by omega) (by omega)
        refine lv_imul hx hb dX12_comesFrom_46 ?_
        have t_17 : (32 * ((64 * p_1) + p_2)).toInt = 32 * ((64 * p_1) + p_2).toInt := g5_imul (a := 32) (b := ((64 * p_1) + p_2).toInt) (by decide) (by rfl) (by omega) (by omega)
        refine lv_iload hx hb dX12_comesFrom_47 (lv_at hl 0 rfl) ?_
        refine lv_iadd hx hb dX12_comesFrom_49 ?_
        have t_18 : ((32 * ((64 * p_1) + p_2)) + k21_5).toInt = (32 * ((64 * p_1) + p_2)).toInt + k21_5.toInt := g5_iadd (a := (32 * ((64 * p_1) + p_2)).toInt) (b := k21_5.toInt) (by rfl) (by rfl) (by omega) (by omega)
        refine lv_dup2_11 hx hb dX12_comesFrom_50 rfl rfl ?_
        refine va_lald hx hb hK hP 0 1 rfl rfl (i := ((32 * ((64 * p_1) + p_2)) + k21_5)) (vp_in_iff.mpr ⟨by omega, by omega⟩) dX12_comesFrom_51 ?_
        refine lv_aload_n hx hb dX12_comesFrom_52 rfl (lv_at hl 3 rfl) ?_
        refine va_get (D := G.1) (ci := 12) (v := .ref b_be) (C := RX12) (T := TX12) (N := 52) hx hb hts inG_X12 hown hK hP 1 rfl rfl 44 (by decide) (hts _ fl_X12_92) (fun _ h9 => h9) rfl dX12_comesFrom_53 ?_
        refine lv_bipush (v := 32) hx hb dX12_comesFrom_56 (by decide) ?_
        refine lv_bipush (v := 64) hx hb dX12_comesFrom_58 (by decide) ?_
        refine lv_iload_n hx hb dX12_comesFrom_60 rfl (lv_at hl 4 rfl) ?_
        refine lv_iconst (v := 1) hx hb dX12_comesFrom_61 (by decide) ?_
        refine lv_iadd hx hb dX12_comesFrom_62 ?_
        have t_19 : (p_1 + 1).toInt = p_1.toInt + 1 := g5_iadd (a := p_1.toInt) (b := 1) (by rfl) (by decide) (by omega) (by omega)
        refine lv_imul hx hb dX12_comesFrom_63 ?_
        have t_20 : (64 * (p_1 + 1)).toInt = 64 * (p_1 + 1).toInt := g5_imul (a := 64) (b := (p_1 + 1).toInt) (by decide) (by rfl) (by omega) (by omega)
        refine lv_iload hx hb dX12_comesFrom_64 (lv_at hl 1 rfl) ?_
        refine lv_iadd hx hb dX12_comesFrom_66 ?_
        have t_21 : ((64 * (p_1 + 1)) + z7).toInt = (64 * (p_1 + 1)).toInt + z7.toInt := g5_iadd (a := (64 * (p_1 + 1)).toInt) (b := z7.toInt) (by rfl) (by rfl) (by omega) (by omega)
        refine lv_imul hx hb dX12_comesFrom_67 ?_
        have t_22 : (32 * ((64 * (p_1 + 1)) + z7)).toInt = 32 * ((64 * (p_1 + 1)) + z7).toInt := g5_imul (a := 32) (b := ((64 * (p_1 + 1)) + z7).toInt) (by decide) (by rfl) (by omega) (by omega)
        refine lv_iload hx hb dX12_comesFrom_68 (lv_at hl 0 rfl) ?_
        refine lv_aload_n hx hb dX12_comesFrom_70 rfl (lv_at hl 3 rfl) ?_
        refine va_get (D := G.1) (ci := 12) (v := .ref b_me) (C := RX12) (T := TX12) (N := 52) hx hb hts inG_X12 hown hK hP 1 rfl rfl 45 (by decide) (hts _ fl_X12_95) (fun _ h9 => h9) rfl dX12_comesFrom_71 ?_
        refine lv_bipush (v := 64) hx hb dX12_comesFrom_74 (by decide) ?_
        refine lv_iload_n hx hb dX12_comesFrom_76 rfl (lv_at hl 4 rfl) ?_
        refine lv_iconst (v := 1) hx hb dX12_comesFrom_77 (by decide) ?_
        refine lv_iadd hx hb dX12_comesFrom_78 ?_
        have t_23 : (p_1 + 1).toInt = p_1.toInt + 1 := g5_iadd (a := p_1.toInt) (b := 1) (by rfl) (by decide) (by omega) (by omega)
        refine lv_imul hx hb dX12_comesFrom_79 ?_
        have t_24 : (64 * (p_1 + 1)).toInt = 64 * (p_1 + 1).toInt := g5_imul (a := 64) (b := (p_1 + 1).toInt) (by decide) (by rfl) (by omega) (by omega)
        refine lv_iload hx hb dX12_comesFrom_80 (lv_at hl 1 rfl) ?_
        refine lv_iadd hx hb dX12_comesFrom_82 ?_
        have t_25 : ((64 * (p_1 + 1)) + z7).toInt = (64 * (p_1 + 1)).toInt + z7.toInt := g5_iadd (a := (64 * (p_1 + 1)).toInt) (b := z7.toInt) (by rfl) (by rfl) (by omega) (by omega)
        refine va_iald hx hb hK hP 2 0 rfl rfl (i := ((64 * (p_1 + 1)) + z7)) (vp_in_iff.mpr ⟨by omega, by omega⟩) dX12_comesFrom_83 ?_
        have hr_26 : 0 ≤ (v_me ((64 * (p_1 + 1)) + z7).toNatClampNeg).toInt ∧ ((v_me ((64 * (p_1 + 1)) + z7).toNatClampNeg).toInt < 32 ∨ 64 ≤ (v_me ((64 * (p_1 + 1)) + z7).toNatClampNeg).toInt) ∧ (v_me ((64 * (p_1 + 1)) + z7).toNatClampNeg).toInt ≤ 127 := r_me (((64 * (p_1 + 1)) + z7).toNatClampNeg)
        have h64_27 : (v_me ((64 * (p_1 + 1)) + z7).toNatClampNeg).toInt < 64 := by have e9 : ((64 * (p_1 + 1)) + z7).toNatClampNeg = (64 * (p_1 + 1).toInt + z7.toInt).toNat := (by have zz := g5_clamp ((64 * (p_1 + 1)) + z7); omega); rw [e9]; rcases i_6 with q | q; omega; exact q
        refine lv_ior hx hb dX12_comesFrom_84 ?_
        have ho_28 : 0 ≤ (k21_5 ||| (v_me ((64 * (p_1 + 1)) + z7).toNatClampNeg)).toInt ∧ (k21_5 ||| (v_me ((64 * (p_1 + 1)) + z7).toNatClampNeg)).toInt < 32 := me_low ⟨by omega, by omega⟩ ⟨by omega, by omega⟩
        refine lv_iadd hx hb dX12_comesFrom_85 ?_
        have t_29 : ((32 * ((64 * (p_1 + 1)) + z7)) + (k21_5 ||| (v_me ((64 * (p_1 + 1)) + z7).toNatClampNeg))).toInt = (32 * ((64 * (p_1 + 1)) + z7)).toInt + (k21_5 ||| (v_me ((64 * (p_1 + 1)) + z7).toNatClampNeg)).toInt := g5_iadd (a := (32 * ((64 * (p_1 + 1)) + z7)).toInt) (b := (k21_5 ||| (v_me ((64 * (p_1 + 1)) + z7).toNatClampNeg)).toInt) (by rfl) (by rfl) (by omega) (by omega)
        refine va_lald hx hb hK hP 0 1 rfl rfl (i := ((32 * ((64 * (p_1 + 1)) + z7)) + (k21_5 ||| (v_me ((64 * (p_1 + 1)) + z7).toNatClampNeg)))) (vp_in_iff.mpr ⟨by omega, by omega⟩) dX12_comesFrom_86 ?_
        refine lv_ladd hx hb dX12_comesFrom_87 ?_
        refine va_last hx hb hK hP hD hS 0 1 rfl rfl (i := ((32 * ((64 * p_1) + p_2)) + k21_5)) (x := ((k21_be ((32 * ((64 * p_1) + p_2)) + k21_5).toNatClampNeg) + (k21_be ((32 * ((64 * (p_1 + 1)) + z7)) + (k21_5 ||| (v_me ((64 * (p_1 + 1)) + z7).toNatClampNeg))).toNatClampNeg))) (vp_in_iff.mpr ⟨by omega, by omega⟩) dX12_comesFrom_88 (fun H locs hP hD hS => ?_)
        refine g5_rs [(b_be, (arJ G 49152 (vp_updL k21_be ((32 * ((64 * p_1) + p_2)) + k21_5).toNatClampNeg ((k21_be ((32 * ((64 * p_1) + p_2)) + k21_5).toNatClampNeg) + (k21_be ((32 * ((64 * (p_1 + 1)) + z7)) + (k21_5 ||| (v_me ((64 * (p_1 + 1)) + z7).toNatClampNeg))).toNatClampNeg))))), (b_o, (oc12 u_th u_sa b_rf b_ro b_im b_ke u_fd b_tp u_td u_fr u_to u_so u_wo u_fa u_bd u_nc b_nl u_co b_op b_ar u_le b_pi b_pa u_pd u_od b_ws b_hw u_la b_se b_re u_bk u_va u_su u_ce u_ho u_wy u_bt u_ps b_pt u_tg u_sn b_ip u_ic b_ah b_be b_me u_wd b_tr b_ld u_st b_wn u_id)), (b_me, (arI G 1536 v_me))] hP hD (fun hP hD => ?_)
        refine lv_iinc (v := (k21_5 + 1)) (lv' := [(5, .int (k21_5 + 1)), (4, .int z7), (3, .int k2_3), (0, .ref b_o), (1, .int p_1), (2, .int p_2)]) hx hb dX12_comesFrom_89 hl (k := 0) rfl rfl (by decide) rfl (fun ls hl => ?_)
        have t_30 : (k21_5 + 1).toInt = k21_5.toInt + 1 := g5_iadd (a := k21_5.toInt) (b := 1) rfl (by decide) (by omega) (by omega)
        refine lv_goto (tgt := 21) hx hb dX12_comesFrom_92 (by decide) ?_
        exact ih_21_10 ((k21_5 + 1), (vp_updL k21_be ((32 * ((64 * p_1) + p_2)) + k21_5).toNatClampNeg ((k21_be ((32 * ((64 * p_1) + p_2)) + k21_5).toNatClampNeg) + (k21_be ((32 * ((64 * (p_1 + 1)) + z7)) + (k21_5 ||| (v_me ((64 * (p_1 + 1)) + z7).toNatClampNeg))).toNatClampNeg)))) ls H locs (show Int.toNat (32 - (k21_5 + 1).toInt) < Int.toNat (32 - k21_5.toInt) from g_up (show k21_5.toInt < (k21_5 + 1).toInt by omega) (show k21_5.toInt < 32 by omega)) ⟨lv_sub hl [0, 1, 2, 3, 4, 5] rfl, hP, hD, hS, ⟨by omega, by omega⟩⟩
theorem dgX12_rowsAt_0 : ∀ r ∈ ([(0, (.lconst 0, 1)), (1, (.lstore_n 3, 1)), (2, (.iconst 0, 1)), (3, (.istore 5, 2)), (5, (.iload 5, 2)), (7, (.bipush 32, 2)), (9, (.if_icmp .ge 41, 3)), (12, (.bipush 32, 2)), (14, (.bipush 64, 2)), (16, (.iload_n 1, 1)), (17, (.imul, 1)), (18, (.iload_n 2, 1)), (19, (.iadd, 1)), (20, (.imul, 1)), (21, (.iload 5, 2)), (23, (.iadd, 1)), (24, (.istore 6, 2)), (26, (.lload_n 3, 1)), (27, (.aload_n 0, 1)), (28, (.getfield 89, 3)), (31, (.iload 6, 2)), (33, (.laload, 1)), (34, (.aload_n 0, 1)), (35, (.getfield 92, 3)), (38, (.iload 6, 2)), (40, (.laload, 1)), (41, (.lmul, 1)), (42, (.ladd, 1)), (43, (.lstore_n 3, 1)), (44, (.iinc 5 1, 3)), (47, (.goto (-42), 3)), (50, (.lload_n 3, 1)), (51, (.lreturn, 1))] : List (Nat × (Instr × Nat))), decode cX12_rowsAt r.1 = .ok r.2 := by decide +kernel
theorem dX12_rowsAt_0 : decode cX12_rowsAt 0 = .ok (.lconst 0, 1) := dgX12_rowsAt_0 (0, (.lconst 0, 1)) (List.mem_of_getElem? (i := 0) rfl)
theorem dX12_rowsAt_1 : decode cX12_rowsAt 1 = .ok (.lstore_n 3, 1) := dgX12_rowsAt_0 (1, (.lstore_n 3, 1)) (List.mem_of_getElem? (i := 1) rfl)
theorem dX12_rowsAt_2 : decode cX12_rowsAt 2 = .ok (.iconst 0, 1) := dgX12_rowsAt_0 (2, (.iconst 0, 1)) (List.mem_of_getElem? (i := 2) rfl)
theorem dX12_rowsAt_3 : decode cX12_rowsAt 3 = .ok (.istore 5, 2) := dgX12_rowsAt_0 (3, (.istore 5, 2)) (List.mem_of_getElem? (i := 3) rfl)
theorem dX12_rowsAt_5 : decode cX12_rowsAt 5 = .ok (.iload 5, 2) := dgX12_rowsAt_0 (5, (.iload 5, 2)) (List.mem_of_getElem? (i := 4) rfl)
theorem dX12_rowsAt_7 : decode cX12_rowsAt 7 = .ok (.bipush 32, 2) := dgX12_rowsAt_0 (7, (.bipush 32, 2)) (List.mem_of_getElem? (i := 5) rfl)
theorem dX12_rowsAt_9 : decode cX12_rowsAt 9 = .ok (.if_icmp .ge 41, 3) := dgX12_rowsAt_0 (9, (.if_icmp .ge 41, 3)) (List.mem_of_getElem? (i := 6) rfl)
theorem dX12_rowsAt_12 : decode cX12_rowsAt 12 = .ok (.bipush 32, 2) := dgX12_rowsAt_0 (12, (.bipush 32, 2)) (List.mem_of_getElem? (i := 7) rfl)
theorem dX12_rowsAt_14 : decode cX12_rowsAt 14 = .ok (.bipush 64, 2) := dgX12_rowsAt_0 (14, (.bipush 64, 2)) (List.mem_of_getElem? (i := 8) rfl)
theorem dX12_rowsAt_16 : decode cX12_rowsAt 16 = .ok (.iload_n 1, 1) := dgX12_rowsAt_0 (16, (.iload_n 1, 1)) (List.mem_of_getElem? (i := 9) rfl)
theorem dX12_rowsAt_17 : decode cX12_rowsAt 17 = .ok (.imul, 1) := dgX12_rowsAt_0 (17, (.imul, 1)) (List.mem_of_getElem? (i := 10) rfl)
theorem dX12_rowsAt_18 : decode cX12_rowsAt 18 = .ok (.iload_n 2, 1) := dgX12_rowsAt_0 (18, (.iload_n 2, 1)) (List.mem_of_getElem? (i := 11) rfl)
theorem dX12_rowsAt_19 : decode cX12_rowsAt 19 = .ok (.iadd, 1) := dgX12_rowsAt_0 (19, (.iadd, 1)) (List.mem_of_getElem? (i := 12) rfl)
theorem dX12_rowsAt_20 : decode cX12_rowsAt 20 = .ok (.imul, 1) := dgX12_rowsAt_0 (20, (.imul, 1)) (List.mem_of_getElem? (i := 13) rfl)
theorem dX12_rowsAt_21 : decode cX12_rowsAt 21 = .ok (.iload 5, 2) := dgX12_rowsAt_0 (21, (.iload 5, 2)) (List.mem_of_getElem? (i := 14) rfl)
theorem dX12_rowsAt_23 : decode cX12_rowsAt 23 = .ok (.iadd, 1) := dgX12_rowsAt_0 (23, (.iadd, 1)) (List.mem_of_getElem? (i := 15) rfl)
theorem dX12_rowsAt_24 : decode cX12_rowsAt 24 = .ok (.istore 6, 2) := dgX12_rowsAt_0 (24, (.istore 6, 2)) (List.mem_of_getElem? (i := 16) rfl)
theorem dX12_rowsAt_26 : decode cX12_rowsAt 26 = .ok (.lload_n 3, 1) := dgX12_rowsAt_0 (26, (.lload_n 3, 1)) (List.mem_of_getElem? (i := 17) rfl)
theorem dX12_rowsAt_27 : decode cX12_rowsAt 27 = .ok (.aload_n 0, 1) := dgX12_rowsAt_0 (27, (.aload_n 0, 1)) (List.mem_of_getElem? (i := 18) rfl)
theorem dX12_rowsAt_28 : decode cX12_rowsAt 28 = .ok (.getfield 89, 3) := dgX12_rowsAt_0 (28, (.getfield 89, 3)) (List.mem_of_getElem? (i := 19) rfl)
theorem dX12_rowsAt_31 : decode cX12_rowsAt 31 = .ok (.iload 6, 2) := dgX12_rowsAt_0 (31, (.iload 6, 2)) (List.mem_of_getElem? (i := 20) rfl)
theorem dX12_rowsAt_33 : decode cX12_rowsAt 33 = .ok (.laload, 1) := dgX12_rowsAt_0 (33, (.laload, 1)) (List.mem_of_getElem? (i := 21) rfl)
theorem dX12_rowsAt_34 : decode cX12_rowsAt 34 = .ok (.aload_n 0, 1) := dgX12_rowsAt_0 (34, (.aload_n 0, 1)) (List.mem_of_getElem? (i := 22) rfl)
theorem dX12_rowsAt_35 : decode cX12_rowsAt 35 = .ok (.getfield 92, 3) := dgX12_rowsAt_0 (35, (.getfield 92, 3)) (List.mem_of_getElem? (i := 23) rfl)
theorem dX12_rowsAt_38 : decode cX12_rowsAt 38 = .ok (.iload 6, 2) := dgX12_rowsAt_0 (38, (.iload 6, 2)) (List.mem_of_getElem? (i := 24) rfl)
theorem dX12_rowsAt_40 : decode cX12_rowsAt 40 = .ok (.laload, 1) := dgX12_rowsAt_0 (40, (.laload, 1)) (List.mem_of_getElem? (i := 25) rfl)
theorem dX12_rowsAt_41 : decode cX12_rowsAt 41 = .ok (.lmul, 1) := dgX12_rowsAt_0 (41, (.lmul, 1)) (List.mem_of_getElem? (i := 26) rfl)
theorem dX12_rowsAt_42 : decode cX12_rowsAt 42 = .ok (.ladd, 1) := dgX12_rowsAt_0 (42, (.ladd, 1)) (List.mem_of_getElem? (i := 27) rfl)
theorem dX12_rowsAt_43 : decode cX12_rowsAt 43 = .ok (.lstore_n 3, 1) := dgX12_rowsAt_0 (43, (.lstore_n 3, 1)) (List.mem_of_getElem? (i := 28) rfl)
theorem dX12_rowsAt_44 : decode cX12_rowsAt 44 = .ok (.iinc 5 1, 3) := dgX12_rowsAt_0 (44, (.iinc 5 1, 3)) (List.mem_of_getElem? (i := 29) rfl)
theorem dX12_rowsAt_47 : decode cX12_rowsAt 47 = .ok (.goto (-42), 3) := dgX12_rowsAt_0 (47, (.goto (-42), 3)) (List.mem_of_getElem? (i := 30) rfl)
theorem dX12_rowsAt_50 : decode cX12_rowsAt 50 = .ok (.lload_n 3, 1) := dgX12_rowsAt_0 (50, (.lload_n 3, 1)) (List.mem_of_getElem? (i := 31) rfl)
theorem dX12_rowsAt_51 : decode cX12_rowsAt 51 = .ok (.lreturn, 1) := dgX12_rowsAt_0 (51, (.lreturn, 1)) (List.mem_of_getElem? (i := 32) rfl)
