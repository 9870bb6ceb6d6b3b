theorem dgX12_isGlass_0 : ∀ r ∈ ([(0, (.iload_n 1, 1)), (1, (.i2l, 1)), (2, (.lconst 0, 1)), (3, (.aload_n 0, 1)), (4, (.getfield 13, 3)), (7, (.iconst 0, 1)), (8, (.iaload, 1)), (9, (.i2l, 1)), (10, (.lconst 1, 1)), (11, (.lsub, 1)), (12, (.invokestatic 121, 3)), (15, (.ireturn, 1))] : List (Nat × (Instr × Nat))), decode cX12_isGlass r.1 = .ok r.2 := by decide +kernel
theorem dX12_isGlass_0 : decode cX12_isGlass 0 = .ok (.iload_n 1, 1) := dgX12_isGlass_0 (0, (.iload_n 1, 1)) (List.mem_of_getElem? (i := 0) rfl)
theorem dX12_isGlass_1 : decode cX12_isGlass 1 = .ok (.i2l, 1) := dgX12_isGlass_0 (1, (.i2l, 1)) (List.mem_of_getElem? (i := 1) rfl)
theorem dX12_isGlass_2 : decode cX12_isGlass 2 = .ok (.lconst 0, 1) := dgX12_isGlass_0 (2, (.lconst 0, 1)) (List.mem_of_getElem? (i := 2) rfl)
theorem dX12_isGlass_3 : decode cX12_isGlass 3 = .ok (.aload_n 0, 1) := dgX12_isGlass_0 (3, (.aload_n 0, 1)) (List.mem_of_getElem? (i := 3) rfl)
theorem dX12_isGlass_4 : decode cX12_isGlass 4 = .ok (.getfield 13, 3) := dgX12_isGlass_0 (4, (.getfield 13, 3)) (List.mem_of_getElem? (i := 4) rfl)
theorem dX12_isGlass_7 : decode cX12_isGlass 7 = .ok (.iconst 0, 1) := dgX12_isGlass_0 (7, (.iconst 0, 1)) (List.mem_of_getElem? (i := 5) rfl)
theorem dX12_isGlass_8 : decode cX12_isGlass 8 = .ok (.iaload, 1) := dgX12_isGlass_0 (8, (.iaload, 1)) (List.mem_of_getElem? (i := 6) rfl)
theorem dX12_isGlass_9 : decode cX12_isGlass 9 = .ok (.i2l, 1) := dgX12_isGlass_0 (9, (.i2l, 1)) (List.mem_of_getElem? (i := 7) rfl)
theorem dX12_isGlass_10 : decode cX12_isGlass 10 = .ok (.lconst 1, 1) := dgX12_isGlass_0 (10, (.lconst 1, 1)) (List.mem_of_getElem? (i := 8) rfl)
theorem dX12_isGlass_11 : decode cX12_isGlass 11 = .ok (.lsub, 1) := dgX12_isGlass_0 (11, (.lsub, 1)) (List.mem_of_getElem? (i := 9) rfl)
theorem dX12_isGlass_12 : decode cX12_isGlass 12 = .ok (.invokestatic 121, 3) := dgX12_isGlass_0 (12, (.invokestatic 121, 3)) (List.mem_of_getElem? (i := 10) rfl)
theorem dX12_isGlass_15 : decode cX12_isGlass 15 = .ok (.ireturn, 1) := dgX12_isGlass_0 (15, (.ireturn, 1)) (List.mem_of_getElem? (i := 11) rfl)
theorem dgX12_isBody_0 : ∀ r ∈ ([(0, (.iload_n 1, 1)), (1, (.i2l, 1)), (2, (.lconst 0, 1)), (3, (.aload_n 0, 1)), (4, (.getfield 13, 3)), (7, (.iconst 1, 1)), (8, (.iaload, 1)), (9, (.i2l, 1)), (10, (.lconst 1, 1)), (11, (.lsub, 1)), (12, (.invokestatic 121, 3)), (15, (.ireturn, 1))] : List (Nat × (Instr × Nat))), decode cX12_isBody r.1 = .ok r.2 := by decide +kernel
theorem dX12_isBody_0 : decode cX12_isBody 0 = .ok (.iload_n 1, 1) := dgX12_isBody_0 (0, (.iload_n 1, 1)) (List.mem_of_getElem? (i := 0) rfl)
theorem dX12_isBody_1 : decode cX12_isBody 1 = .ok (.i2l, 1) := dgX12_isBody_0 (1, (.i2l, 1)) (List.mem_of_getElem? (i := 1) rfl)
theorem dX12_isBody_2 : decode cX12_isBody 2 = .ok (.lconst 0, 1) := dgX12_isBody_0 (2, (.lconst 0, 1)) (List.mem_of_getElem? (i := 2) rfl)
theorem dX12_isBody_3 : decode cX12_isBody 3 = .ok (.aload_n 0, 1) := dgX12_isBody_0 (3, (.aload_n 0, 1)) (List.mem_of_getElem? (i := 3) rfl)
theorem dX12_isBody_4 : decode cX12_isBody 4 = .ok (.getfield 13, 3) := dgX12_isBody_0 (4, (.getfield 13, 3)) (List.mem_of_getElem? (i := 4) rfl)
theorem dX12_isBody_7 : decode cX12_isBody 7 = .ok (.iconst 1, 1) := dgX12_isBody_0 (7, (.iconst 1, 1)) (List.mem_of_getElem? (i := 5) rfl)
theorem dX12_isBody_8 : decode cX12_isBody 8 = .ok (.iaload, 1) := dgX12_isBody_0 (8, (.iaload, 1)) (List.mem_of_getElem? (i := 6) rfl)
theorem dX12_isBody_9 : decode cX12_isBody 9 = .ok (.i2l, 1) := dgX12_isBody_0 (9, (.i2l, 1)) (List.mem_of_getElem? (i := 7) rfl)
theorem dX12_isBody_10 : decode cX12_isBody 10 = .ok (.lconst 1, 1) := dgX12_isBody_0 (10, (.lconst 1, 1)) (List.mem_of_getElem? (i := 8) rfl)
theorem dX12_isBody_11 : decode cX12_isBody 11 = .ok (.lsub, 1) := dgX12_isBody_0 (11, (.lsub, 1)) (List.mem_of_getElem? (i := 9) rfl)
theorem dX12_isBody_12 : decode cX12_isBody 12 = .ok (.invokestatic 121, 3) := dgX12_isBody_0 (12, (.invokestatic 121, 3)) (List.mem_of_getElem? (i := 10) rfl)
theorem dX12_isBody_15 : decode cX12_isBody 15 = .ok (.ireturn, 1) := dgX12_isBody_0 (15, (.ireturn, 1)) (List.mem_of_getElem? (i := 11) rfl)
set_option maxHeartbeats 4000000 in
set_option maxRecDepth 100000 in
theorem n_isBody (l : Launch) (G : g5_G) (b_o b_ro b_rf b_im b_ke b_tp b_nl b_op b_ar b_pi b_pa b_ws b_hw b_se b_re b_pt b_ip b_ah b_be b_me b_tr b_ld b_wn : Nat) (sz : Nat) (u_th : Int32) (u_sa : Int32) (u_fd : Int32) (u_td : Int32) (u_fr : Int32) (u_to : Int32) (u_so : Int32) (u_fa : Int32) (u_bd : Int32) (u_nc : Int32) (u_co : Int32) (u_le : Int32) (u_pd : Int32) (u_od : Int32) (u_la : Int32) (u_bk : Int32) (u_ce : Int32) (u_ho : Int32) (u_wy : Int32) (u_bt : Int32) (u_ps : Int32) (u_tg : Int32) (u_sn : Int32) (u_ic : Int32) (u_wd : Int32) (u_id : Int32) (p_1 : Int32) (u_wo : Int64) (u_va : Int64) (u_su : Int64) (u_st : Int64) (v_ro : Nat → Int32) (h_u_td : 0 ≤ u_td.toInt ∧ u_td.toInt ≤ 400) (h_u_fr : 0 ≤ u_fr.toInt ∧ u_fr.toInt ≤ 400) (h_u_to : 0 ≤ u_to.toInt ∧ u_to.toInt ≤ 400) (h_u_bd : 0 ≤ u_bd.toInt ∧ u_bd.toInt ≤ 1) (h_u_nc : 0 ≤ u_nc.toInt ∧ u_nc.toInt ≤ 12) (h_u_co : 0 ≤ u_co.toInt ∧ u_co.toInt ≤ 400) (h_u_pd : 0 ≤ u_pd.toInt ∧ u_pd.toInt ≤ 400) (h_u_la : 0 ≤ u_la.toInt ∧ u_la.toInt ≤ 4840) (h_u_bk : 0 ≤ u_bk.toInt ∧ u_bk.toInt ≤ 1) (h_u_ce : 0 ≤ u_ce.toInt ∧ u_ce.toInt ≤ 63) (h_u_ho : 0 ≤ u_ho.toInt ∧ u_ho.toInt ≤ 23) (h_u_wy : 0 ≤ u_wy.toInt ∧ u_wy.toInt ≤ 3) (h_u_bt : 0 ≤ u_bt.toInt ∧ u_bt.toInt ≤ 1000000) (h_u_ps : 0 ≤ u_ps.toInt ∧ u_ps.toInt ≤ 200) (h_u_ic : 0 ≤ u_ic.toInt ∧ u_ic.toInt ≤ 1) (h_u_id : 0 ≤ u_id.toInt ∧ u_id.toInt ≤ 1) (r_ro : MI v_ro) : Met l yX12_isBody (wsG yX12_isBody cX12_isBody 2 (some .boolean)) ({ frames := 1, cells := 0, slots := 0, locals := 25 }) (va_Pc [.ref b_o, .int p_1] (g5_P G [(b_o, (oc12 u_th u_sa b_rf b_ro b_im b_ke u_fd b_tp u_td u_fr u_to u_so u_wo u_fa u_bd u_nc b_nl u_co b_op b_ar u_le b_pi b_pa u_pd u_od b_ws b_hw u_la b_se b_re u_bk u_va u_su u_ce u_ho u_wy u_bt u_ps b_pt u_tg u_sn b_ip u_ic b_ah b_be b_me u_wd b_tr b_ld u_st b_wn u_id)), (b_ro, (arI G 5740 v_ro))] sz)) (va_Qi (fun (r : Int32) (u : va_W) => ((0 ≤ p_1.toInt ∧ p_1.toInt ≤ 4) ∧ (r = 1) ∧ (u = [(b_o, (oc12 u_th u_sa b_rf b_ro b_im b_ke u_fd b_tp u_td u_fr u_to u_so u_wo u_fa u_bd u_nc b_nl u_co b_op b_ar u_le b_pi b_pa u_pd u_od b_ws b_hw u_la b_se b_re u_bk u_va u_su u_ce u_ho u_wy u_bt u_ps b_pt u_tg u_sn b_ip u_ic b_ah b_be b_me u_wd b_tr b_ld u_st b_wn u_id)), (b_ro, (arI G 5740 v_ro))])) ∨ ((r = 0) ∧ (u = [(b_o, (oc12 u_th u_sa b_rf b_ro b_im b_ke u_fd b_tp u_td u_fr u_to u_so u_wo u_fa u_bd u_nc b_nl u_co b_op b_ar u_le b_pi b_pa u_pd u_od b_ws b_hw u_la b_se b_re u_bk u_va u_su u_ce u_ho u_wy u_bt u_ps b_pt u_tg u_sn b_ip u_ic b_ah b_be b_me u_wd b_tr b_ld u_st b_wn u_id)), (b_ro, (arI G 5740 v_ro))]))) (g5_B G (va_A [(b_o, (oc12 u_th u_sa b_rf b_ro b_im b_ke u_fd b_tp u_td u_fr u_to u_so u_wo u_fa u_bd u_nc b_nl u_co b_op b_ar u_le b_pi b_pa u_pd u_od b_ws b_hw u_la b_se b_re u_bk u_va u_su u_ce u_ho u_wy u_bt u_ps b_pt u_tg u_sn b_ip u_ic b_ah b_be b_me u_wd b_tr b_ld u_st b_wn u_id)), (b_ro, (arI G 5740 v_ro))] sz)) (va_A [(b_o, (oc12 u_th u_sa b_rf b_ro b_im b_ke u_fd b_tp u_td u_fr u_to u_so u_wo u_fa u_bd u_nc b_nl u_co b_op b_ar u_le b_pi b_pa u_pd u_od b_ws b_hw u_la b_se b_re u_bk u_va u_su u_ce u_ho u_wy u_bt u_ps b_pt u_tg u_sn b_ip u_ic b_ah b_be b_me u_wd b_tr b_ld u_st b_wn u_id)), (b_ro, (arI G 5740 v_ro))] sz)) 0 0 (va_A [(b_o, (oc12 u_th u_sa b_rf b_ro b_im b_ke u_fd b_tp u_td u_fr u_to u_so u_wo u_fa u_bd u_nc b_nl u_co b_op b_ar u_le b_pi b_pa u_pd u_od b_ws b_hw u_la b_se b_re u_bk u_va u_su u_ce u_ho u_wy u_bt u_ps b_pt u_tg u_sn b_ip u_ic b_ah b_be b_me u_wd b_tr b_ld u_st b_wn u_id)), (b_ro, (arI G 5740 v_ro))] sz) := by
  refine Met.ofW (cc := cX12_isBody) (maxL := 2) (ret := (some .boolean)) (by decide) rfl ?_
  intro p e s m args below meth c s₁ B hml hv
  obtain ⟨rfl, hsz, hP, hK, hD0, hN, hT⟩ := hv
  have hx := B.exec
  have hb := B.bytes
  have hr := B.returns
  have hts : ∀ w ∈ tblG, w.before _ s = true := fun w h => atoms_spec (ws := (wsG yX12_isBody cX12_isBody 2 (some .boolean))) B.pre w (List.mem_cons_of_mem _ h)
  have hown : s.vm.findClass RX12 = some m.cls := findClass_of_methodNamed B.named
  have hlocks := B.notSynchronized
  subst hsz
  have hD := hD0.self (sz := s.heap.size)
  generalize hAe : va_A [(b_o, (oc12 u_th u_sa b_rf b_ro b_im b_ke u_fd b_tp u_td u_fr u_to u_so u_wo u_fa u_bd u_nc b_nl u_co b_op b_ar u_le b_pi b_pa u_pd u_od b_ws b_hw u_la b_se b_re u_bk u_va u_su u_ce u_ho u_wy u_bt u_ps b_pt u_tg u_sn b_ip u_ic b_ah b_be b_me u_wd b_tr b_ld u_st b_wn u_id)), (b_ro, (arI G 5740 v_ro))] s.heap.size = A at hD hT ⊢
  have hA : ∀ q : Nat, s.heap.size ≤ q → A q := fun q h => by rw [← hAe]; exact Or.inr h
  have hS : va_S A s.heap s.heap [] := va_S.rf
  have hP : va_P G.1 vwCl [(b_o, (oc12 u_th u_sa b_rf b_ro b_im b_ke u_fd b_tp u_td u_fr u_to u_so u_wo u_fa u_bd u_nc b_nl u_co b_op b_ar u_le b_pi b_pa u_pd u_od b_ws b_hw u_la b_se b_re u_bk u_va u_su u_ce u_ho u_wy u_bt u_ps b_pt u_tg u_sn b_ip u_ic b_ah b_be b_me u_wd b_tr b_ld u_st b_wn u_id)), (b_ro, (arI G 5740 v_ro))] s.heap := hP
  have hl := lv_entry ([.ref b_o, .int p_1]) (n := 2) (Nat.le_of_ble_eq_true rfl)
  rw [lg_entry_eq]
  generalize (lg_sl ([.ref b_o, .int p_1]) ++ List.replicate (2 - (lg_sl ([.ref b_o, .int p_1])).length) Slot.unset).toArray = ls at hl ⊢
  have hl : lv_has ls 2 [(0, .ref b_o), (1, .int p_1)] := hl
  refine lv_iload_n hx hb dX12_isBody_0 rfl (lv_at hl 1 rfl) ?_
  refine lv_i2l (v := p_1.toInt64) hx hb dX12_isBody_1 rfl ?_
  refine lv_lconst (v := 0) hx hb dX12_isBody_2 (by decide) ?_
  refine lv_aload_n hx hb dX12_isBody_3 rfl (lv_at hl 0 rfl) ?_
  refine va_get (D := G.1) (ci := 12) (v := .ref b_ro) (C := RX12) (T := TX12) (N := 52) hx hb hts inG_X12 hown hK hP 0 rfl rfl 3 (by decide) (hts _ fl_X12_13) (fun _ h9 => h9) rfl dX12_isBody_4 ?_
  refine lv_iconst (v := 1) hx hb dX12_isBody_7 (by decide) ?_
  refine va_iald hx hb hK hP 1 0 rfl rfl (i := 1) (by unfold vp_in; decide) dX12_isBody_8 ?_
  refine g5_ti (v := (v_ro 1)) rfl ?_
  have hr_1 : 0 ≤ (v_ro 1).toInt ∧ (v_ro 1).toInt ≤ 5 := mi_1 r_ro
  refine lv_i2l (v := (v_ro 1).toInt64) hx hb dX12_isBody_9 rfl ?_
  refine lv_lconst (v := 1) hx hb dX12_isBody_10 (by decide) ?_
  refine lv_lsub hx hb dX12_isBody_11 ?_
  obtain ⟨hPc, hDc, hFc⟩ := g5_sub3 (wc := []) hP hD hS hA [] (by decide) rfl
  refine va_calli (va_runS (As := [.long p_1.toInt64, .long 0, .long (((v_ro 1).toInt64) - 1)]) (rest := []) ⟨hx, hb, hml, hown, hts⟩ (n_in_n l G s.heap.size p_1 (v_ro 1) ⟨by omega, by omega⟩) (va_cwS 3 hts gS_X12_121 rfl rfl rfl hs_X12_in ⟨Nat.le_of_ble_eq_true rfl, Nat.le_of_ble_eq_true rfl⟩) (g5_preS hPc hK hDc hN hT hS hFc) rfl rfl hl.1 rfl (lv_room (Nat.le_of_ble_eq_true rfl)) dX12_isBody_12 ⟨Nat.le_of_ble_eq_true rfl, Nat.le_of_ble_eq_true rfl⟩) hS (fun q _ h => hFc q h) hFc (fun r u t H1 locs ht hvm hw hB hz1 hk1 hS => ?_)
  obtain ⟨hP1, hD1⟩ := hB
  rw [ht] at hP1
  rcases hw with ⟨i_2, rfl, rfl⟩ | ⟨i_3, rfl, rfl⟩
  ·
    have i_2 : p_1.toInt < 0 ∨ (v_ro 1).toInt ≤ p_1.toInt := i_2
    have hP := g5_same hP hk1
    generalize H1 = H at hP hS ⊢
    exact W.zret (v := 0) hx hb hr rfl (fun t ht hW => ⟨⟨0, [(b_o, (oc12 u_th u_sa b_rf b_ro b_im b_ke u_fd b_tp u_td u_fr u_to u_so u_wo u_fa u_bd u_nc b_nl u_co b_op b_ar u_le b_pi b_pa u_pd u_od b_ws b_hw u_la b_se b_re u_bk u_va u_su u_ce u_ho u_wy u_bt u_ps b_pt u_tg u_sn b_ip u_ic b_ah b_be b_me u_wd b_tr b_ld u_st b_wn u_id)), (b_ro, (arI G 5740 v_ro))], rfl, Or.inr (⟨rfl, rfl⟩), by rw [ht]; exact hP.sub [0, 1] rfl, hD.sub [0, 1] (by decide) rfl⟩, hS.F ht⟩) hS.2.2 dX12_isBody_15
  ·
    have i_3 : 0 ≤ p_1.toInt ∧ p_1.toInt < (v_ro 1).toInt := i_3
    have hP := g5_same hP hk1
    generalize H1 = H at hP hS ⊢
    exact W.zret (v := 1) hx hb hr rfl (fun t ht hW => ⟨⟨1, [(b_o, (oc12 u_th u_sa b_rf b_ro b_im b_ke u_fd b_tp u_td u_fr u_to u_so u_wo u_fa u_bd u_nc b_nl u_co b_op b_ar u_le b_pi b_pa u_pd u_od b_ws b_hw u_la b_se b_re u_bk u_va u_su u_ce u_ho u_wy u_bt u_ps b_pt u_tg u_sn b_ip u_ic b_ah b_be b_me u_wd b_tr b_ld u_st b_wn u_id)), (b_ro, (arI G 5740 v_ro))], rfl, Or.inl (⟨by omega, rfl, rfl⟩), by rw [ht]; exact hP.sub [0, 1] rfl, hD.sub [0, 1] (by decide) rfl⟩, hS.F ht⟩) hS.2.2 dX12_isBody_15
theorem dgX12_turn_0 : ∀ r ∈ ([(0, (.aload_n 0, 1)), (1, (.iconst 0, 1)), (2, (.putfield 107, 3)), (5, (.iload_n 2, 1)), (6, (.iload_n 3, 1)), (7, (.invokestatic 163, 3)), (10, (.ifCond .ne 9, 3)), (13, (.aload_n 0, 1)), (14, (.iconst (-1), 1)), (15, (.invokevirtual 125, 3)), (18, (.ireturn, 1)), (19, (.aload_n 0, 1)), (20, (.iload_n 1, 1)), (21, (.invokevirtual 170, 3)), (24, (.ifCond .eq 21, 3)), (27, (.aload_n 0, 1)), (28, (.bipush 80, 2)), (30, (.iconst 5, 1)), (31, (.iload_n 1, 1)), (32, (.imul, 1)), (33, (.iadd, 1)), (34, (.iconst 1, 1)), (35, (.iadd, 1)), (36, (.iload_n 2, 1)), (37, (.iadd, 1)), (38, (.iload_n 3, 1)), (39, (.invokevirtual 151, 3)), (42, (.goto 9, 3)), (45, (.aload_n 0, 1)), (46, (.bipush (-2), 2)), (48, (.invokevirtual 125, 3)), (51, (.ireturn, 1))] : List (Nat × (Instr × Nat))), decode cX12_turn r.1 = .ok r.2 := by decide +kernel
theorem dX12_turn_0 : decode cX12_turn 0 = .ok (.aload_n 0, 1) := dgX12_turn_0 (0, (.aload_n 0, 1)) (List.mem_of_getElem? (i := 0) rfl)
theorem dX12_turn_1 : decode cX12_turn 1 = .ok (.iconst 0, 1) := dgX12_turn_0 (1, (.iconst 0, 1)) (List.mem_of_getElem? (i := 1) rfl)
theorem dX12_turn_2 : decode cX12_turn 2 = .ok (.putfield 107, 3) := dgX12_turn_0 (2, (.putfield 107, 3)) (List.mem_of_getElem? (i := 2) rfl)
theorem dX12_turn_5 : decode cX12_turn 5 = .ok (.iload_n 2, 1) := dgX12_turn_0 (5, (.iload_n 2, 1)) (List.mem_of_getElem? (i := 3) rfl)
theorem dX12_turn_6 : decode cX12_turn 6 = .ok (.iload_n 3, 1) := dgX12_turn_0 (6, (.iload_n 3, 1)) (List.mem_of_getElem? (i := 4) rfl)
theorem dX12_turn_7 : decode cX12_turn 7 = .ok (.invokestatic 163, 3) := dgX12_turn_0 (7, (.invokestatic 163, 3)) (List.mem_of_getElem? (i := 5) rfl)
theorem dX12_turn_10 : decode cX12_turn 10 = .ok (.ifCond .ne 9, 3) := dgX12_turn_0 (10, (.ifCond .ne 9, 3)) (List.mem_of_getElem? (i := 6) rfl)
theorem dX12_turn_13 : decode cX12_turn 13 = .ok (.aload_n 0, 1) := dgX12_turn_0 (13, (.aload_n 0, 1)) (List.mem_of_getElem? (i := 7) rfl)
theorem dX12_turn_14 : decode cX12_turn 14 = .ok (.iconst (-1), 1) := dgX12_turn_0 (14, (.iconst (-1), 1)) (List.mem_of_getElem? (i := 8) rfl)
theorem dX12_turn_15 : decode cX12_turn 15 = .ok (.invokevirtual 125, 3) := dgX12_turn_0 (15, (.invokevirtual 125, 3)) (List.mem_of_getElem? (i := 9) rfl)
theorem dX12_turn_18 : decode cX12_turn 18 = .ok (.ireturn, 1) := dgX12_turn_0 (18, (.ireturn, 1)) (List.mem_of_getElem? (i := 10) rfl)
theorem dX12_turn_19 : decode cX12_turn 19 = .ok (.aload_n 0, 1) := dgX12_turn_0 (19, (.aload_n 0, 1)) (List.mem_of_getElem? (i := 11) rfl)
theorem dX12_turn_20 : decode cX12_turn 20 = .ok (.iload_n 1, 1) := dgX12_turn_0 (20, (.iload_n 1, 1)) (List.mem_of_getElem? (i := 12) rfl)
theorem dX12_turn_21 : decode cX12_turn 21 = .ok (.invokevirtual 170, 3) := dgX12_turn_0 (21, (.invokevirtual 170, 3)) (List.mem_of_getElem? (i := 13) rfl)
theorem dX12_turn_24 : decode cX12_turn 24 = .ok (.ifCond .eq 21, 3) := dgX12_turn_0 (24, (.ifCond .eq 21, 3)) (List.mem_of_getElem? (i := 14) rfl)
theorem dX12_turn_27 : decode cX12_turn 27 = .ok (.aload_n 0, 1) := dgX12_turn_0 (27, (.aload_n 0, 1)) (List.mem_of_getElem? (i := 15) rfl)
theorem dX12_turn_28 : decode cX12_turn 28 = .ok (.bipush 80, 2) := dgX12_turn_0 (28, (.bipush 80, 2)) (List.mem_of_getElem? (i := 16) rfl)
theorem dX12_turn_30 : decode cX12_turn 30 = .ok (.iconst 5, 1) := dgX12_turn_0 (30, (.iconst 5, 1)) (List.mem_of_getElem? (i := 17) rfl)
theorem dX12_turn_31 : decode cX12_turn 31 = .ok (.iload_n 1, 1) := dgX12_turn_0 (31, (.iload_n 1, 1)) (List.mem_of_getElem? (i := 18) rfl)
theorem dX12_turn_32 : decode cX12_turn 32 = .ok (.imul, 1) := dgX12_turn_0 (32, (.imul, 1)) (List.mem_of_getElem? (i := 19) rfl)
theorem dX12_turn_33 : decode cX12_turn 33 = .ok (.iadd, 1) := dgX12_turn_0 (33, (.iadd, 1)) (List.mem_of_getElem? (i := 20) rfl)
theorem dX12_turn_34 : decode cX12_turn 34 = .ok (.iconst 1, 1) := dgX12_turn_0 (34, (.iconst 1, 1)) (List.mem_of_getElem? (i := 21) rfl)
theorem dX12_turn_35 : decode cX12_turn 35 = .ok (.iadd, 1) := dgX12_turn_0 (35, (.iadd, 1)) (List.mem_of_getElem? (i := 22) rfl)
theorem dX12_turn_36 : decode cX12_turn 36 = .ok (.iload_n 2, 1) := dgX12_turn_0 (36, (.iload_n 2, 1)) (List.mem_of_getElem? (i := 23) rfl)
theorem dX12_turn_37 : decode cX12_turn 37 = .ok (.iadd, 1) := dgX12_turn_0 (37, (.iadd, 1)) (List.mem_of_getElem? (i := 24) rfl)
theorem dX12_turn_38 : decode cX12_turn 38 = .ok (.iload_n 3, 1) := dgX12_turn_0 (38, (.iload_n 3, 1)) (List.mem_of_getElem? (i := 25) rfl)
theorem dX12_turn_39 : decode cX12_turn 39 = .ok (.invokevirtual 151, 3) := dgX12_turn_0 (39, (.invokevirtual 151, 3)) (List.mem_of_getElem? (i := 26) rfl)
theorem dX12_turn_42 : decode cX12_turn 42 = .ok (.goto 9, 3) := dgX12_turn_0 (42, (.goto 9, 3)) (List.mem_of_getElem? (i := 27) rfl)
theorem dX12_turn_45 : decode cX12_turn 45 = .ok (.aload_n 0, 1) := dgX12_turn_0 (45, (.aload_n 0, 1)) (List.mem_of_getElem? (i := 28) rfl)
theorem dX12_turn_46 : decode cX12_turn 46 = .ok (.bipush (-2), 2) := dgX12_turn_0 (46, (.bipush (-2), 2)) (List.mem_of_getElem? (i := 29) rfl)
theorem dX12_turn_48 : decode cX12_turn 48 = .ok (.invokevirtual 125, 3) := dgX12_turn_0 (48, (.invokevirtual 125, 3)) (List.mem_of_getElem? (i := 30) rfl)
theorem dX12_turn_51 : decode cX12_turn 51 = .ok (.ireturn, 1) := dgX12_turn_0 (51, (.ireturn, 1)) (List.mem_of_getElem? (i := 31) rfl)
theorem ml_X12_170 : Cond.methodLink RX12 170 yX12_isGlass ∈ tblG := tg 1430 (by decide +kernel) (by decide +kernel)
theorem im_X12_isGlass : Cond.instanceMethod yX12_isGlass ∈ tblG := tg 1432 (by decide +kernel) (by decide +kernel)
theorem se_X12_isGlass : Cond.selects RX12 yX12_isGlass yX12_isGlass ∈ tblG := tg 38 (by decide +kernel) (by decide +kernel)
theorem cd_X12_isGlass : Cond.code yX12_isGlass cX12_isGlass 2 (some .boolean) ∈ tblG := tg 1433 (by decide +kernel) (by decide +kernel)
theorem gW_X12_isGlass : GoodIn tblG (wsG yX12_isGlass cX12_isGlass 2 (some .boolean)) := tgi cd_X12_isGlass
theorem gV_X12_170 : GoodIn tblG (wsV RX12 170 RX12 yX12_isGlass (wsG yX12_isGlass cX12_isGlass 2 (some .boolean))) := tgV ml_X12_170 im_X12_isGlass se_X12_isGlass ini_X12 gW_X12_isGlass
theorem hv_X12_isGlass : yX12_isGlass.cls = RX12 ∧ yX12_isGlass.cls ≠ "java/lang/invoke/MethodHandle" ∧ yX12_isGlass.cls ≠ "java/lang/invoke/VarHandle" ∧ (parseMethodDescriptor yX12_isGlass.desc).map (fun d => d.parameters.length) = some 1 := by decide +kernel
theorem dgX12_of_0 : ∀ r ∈ ([(0, (.aload_n 0, 1)), (1, (.iconst 0, 1)), (2, (.putfield 107, 3)), (5, (.aload_n 0, 1)), (6, (.iload_n 1, 1)), (7, (.invokevirtual 170, 3)), (10, (.ifCond .eq 24, 3)), (13, (.iload_n 2, 1)), (14, (.i2l, 1)), (15, (.lconst 0, 1)), (16, (.ldc2_w 173, 3)), (19, (.invokestatic 121, 3)), (22, (.ifCond .eq 12, 3)), (25, (.aload_n 0, 1)), (26, (.iload_n 1, 1)), (27, (.iload_n 2, 1)), (28, (.invokevirtual 134, 3)), (31, (.goto 4, 3)), (34, (.iconst (-1), 1)), (35, (.ireturn, 1))] : List (Nat × (Instr × Nat))), decode cX12_of r.1 = .ok r.2 := by decide +kernel
theorem dX12_of_0 : decode cX12_of 0 = .ok (.aload_n 0, 1) := dgX12_of_0 (0, (.aload_n 0, 1)) (List.mem_of_getElem? (i := 0) rfl)
theorem dX12_of_1 : decode cX12_of 1 = .ok (.iconst 0, 1) := dgX12_of_0 (1, (.iconst 0, 1)) (List.mem_of_getElem? (i := 1) rfl)
theorem dX12_of_2 : decode cX12_of 2 = .ok (.putfield 107, 3) := dgX12_of_0 (2, (.putfield 107, 3)) (List.mem_of_getElem? (i := 2) rfl)
theorem dX12_of_5 : decode cX12_of 5 = .ok (.aload_n 0, 1) := dgX12_of_0 (5, (.aload_n 0, 1)) (List.mem_of_getElem? (i := 3) rfl)
theorem dX12_of_6 : decode cX12_of 6 = .ok (.iload_n 1, 1) := dgX12_of_0 (6, (.iload_n 1, 1)) (List.mem_of_getElem? (i := 4) rfl)
theorem dX12_of_7 : decode cX12_of 7 = .ok (.invokevirtual 170, 3) := dgX12_of_0 (7, (.invokevirtual 170, 3)) (List.mem_of_getElem? (i := 5) rfl)
theorem dX12_of_10 : decode cX12_of 10 = .ok (.ifCond .eq 24, 3) := dgX12_of_0 (10, (.ifCond .eq 24, 3)) (List.mem_of_getElem? (i := 6) rfl)
theorem dX12_of_13 : decode cX12_of 13 = .ok (.iload_n 2, 1) := dgX12_of_0 (13, (.iload_n 2, 1)) (List.mem_of_getElem? (i := 7) rfl)
theorem dX12_of_14 : decode cX12_of 14 = .ok (.i2l, 1) := dgX12_of_0 (14, (.i2l, 1)) (List.mem_of_getElem? (i := 8) rfl)
theorem dX12_of_15 : decode cX12_of 15 = .ok (.lconst 0, 1) := dgX12_of_0 (15, (.lconst 0, 1)) (List.mem_of_getElem? (i := 9) rfl)
theorem dX12_of_16 : decode cX12_of 16 = .ok (.ldc2_w 173, 3) := dgX12_of_0 (16, (.ldc2_w 173, 3)) (List.mem_of_getElem? (i := 10) rfl)
theorem dX12_of_19 : decode cX12_of 19 = .ok (.invokestatic 121, 3) := dgX12_of_0 (19, (.invokestatic 121, 3)) (List.mem_of_getElem? (i := 11) rfl)
theorem dX12_of_22 : decode cX12_of 22 = .ok (.ifCond .eq 12, 3) := dgX12_of_0 (22, (.ifCond .eq 12, 3)) (List.mem_of_getElem? (i := 12) rfl)
theorem dX12_of_25 : decode cX12_of 25 = .ok (.aload_n 0, 1) := dgX12_of_0 (25, (.aload_n 0, 1)) (List.mem_of_getElem? (i := 13) rfl)
theorem dX12_of_26 : decode cX12_of 26 = .ok (.iload_n 1, 1) := dgX12_of_0 (26, (.iload_n 1, 1)) (List.mem_of_getElem? (i := 14) rfl)
theorem dX12_of_27 : decode cX12_of 27 = .ok (.iload_n 2, 1) := dgX12_of_0 (27, (.iload_n 2, 1)) (List.mem_of_getElem? (i := 15) rfl)
theorem dX12_of_28 : decode cX12_of 28 = .ok (.invokevirtual 134, 3) := dgX12_of_0 (28, (.invokevirtual 134, 3)) (List.mem_of_getElem? (i := 16) rfl)
theorem dX12_of_31 : decode cX12_of 31 = .ok (.goto 4, 3) := dgX12_of_0 (31, (.goto 4, 3)) (List.mem_of_getElem? (i := 17) rfl)
theorem dX12_of_34 : decode cX12_of 34 = .ok (.iconst (-1), 1) := dgX12_of_0 (34, (.iconst (-1), 1)) (List.mem_of_getElem? (i := 18) rfl)
theorem dX12_of_35 : decode cX12_of 35 = .ok (.ireturn, 1) := dgX12_of_0 (35, (.ireturn, 1)) (List.mem_of_getElem? (i := 19) rfl)
theorem kl_X12_173 : Cond.constantLong RX12 173 4 ∈ tblG := tg 1438 (by decide +kernel) (by decide +kernel)
set_option maxHeartbeats 4000000 in
set_option maxRecDepth 100000 in
theorem n_in_0_4 (l : Launch) (G : g5_G) (sz : Nat) (p_x : Int32) : Met l yX12_in (wsG yX12_in cX12_in 6 (some .boolean)) ({ frames := 0, cells := 0, slots := 0, locals := 0 }) (va_Pc [.long p_x.toInt64, .long 0, .long 4] (g5_P G [] sz)) (va_Qi (fun (r : Int32) (u : va_W) => ((p_x.toInt < 0 ∨ 4 < p_x.toInt) ∧ (r = 0) ∧ (u = [])) ∨ ((0 ≤ p_x.toInt ∧ p_x.toInt ≤ 4) ∧ (r = 1) ∧ (u = []))) (g5_B G (va_A [] sz)) (va_A [] sz)) 0 0 (va_A [] sz) := by
  refine Met.ofW (cc := cX12_in) (maxL := 6) (ret := (some .boolean)) (by decide) rfl ?_
  intro p e s m args below meth c s₁ B hml hv
  obtain ⟨rfl, hsz, hP, hK, hD0, hN, hT⟩ := hv
  have hx := B.exec
  have hb := B.bytes
  have hr := B.returns
  have hts : ∀ w ∈ tblG, w.before _ s = true := fun w h => atoms_spec (ws := (wsG yX12_in cX12_in 6 (some .boolean))) B.pre w (List.mem_cons_of_mem _ h)
  have hown : s.vm.findClass RX12 = some m.cls := findClass_of_methodNamed B.named
  have hlocks := B.notSynchronized
  subst hsz
  have hD := hD0.self (sz := s.heap.size)
  generalize hAe : va_A [] s.heap.size = A at hD hT ⊢
  have hA : ∀ q : Nat, s.heap.size ≤ q → A q := fun q h => by rw [← hAe]; exact Or.inr h
  have hS : va_S A s.heap s.heap [] := va_S.rf
  have hP : va_P G.1 vwCl [] s.heap := hP
  have hl := lv_entry ([.long p_x.toInt64, .long 0, .long 4]) (n := 6) (Nat.le_of_ble_eq_true rfl)
  rw [lg_entry_eq]
  generalize (lg_sl ([.long p_x.toInt64, .long 0, .long 4]) ++ List.replicate (6 - (lg_sl ([.long p_x.toInt64, .long 0, .long 4])).length) Slot.unset).toArray = ls at hl ⊢
  have hl : lv_has ls 6 [(0, .long p_x.toInt64), (2, .long 0), (4, .long 4)] := hl
  refine lv_lload_n hx hb dX12_in_0 rfl (lv_at hl 0 rfl) ?_
  refine lv_lload_n hx hb dX12_in_1 rfl (lv_at hl 1 rfl) ?_
  have tl_1 : p_x.toInt64.toInt = p_x.toInt := Int32.toInt_toInt64 _
  have tl_2 : (0 : Int64).toInt = 0 := (by decide)
  have tc_3 := g5_cmpI p_x.toInt64 0
  refine W.lcmp hx hb dX12_in_2 ?_
  refine lv_if_lt (tgt := 17) hx hb dX12_in_3 (by decide) (fun c_4 => ?_) (fun c_4 => ?_)
  ·
    have i_4 : (lg_cmp p_x.toInt64 0).toInt < 0 := by have z := g5_lt (a := (lg_cmp p_x.toInt64 0).toInt) (b := 0) (by rfl) (by decide) c_4; omega
    refine lv_iconst (v := 0) hx hb dX12_in_17 (by decide) ?_
    exact W.zret (v := 0) hx hb hr rfl (fun t ht hW => ⟨⟨0, [], rfl, Or.inl (⟨by omega, rfl, rfl⟩), by rw [ht]; exact hP.sub [] rfl, hD.sub [] (by decide) rfl⟩, hS.F ht⟩) hS.2.2 dX12_in_18
  ·
    have i_4 : (lg_cmp p_x.toInt64 0).toInt ≥ 0 := by have z := g5_ltN (a := (lg_cmp p_x.toInt64 0).toInt) (b := 0) (by rfl) (by decide) c_4; omega
    refine lv_lload_n hx hb dX12_in_6 rfl (lv_at hl 0 rfl) ?_
    refine lv_lload hx hb dX12_in_7 (lv_at hl 2 rfl) ?_
    have tl_5 : p_x.toInt64.toInt = p_x.toInt := Int32.toInt_toInt64 _
    have tl_6 : (4 : Int64).toInt = 4 := (by decide)
    have tc_7 := g5_cmpI p_x.toInt64 4
    refine W.lcmp hx hb dX12_in_9 ?_
    refine lv_if_gt (tgt := 17) hx hb dX12_in_10 (by decide) (fun c_8 => ?_) (fun c_8 => ?_)
    ·
      have i_8 : (lg_cmp p_x.toInt64 4).toInt > 0 := by have z := g5_gt (a := (lg_cmp p_x.toInt64 4).toInt) (b := 0) (by rfl) (by decide) c_8; omega
      refine lv_iconst (v := 0) hx hb dX12_in_17 (by decide) ?_
      exact W.zret (v := 0) hx hb hr rfl (fun t ht hW => ⟨⟨0, [], rfl, Or.inl (⟨by omega, rfl, rfl⟩), by rw [ht]; exact hP.sub [] rfl, hD.sub [] (by decide) rfl⟩, hS.F ht⟩) hS.2.2 dX12_in_18
    ·
      have i_8 : (lg_cmp p_x.toInt64 4).toInt ≤ 0 := by have z := g5_gtN (a := (lg_cmp p_x.toInt64 4).toInt) (b := 0) (by rfl) (by decide) c_8; omega
      refine lv_iconst (v := 1) hx hb dX12_in_13 (by decide) ?_
      refine lv_goto (tgt := 18) hx hb dX12_in_14 (by decide) ?_
      exact W.zret (v := 1) hx hb hr rfl (fun t ht hW => ⟨⟨1, [], rfl, Or.inr (⟨by omega, rfl, rfl⟩), by rw [ht]; exact hP.sub [] rfl, hD.sub [] (by decide) rfl⟩, hS.F ht⟩) hS.2.2 dX12_in_18
