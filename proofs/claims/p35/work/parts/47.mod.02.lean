theorem dgX12_soonest_0 : ∀ r ∈ ([(0, (.aload_n 0, 1)), (1, (.iconst 0, 1)), (2, (.putfield 107, 3)), (5, (.aload_n 0, 1)), (6, (.iload_n 1, 1)), (7, (.invokevirtual 180, 3)), (10, (.ifCond .eq 27, 3)), (13, (.iload_n 2, 1)), (14, (.invokestatic 138, 3)), (17, (.ifCond .eq 20, 3)), (20, (.iload_n 3, 1)), (21, (.invokestatic 175, 3)), (24, (.ifCond .eq 13, 3)), (27, (.aload_n 0, 1)), (28, (.iload_n 1, 1)), (29, (.iload_n 2, 1)), (30, (.iload_n 3, 1)), (31, (.invokevirtual 466, 3)), (34, (.goto 4, 3)), (37, (.iconst (-1), 1)), (38, (.ireturn, 1))] : List (Nat × (Instr × Nat))), decode cX12_soonest r.1 = .ok r.2 := by decide +kernel
theorem dX12_soonest_0 : decode cX12_soonest 0 = .ok (.aload_n 0, 1) := dgX12_soonest_0 (0, (.aload_n 0, 1)) (List.mem_of_getElem? (i := 0) rfl)
theorem dX12_soonest_1 : decode cX12_soonest 1 = .ok (.iconst 0, 1) := dgX12_soonest_0 (1, (.iconst 0, 1)) (List.mem_of_getElem? (i := 1) rfl)
theorem dX12_soonest_2 : decode cX12_soonest 2 = .ok (.putfield 107, 3) := dgX12_soonest_0 (2, (.putfield 107, 3)) (List.mem_of_getElem? (i := 2) rfl)
theorem dX12_soonest_5 : decode cX12_soonest 5 = .ok (.aload_n 0, 1) := dgX12_soonest_0 (5, (.aload_n 0, 1)) (List.mem_of_getElem? (i := 3) rfl)
theorem dX12_soonest_6 : decode cX12_soonest 6 = .ok (.iload_n 1, 1) := dgX12_soonest_0 (6, (.iload_n 1, 1)) (List.mem_of_getElem? (i := 4) rfl)
theorem dX12_soonest_7 : decode cX12_soonest 7 = .ok (.invokevirtual 180, 3) := dgX12_soonest_0 (7, (.invokevirtual 180, 3)) (List.mem_of_getElem? (i := 5) rfl)
theorem dX12_soonest_10 : decode cX12_soonest 10 = .ok (.ifCond .eq 27, 3) := dgX12_soonest_0 (10, (.ifCond .eq 27, 3)) (List.mem_of_getElem? (i := 6) rfl)
theorem dX12_soonest_13 : decode cX12_soonest 13 = .ok (.iload_n 2, 1) := dgX12_soonest_0 (13, (.iload_n 2, 1)) (List.mem_of_getElem? (i := 7) rfl)
theorem dX12_soonest_14 : decode cX12_soonest 14 = .ok (.invokestatic 138, 3) := dgX12_soonest_0 (14, (.invokestatic 138, 3)) (List.mem_of_getElem? (i := 8) rfl)
theorem dX12_soonest_17 : decode cX12_soonest 17 = .ok (.ifCond .eq 20, 3) := dgX12_soonest_0 (17, (.ifCond .eq 20, 3)) (List.mem_of_getElem? (i := 9) rfl)
theorem dX12_soonest_20 : decode cX12_soonest 20 = .ok (.iload_n 3, 1) := dgX12_soonest_0 (20, (.iload_n 3, 1)) (List.mem_of_getElem? (i := 10) rfl)
theorem dX12_soonest_21 : decode cX12_soonest 21 = .ok (.invokestatic 175, 3) := dgX12_soonest_0 (21, (.invokestatic 175, 3)) (List.mem_of_getElem? (i := 11) rfl)
theorem dX12_soonest_24 : decode cX12_soonest 24 = .ok (.ifCond .eq 13, 3) := dgX12_soonest_0 (24, (.ifCond .eq 13, 3)) (List.mem_of_getElem? (i := 12) rfl)
theorem dX12_soonest_27 : decode cX12_soonest 27 = .ok (.aload_n 0, 1) := dgX12_soonest_0 (27, (.aload_n 0, 1)) (List.mem_of_getElem? (i := 13) rfl)
theorem dX12_soonest_28 : decode cX12_soonest 28 = .ok (.iload_n 1, 1) := dgX12_soonest_0 (28, (.iload_n 1, 1)) (List.mem_of_getElem? (i := 14) rfl)
theorem dX12_soonest_29 : decode cX12_soonest 29 = .ok (.iload_n 2, 1) := dgX12_soonest_0 (29, (.iload_n 2, 1)) (List.mem_of_getElem? (i := 15) rfl)
theorem dX12_soonest_30 : decode cX12_soonest 30 = .ok (.iload_n 3, 1) := dgX12_soonest_0 (30, (.iload_n 3, 1)) (List.mem_of_getElem? (i := 16) rfl)
theorem dX12_soonest_31 : decode cX12_soonest 31 = .ok (.invokevirtual 466, 3) := dgX12_soonest_0 (31, (.invokevirtual 466, 3)) (List.mem_of_getElem? (i := 17) rfl)
theorem dX12_soonest_34 : decode cX12_soonest 34 = .ok (.goto 4, 3) := dgX12_soonest_0 (34, (.goto 4, 3)) (List.mem_of_getElem? (i := 18) rfl)
theorem dX12_soonest_37 : decode cX12_soonest 37 = .ok (.iconst (-1), 1) := dgX12_soonest_0 (37, (.iconst (-1), 1)) (List.mem_of_getElem? (i := 19) rfl)
theorem dX12_soonest_38 : decode cX12_soonest 38 = .ok (.ireturn, 1) := dgX12_soonest_0 (38, (.ireturn, 1)) (List.mem_of_getElem? (i := 20) rfl)
theorem ml_X12_466 : Cond.methodLink RX12 466 yX12_findSoonest ∈ tblG := tg 1802 (by decide +kernel) (by decide +kernel)
theorem im_X12_findSoonest : Cond.instanceMethod yX12_findSoonest ∈ tblG := tg 1804 (by decide +kernel) (by decide +kernel)
theorem se_X12_findSoonest : Cond.selects RX12 yX12_findSoonest yX12_findSoonest ∈ tblG := tg 86 (by decide +kernel) (by decide +kernel)
theorem cd_X12_findSoonest : Cond.code yX12_findSoonest cX12_findSoonest 9 (some .int) ∈ tblG := tg 1805 (by decide +kernel) (by decide +kernel)
theorem gW_X12_findSoonest : GoodIn tblG (wsG yX12_findSoonest cX12_findSoonest 9 (some .int)) := tgi cd_X12_findSoonest
theorem gV_X12_466 : GoodIn tblG (wsV RX12 466 RX12 yX12_findSoonest (wsG yX12_findSoonest cX12_findSoonest 9 (some .int))) := tgV ml_X12_466 im_X12_findSoonest se_X12_findSoonest ini_X12 gW_X12_findSoonest
theorem hv_X12_findSoonest : yX12_findSoonest.cls = RX12 ∧ yX12_findSoonest.cls ≠ "java/lang/invoke/MethodHandle" ∧ yX12_findSoonest.cls ≠ "java/lang/invoke/VarHandle" ∧ (parseMethodDescriptor yX12_findSoonest.desc).map (fun d => d.parameters.length) = some 3 := by decide +kernel
set_option maxHeartbeats 4000000 in
set_option maxRecDepth 100000 in
theorem n_soonest (l : Launch) (G : g5_G) (b_o b_ro b_se b_re b_pt b_tr b_ld b_rf b_im b_ke b_tp b_nl b_op b_ar b_pi b_pa b_ws b_hw b_ip b_ah b_be b_me b_wn : Nat) (sz : Nat) (u_th : Int32) (u_sa : Int32) (u_fd : Int32) (u_td : Int32) (u_fr : Int32) (u_to : Int32) (u_so : Int32) (u_fa : Int32) (u_bd : Int32) (u_nc : Int32) (u_co : Int32) (u_le : Int32) (u_pd : Int32) (u_od : Int32) (u_la : Int32) (u_bk : Int32) (u_ce : Int32) (u_ho : Int32) (u_wy : Int32) (u_bt : Int32) (u_ps : Int32) (u_tg : Int32) (u_sn : Int32) (u_ic : Int32) (u_wd : Int32) (u_id : Int32) (p_1 : Int32) (p_2 : Int32) (p_3 : Int32) (u_wo : Int64) (u_va : Int64) (u_su : Int64) (u_st : Int64) (v_ro : Nat → Int32) (v_se : Nat → Int64) (v_re : Nat → Int64) (v_pt : Nat → Int32) (v_tr : Nat → Int32) (v_ld : Nat → Int32) (h_u_td : 0 ≤ u_td.toInt ∧ u_td.toInt ≤ 400) (h_u_fr : 0 ≤ u_fr.toInt ∧ u_fr.toInt ≤ 400) (h_u_to : 0 ≤ u_to.toInt ∧ u_to.toInt ≤ 400) (h_u_bd : 0 ≤ u_bd.toInt ∧ u_bd.toInt ≤ 1) (h_u_nc : 0 ≤ u_nc.toInt ∧ u_nc.toInt ≤ 12) (h_u_co : 0 ≤ u_co.toInt ∧ u_co.toInt ≤ 400) (h_u_pd : 0 ≤ u_pd.toInt ∧ u_pd.toInt ≤ 400) (h_u_la : 0 ≤ u_la.toInt ∧ u_la.toInt ≤ 4840) (h_u_bk : 0 ≤ u_bk.toInt ∧ u_bk.toInt ≤ 1) (h_u_ce : 0 ≤ u_ce.toInt ∧ u_ce.toInt ≤ 63) (h_u_ho : 0 ≤ u_ho.toInt ∧ u_ho.toInt ≤ 23) (h_u_wy : 0 ≤ u_wy.toInt ∧ u_wy.toInt ≤ 3) (h_u_bt : 0 ≤ u_bt.toInt ∧ u_bt.toInt ≤ 1000000) (h_u_ps : 0 ≤ u_ps.toInt ∧ u_ps.toInt ≤ 200) (h_u_ic : 0 ≤ u_ic.toInt ∧ u_ic.toInt ≤ 1) (h_u_id : 0 ≤ u_id.toInt ∧ u_id.toInt ≤ 1) (r_ro : MI v_ro) (r_pt : PTI v_pt) : Met l yX12_soonest (wsG yX12_soonest cX12_soonest 4 (some .int)) ({ frames := 9, cells := 0, slots := 0, locals := 228 }) (va_Pc [.ref b_o, .int p_1, .int p_2, .int p_3] (g5_P G [(b_o, (oc12 u_th u_sa b_rf b_ro b_im b_ke u_fd b_tp u_td u_fr u_to u_so u_wo u_fa u_bd u_nc b_nl u_co b_op b_ar u_le b_pi b_pa u_pd u_od b_ws b_hw u_la b_se b_re u_bk u_va u_su u_ce u_ho u_wy u_bt u_ps b_pt u_tg u_sn b_ip u_ic b_ah b_be b_me u_wd b_tr b_ld u_st b_wn u_id)), (b_ro, (arI G 5740 v_ro)), (b_se, (arJ G 13 v_se)), (b_re, (arJ G 400 v_re)), (b_pt, (arI G 200 v_pt)), (b_tr, (arZ G 1536 v_tr)), (b_ld, (arZ G 1536 v_ld))] sz)) (va_Qi (fun (r : Int32) (u : va_W) => (∃ (o_r : Int32) (o_th : Int32) (o_la : Int32) (o_bk : Int32) (o_va : Int64) (o_su : Int64) (o_ce : Int32) (o_ho : Int32) (o_wy : Int32) (o_bt : Int32) (o_ps : Int32) (o_tg : Int32) (o_sn : Int32) (o_se : Nat → Int64) (o_re : Nat → Int64) (o_pt : Nat → Int32) (o_tr : Nat → Int32) (o_ld : Nat → Int32), (0 ≤ o_la.toInt ∧ o_la.toInt ≤ 4840) ∧ (0 ≤ o_bk.toInt ∧ o_bk.toInt ≤ 1) ∧ (0 ≤ o_ce.toInt ∧ o_ce.toInt ≤ 63) ∧ (0 ≤ o_ho.toInt ∧ o_ho.toInt ≤ 23) ∧ (0 ≤ o_wy.toInt ∧ o_wy.toInt ≤ 3) ∧ (0 ≤ o_bt.toInt ∧ o_bt.toInt ≤ 1000000) ∧ (0 ≤ o_ps.toInt ∧ o_ps.toInt ≤ 200) ∧ (PTI o_pt) ∧ (r = o_r) ∧ (u = [(b_o, (oc12 o_th u_sa b_rf b_ro b_im b_ke u_fd b_tp u_td u_fr u_to u_so u_wo u_fa u_bd u_nc b_nl u_co b_op b_ar u_le b_pi b_pa u_pd u_od b_ws b_hw o_la b_se b_re o_bk o_va o_su o_ce o_ho o_wy o_bt o_ps b_pt o_tg o_sn b_ip u_ic b_ah b_be b_me u_wd b_tr b_ld u_st b_wn u_id)), (b_ro, (arI G 5740 v_ro)), (b_se, (arJ G 13 o_se)), (b_re, (arJ G 400 o_re)), (b_pt, (arI G 200 o_pt)), (b_tr, (arZ G 1536 o_tr)), (b_ld, (arZ G 1536 o_ld))]))) (g5_B G (va_A [(b_o, (oc12 u_th u_sa b_rf b_ro b_im b_ke u_fd b_tp u_td u_fr u_to u_so u_wo u_fa u_bd u_nc b_nl u_co b_op b_ar u_le b_pi b_pa u_pd u_od b_ws b_hw u_la b_se b_re u_bk u_va u_su u_ce u_ho u_wy u_bt u_ps b_pt u_tg u_sn b_ip u_ic b_ah b_be b_me u_wd b_tr b_ld u_st b_wn u_id)), (b_ro, (arI G 5740 v_ro)), (b_se, (arJ G 13 v_se)), (b_re, (arJ G 400 v_re)), (b_pt, (arI G 200 v_pt)), (b_tr, (arZ G 1536 v_tr)), (b_ld, (arZ G 1536 v_ld))] sz)) (va_A [(b_o, (oc12 u_th u_sa b_rf b_ro b_im b_ke u_fd b_tp u_td u_fr u_to u_so u_wo u_fa u_bd u_nc b_nl u_co b_op b_ar u_le b_pi b_pa u_pd u_od b_ws b_hw u_la b_se b_re u_bk u_va u_su u_ce u_ho u_wy u_bt u_ps b_pt u_tg u_sn b_ip u_ic b_ah b_be b_me u_wd b_tr b_ld u_st b_wn u_id)), (b_ro, (arI G 5740 v_ro)), (b_se, (arJ G 13 v_se)), (b_re, (arJ G 400 v_re)), (b_pt, (arI G 200 v_pt)), (b_tr, (arZ G 1536 v_tr)), (b_ld, (arZ G 1536 v_ld))] sz)) 0 0 (va_A [(b_o, (oc12 u_th u_sa b_rf b_ro b_im b_ke u_fd b_tp u_td u_fr u_to u_so u_wo u_fa u_bd u_nc b_nl u_co b_op b_ar u_le b_pi b_pa u_pd u_od b_ws b_hw u_la b_se b_re u_bk u_va u_su u_ce u_ho u_wy u_bt u_ps b_pt u_tg u_sn b_ip u_ic b_ah b_be b_me u_wd b_tr b_ld u_st b_wn u_id)), (b_ro, (arI G 5740 v_ro)), (b_se, (arJ G 13 v_se)), (b_re, (arJ G 400 v_re)), (b_pt, (arI G 200 v_pt)), (b_tr, (arZ G 1536 v_tr)), (b_ld, (arZ G 1536 v_ld))] sz) := by
  refine Met.ofW (cc := cX12_soonest) (maxL := 4) (ret := (some .int)) (by decide +kernel) rfl ?_
  intro p e s m args below meth c s₁ B hml hv
  obtain ⟨rfl, hsz, hP, hK, hD0, hN, hT⟩ := hv
  have hx := B.exec
  have hb := B.bytes
  have hr := B.returns
  have hts : ∀ w ∈ tblG, w.before _ s = true := fun w h => atoms_spec (ws := (wsG yX12_soonest cX12_soonest 4 (some .int))) B.pre w (List.mem_cons_of_mem _ h)
  have hown : s.vm.findClass RX12 = some m.cls := findClass_of_methodNamed B.named
  have hlocks := B.notSynchronized
  subst hsz
  have hD := hD0.self (sz := s.heap.size)
  generalize hAe : va_A [(b_o, (oc12 u_th u_sa b_rf b_ro b_im b_ke u_fd b_tp u_td u_fr u_to u_so u_wo u_fa u_bd u_nc b_nl u_co b_op b_ar u_le b_pi b_pa u_pd u_od b_ws b_hw u_la b_se b_re u_bk u_va u_su u_ce u_ho u_wy u_bt u_ps b_pt u_tg u_sn b_ip u_ic b_ah b_be b_me u_wd b_tr b_ld u_st b_wn u_id)), (b_ro, (arI G 5740 v_ro)), (b_se, (arJ G 13 v_se)), (b_re, (arJ G 400 v_re)), (b_pt, (arI G 200 v_pt)), (b_tr, (arZ G 1536 v_tr)), (b_ld, (arZ G 1536 v_ld))] s.heap.size = A at hD hT ⊢
  have hA : ∀ q : Nat, s.heap.size ≤ q → A q := fun q h => by rw [← hAe]; exact Or.inr h
  have hS : va_S A s.heap s.heap [] := va_S.rf
  replace hP : va_P G.1 vwCl [(b_o, (oc12 u_th u_sa b_rf b_ro b_im b_ke u_fd b_tp u_td u_fr u_to u_so u_wo u_fa u_bd u_nc b_nl u_co b_op b_ar u_le b_pi b_pa u_pd u_od b_ws b_hw u_la b_se b_re u_bk u_va u_su u_ce u_ho u_wy u_bt u_ps b_pt u_tg u_sn b_ip u_ic b_ah b_be b_me u_wd b_tr b_ld u_st b_wn u_id)), (b_ro, (arI G 5740 v_ro)), (b_se, (arJ G 13 v_se)), (b_re, (arJ G 400 v_re)), (b_pt, (arI G 200 v_pt)), (b_tr, (arZ G 1536 v_tr)), (b_ld, (arZ G 1536 v_ld))] s.heap := hP
  have hl := lv_entry ([.ref b_o, .int p_1, .int p_2, .int p_3]) (n := 4) (Nat.le_of_ble_eq_true rfl)
  rw [lg_entry_eq]
  generalize (lg_sl ([.ref b_o, .int p_1, .int p_2, .int p_3]) ++ List.replicate (4 - (lg_sl ([.ref b_o, .int p_1, .int p_2, .int p_3])).length) Slot.unset).toArray = ls at hl ⊢
  replace hl : lv_has ls 4 [(0, .ref b_o), (1, .int p_1), (2, .int p_2), (3, .int p_3)] := hl
  refine lv_aload_n hx hb dX12_soonest_0 rfl (lv_at hl 0 rfl) ?_
  refine lv_iconst (v := 0) hx hb dX12_soonest_1 (by decide +kernel) ?_
  refine va_put (D := G.1) (ci := 12) (v := .int 0) (ty := .int) (C := RX12) (T := TX12) (N := 52) hx hb hts inG_X12 tyX12 tyX12_ok nmX12 hown hK hP hD hS 0 rfl rfl 0 (by decide +kernel) (hts _ fl_X12_107) (fun _ h9 => h9) rfl (by decide +kernel) rfl rfl (Nat.le_of_ble_eq_true rfl) dX12_soonest_2 ?_
  clear hP hD hS
  intro H locs hP hD hS
  refine g5_rs [(b_o, (oc12 0 u_sa b_rf b_ro b_im b_ke u_fd b_tp u_td u_fr u_to u_so u_wo u_fa u_bd u_nc b_nl u_co b_op b_ar u_le b_pi b_pa u_pd u_od b_ws b_hw u_la b_se b_re u_bk u_va u_su u_ce u_ho u_wy u_bt u_ps b_pt u_tg u_sn b_ip u_ic b_ah b_be b_me u_wd b_tr b_ld u_st b_wn u_id)), (b_ro, (arI G 5740 v_ro)), (b_se, (arJ G 13 v_se)), (b_re, (arJ G 400 v_re)), (b_pt, (arI G 200 v_pt)), (b_tr, (arZ G 1536 v_tr)), (b_ld, (arZ G 1536 v_ld))] hP hD ?_
  clear hP hD
  intro hP hD
  refine lv_aload_n hx hb dX12_soonest_5 rfl (lv_at hl 0 rfl) ?_
  refine W.eq (g2 := F0 m 6 ls [.ref b_o]) rfl ?_
  refine lv_iload_n hx hb dX12_soonest_6 rfl (lv_at hl 1 rfl) ?_
  obtain ⟨hPc, hDc, hFc⟩ := g5_sub3 (wc := [(b_o, (oc12 0 u_sa b_rf b_ro b_im b_ke u_fd b_tp u_td u_fr u_to u_so u_wo u_fa u_bd u_nc b_nl u_co b_op b_ar u_le b_pi b_pa u_pd u_od b_ws b_hw u_la b_se b_re u_bk u_va u_su u_ce u_ho u_wy u_bt u_ps b_pt u_tg u_sn b_ip u_ic b_ah b_be b_me u_wd b_tr b_ld u_st b_wn u_id)), (b_ro, (arI G 5740 v_ro))]) hP hD hS hA [0, 1] (by decide +kernel) rfl
  refine va_calli (va_runV (As := [.int p_1]) (rest := []) ⟨hx, hb, hml, hown, hts⟩ (n_isBody l G b_o b_ro b_rf b_im b_ke b_tp b_nl b_op b_ar b_pi b_pa b_ws b_hw b_se b_re b_pt b_ip b_ah b_be b_me b_tr b_ld b_wn H.size 0 u_sa u_fd u_td u_fr u_to u_so u_fa u_bd u_nc u_co u_le u_pd u_od u_la u_bk u_ce u_ho u_wy u_bt u_ps u_tg u_sn u_ic u_wd u_id p_1 u_wo u_va u_su u_st v_ro h_u_td h_u_fr h_u_to h_u_bd h_u_nc h_u_co h_u_pd h_u_la h_u_bk h_u_ce h_u_ho h_u_wy h_u_bt h_u_ps h_u_ic h_u_id (r_ro)) (cwV 1 hts gV_X12_180 rfl rfl rfl hv_X12_isBody ⟨Nat.le_of_ble_eq_true rfl, Nat.le_of_ble_eq_true rfl⟩) (g5_preV hPc hK hDc hN hT hS hFc (ci := 12) (q0 := 0) rfl rfl) rfl rfl hl.1 rfl (lv_room (Nat.le_of_ble_eq_true rfl)) dX12_soonest_7 ⟨Nat.le_of_ble_eq_true rfl, Nat.le_of_ble_eq_true rfl⟩) hS (fun q _ h => hFc q h) hFc (fun r u t H locs ht hvm hw hB hz1 hk1 hS => ?_)
  obtain ⟨hP1, hD1⟩ := hB
  have hP1 := g5_ht ht hP1
  rcases hw with ⟨(i_1 : 0 ≤ p_1.toInt ∧ p_1.toInt ≤ 4), rfl, rfl⟩ | ⟨rfl, rfl⟩
  ·
    have hJ9 := va_join (wr := [(b_se, (arJ G 13 v_se)), (b_re, (arJ G 400 v_re)), (b_pt, (arI G 200 v_pt)), (b_tr, (arZ G 1536 v_tr)), (b_ld, (arZ G 1536 v_ld))]) hP hD [0, 1] [2, 3, 4, 5, 6] rfl rfl (by decide +kernel) (by decide +kernel) hk1 hFc hP1 hD1
    clear hP hD hPc hDc hFc ht hvm hz1 hk1 hP1 hD1
    obtain ⟨hP, hD⟩ := hJ9
    refine g5_rs [(b_se, (arJ G 13 v_se)), (b_re, (arJ G 400 v_re)), (b_pt, (arI G 200 v_pt)), (b_tr, (arZ G 1536 v_tr)), (b_ld, (arZ G 1536 v_ld)), (b_o, (oc12 0 u_sa b_rf b_ro b_im b_ke u_fd b_tp u_td u_fr u_to u_so u_wo u_fa u_bd u_nc b_nl u_co b_op b_ar u_le b_pi b_pa u_pd u_od b_ws b_hw u_la b_se b_re u_bk u_va u_su u_ce u_ho u_wy u_bt u_ps b_pt u_tg u_sn b_ip u_ic b_ah b_be b_me u_wd b_tr b_ld u_st b_wn u_id)), (b_ro, (arI G 5740 v_ro))] hP hD ?_
    clear hP hD
    intro hP hD
    refine lv_if_eq (tgt := 37) hx hb dX12_soonest_10 (by decide +kernel) (fun c_2 => ?_) (fun c_2 => ?_)
    ·
      exact absurd c_2 (by decide +kernel)
    ·
      refine lv_iload_n hx hb dX12_soonest_13 rfl (lv_at hl 2 rfl) ?_
      obtain ⟨hPc, hDc, hFc⟩ := g5_sub3 (wc := []) hP hD hS hA [] (by decide +kernel) rfl
      refine va_calli (va_runS (As := [.int p_2]) (rest := []) ⟨hx, hb, hml, hown, hts⟩ (n_isCell l G H.size p_2) (va_cwS 1 hts gS_X12_138 rfl rfl rfl hs_X12_isCell ⟨Nat.le_of_ble_eq_true rfl, Nat.le_of_ble_eq_true rfl⟩) (g5_preS hPc hK hDc hN hT hS hFc) rfl rfl hl.1 rfl (lv_room (Nat.le_of_ble_eq_true rfl)) dX12_soonest_14 ⟨Nat.le_of_ble_eq_true rfl, Nat.le_of_ble_eq_true rfl⟩) hS (fun q _ h => hFc q h) hFc (fun r u t H locs ht hvm hw hB hz1 hk1 hS => ?_)
      obtain ⟨hP1, hD1⟩ := hB
      have hP1 := g5_ht ht hP1
      rcases hw with ⟨(i_3 : 0 ≤ p_2.toInt ∧ p_2.toInt ≤ 63), rfl, rfl⟩ | ⟨rfl, rfl⟩
      ·
        have hJ9 := g5_same hP hk1
        clear hP hPc hDc hFc ht hvm hz1 hk1 hP1 hD1
        have hP := hJ9
        clear hJ9
        refine lv_if_eq (tgt := 37) hx hb dX12_soonest_17 (by decide +kernel) (fun c_4 => ?_) (fun c_4 => ?_)
        ·
          exact absurd c_4 (by decide +kernel)
        ·
          refine lv_iload_n hx hb dX12_soonest_20 rfl (lv_at hl 3 rfl) ?_
          obtain ⟨hPc, hDc, hFc⟩ := g5_sub3 (wc := []) hP hD hS hA [] (by decide +kernel) rfl
          refine va_calli (va_runS (As := [.int p_3]) (rest := []) ⟨hx, hb, hml, hown, hts⟩ (n_isHour l G H.size p_3) (va_cwS 1 hts gS_X12_175 rfl rfl rfl hs_X12_isHour ⟨Nat.le_of_ble_eq_true rfl, Nat.le_of_ble_eq_true rfl⟩) (g5_preS hPc hK hDc hN hT hS hFc) rfl rfl hl.1 rfl (lv_room (Nat.le_of_ble_eq_true rfl)) dX12_soonest_21 ⟨Nat.le_of_ble_eq_true rfl, Nat.le_of_ble_eq_true rfl⟩) hS (fun q _ h => hFc q h) hFc (fun r u t H locs ht hvm hw hB hz1 hk1 hS => ?_)
          obtain ⟨hP1, hD1⟩ := hB
          have hP1 := g5_ht ht hP1
          rcases hw with ⟨(i_5 : 0 ≤ p_3.toInt ∧ p_3.toInt ≤ 23), rfl, rfl⟩ | ⟨rfl, rfl⟩
          ·
            have hJ9 := g5_same hP hk1
            clear hP hPc hDc hFc ht hvm hz1 hk1 hP1 hD1
            have hP := hJ9
            clear hJ9
            refine lv_if_eq (tgt := 37) hx hb dX12_soonest_24 (by decide +kernel) (fun c_6 => ?_) (fun c_6 => ?_)
            ·
              exact absurd c_6 (by decide +kernel)
            ·
              refine lv_aload_n hx hb dX12_soonest_27 rfl (lv_at hl 0 rfl) ?_
              refine lv_iload_n hx hb dX12_soonest_28 rfl (lv_at hl 1 rfl) ?_
              refine lv_iload_n hx hb dX12_soonest_29 rfl (lv_at hl 2 rfl) ?_
              refine lv_iload_n hx hb dX12_soonest_30 rfl (lv_at hl 3 rfl) ?_
              refine W.eq (g2 := F0 m 31 ls [.int p_3, .int p_2, .int p_1, .ref b_o]) rfl ?_
              obtain ⟨hPc, hDc, hFc⟩ := g5_sub3 (wc := [(b_o, (oc12 0 u_sa b_rf b_ro b_im b_ke u_fd b_tp u_td u_fr u_to u_so u_wo u_fa u_bd u_nc b_nl u_co b_op b_ar u_le b_pi b_pa u_pd u_od b_ws b_hw u_la b_se b_re u_bk u_va u_su u_ce u_ho u_wy u_bt u_ps b_pt u_tg u_sn b_ip u_ic b_ah b_be b_me u_wd b_tr b_ld u_st b_wn u_id)), (b_ro, (arI G 5740 v_ro)), (b_se, (arJ G 13 v_se)), (b_re, (arJ G 400 v_re)), (b_pt, (arI G 200 v_pt)), (b_tr, (arZ G 1536 v_tr)), (b_ld, (arZ G 1536 v_ld))]) hP hD hS hA [5, 6, 0, 1, 2, 3, 4] (by decide +kernel) rfl
              refine va_calli (va_runV (As := [.int p_1, .int p_2, .int p_3]) (rest := []) ⟨hx, hb, hml, hown, hts⟩ (n_findSoonest l G b_o b_ro b_se b_re b_pt b_tr b_ld b_rf b_im b_ke b_tp b_nl b_op b_ar b_pi b_pa b_ws b_hw b_ip b_ah b_be b_me b_wn H.size 0 u_sa u_fd u_td u_fr u_to u_so u_fa u_bd u_nc u_co u_le u_pd u_od u_la u_bk u_ce u_ho u_wy u_bt u_ps u_tg u_sn u_ic u_wd u_id p_1 p_2 p_3 u_wo u_va u_su u_st v_ro v_se v_re v_pt v_tr v_ld h_u_td h_u_fr h_u_to h_u_bd h_u_nc h_u_co h_u_pd h_u_la h_u_bk h_u_ce h_u_ho h_u_wy h_u_bt h_u_ps h_u_ic h_u_id i_3 i_5 (r_ro) (r_pt)) (cwV 3 hts gV_X12_466 rfl rfl rfl hv_X12_findSoonest ⟨Nat.le_of_ble_eq_true rfl, Nat.le_of_ble_eq_true rfl⟩) (g5_preV hPc hK hDc hN hT hS hFc (ci := 12) (q0 := 0) rfl rfl) rfl rfl hl.1 rfl (lv_room (Nat.le_of_ble_eq_true rfl)) dX12_soonest_31 ⟨Nat.le_of_ble_eq_true rfl, Nat.le_of_ble_eq_true rfl⟩) hS (fun q _ h => hFc q h) hFc (fun r u t H locs ht hvm hw hB hz1 hk1 hS => ?_)
              obtain ⟨hP1, hD1⟩ := hB
              have hP1 := g5_ht ht hP1
              obtain ⟨z16, z17, z18, z19, z20, z21, z22, z23, z24, z25, z26, z27, z28, z29, z30, z31, z32, (i_7 : (-1) ≤ z16.toInt ∧ z16.toInt ≤ 23), (i_8 : 0 ≤ z17.toInt ∧ z17.toInt ≤ 4840), (i_9 : 0 ≤ z18.toInt ∧ z18.toInt ≤ 1), (i_10 : 0 ≤ z21.toInt ∧ z21.toInt ≤ 63), (i_11 : 0 ≤ z22.toInt ∧ z22.toInt ≤ 23), (i_12 : 0 ≤ z23.toInt ∧ z23.toInt ≤ 3), (i_13 : 0 ≤ z24.toInt ∧ z24.toInt ≤ 1000000), (i_14 : 0 ≤ z25.toInt ∧ z25.toInt ≤ 200), (i_15 : PTI z30), y33, rfl⟩ := hw
              have hJ9 := va_join (wr := []) hP hD [5, 6, 0, 1, 2, 3, 4] [] rfl rfl (by decide +kernel) (by decide +kernel) hk1 hFc hP1 hD1
              clear hP hD hPc hDc hFc ht hvm hz1 hk1 hP1 hD1
              obtain ⟨hP, hD⟩ := hJ9
              refine g5_rs [(b_o, (oc12 0 u_sa b_rf b_ro b_im b_ke u_fd b_tp u_td u_fr u_to u_so u_wo u_fa u_bd u_nc b_nl u_co b_op b_ar u_le b_pi b_pa u_pd u_od b_ws b_hw z17 b_se b_re z18 z19 z20 z21 z22 z23 z24 z25 b_pt z26 z27 b_ip u_ic b_ah b_be b_me u_wd b_tr b_ld u_st b_wn u_id)), (b_ro, (arI G 5740 v_ro)), (b_se, (arJ G 13 z28)), (b_re, (arJ G 400 z29)), (b_pt, (arI G 200 z30)), (b_tr, (arZ G 1536 z31)), (b_ld, (arZ G 1536 z32))] hP hD ?_
              clear hP hD
              intro hP hD
              refine g5_ti (v := z16) y33 ?_
              refine lv_goto (tgt := 38) hx hb dX12_soonest_34 (by decide +kernel) ?_
              exact W.iret (v := z16) hx hb hr (fun t ht hW => ⟨⟨z16, [(b_o, (oc12 0 u_sa b_rf b_ro b_im b_ke u_fd b_tp u_td u_fr u_to u_so u_wo u_fa u_bd u_nc b_nl u_co b_op b_ar u_le b_pi b_pa u_pd u_od b_ws b_hw z17 b_se b_re z18 z19 z20 z21 z22 z23 z24 z25 b_pt z26 z27 b_ip u_ic b_ah b_be b_me u_wd b_tr b_ld u_st b_wn u_id)), (b_ro, (arI G 5740 v_ro)), (b_se, (arJ G 13 z28)), (b_re, (arJ G 400 z29)), (b_pt, (arI G 200 z30)), (b_tr, (arZ G 1536 z31)), (b_ld, (arZ G 1536 z32))], rfl, ⟨z16, 0, z17, z18, z19, z20, z21, z22, z23, z24, z25, z26, z27, z28, z29, z30, z31, z32, i_8, i_9, i_10, i_11, i_12, i_13, i_14, i_15, rfl, rfl⟩, by rw [ht]; exact hP.sub [0, 1, 2, 3, 4, 5, 6] rfl, hD.sub [0, 1, 2, 3, 4, 5, 6] (by decide +kernel) rfl⟩, hS.F ht⟩) hS.2.2 dX12_soonest_38
          ·
            have hJ9 := g5_same hP hk1
            clear hP hPc hDc hFc ht hvm hz1 hk1 hP1 hD1
            have hP := hJ9
            clear hJ9
            refine lv_if_eq (tgt := 37) hx hb dX12_soonest_24 (by decide +kernel) (fun c_34 => ?_) (fun c_34 => ?_)
            ·
              refine lv_iconst (v := (-1)) hx hb dX12_soonest_37 (by decide +kernel) ?_
              exact W.iret (v := (-1)) hx hb hr (fun t ht hW => ⟨⟨(-1), [(b_o, (oc12 0 u_sa b_rf b_ro b_im b_ke u_fd b_tp u_td u_fr u_to u_so u_wo u_fa u_bd u_nc b_nl u_co b_op b_ar u_le b_pi b_pa u_pd u_od b_ws b_hw u_la b_se b_re u_bk u_va u_su u_ce u_ho u_wy u_bt u_ps b_pt u_tg u_sn b_ip u_ic b_ah b_be b_me u_wd b_tr b_ld u_st b_wn u_id)), (b_ro, (arI G 5740 v_ro)), (b_se, (arJ G 13 v_se)), (b_re, (arJ G 400 v_re)), (b_pt, (arI G 200 v_pt)), (b_tr, (arZ G 1536 v_tr)), (b_ld, (arZ G 1536 v_ld))], rfl, ⟨(-1), 0, u_la, u_bk, u_va, u_su, u_ce, u_ho, u_wy, u_bt, u_ps, u_tg, u_sn, v_se, v_re, v_pt, v_tr, v_ld, h_u_la, h_u_bk, h_u_ce, h_u_ho, h_u_wy, h_u_bt, h_u_ps, r_pt, rfl, rfl⟩, by rw [ht]; exact hP.sub [5, 6, 0, 1, 2, 3, 4] rfl, hD.sub [5, 6, 0, 1, 2, 3, 4] (by decide +kernel) rfl⟩, hS.F ht⟩) hS.2.2 dX12_soonest_38
            ·
              exact absurd c_34 (by decide +kernel)
      ·
        have hJ9 := g5_same hP hk1
        clear hP hPc hDc hFc ht hvm hz1 hk1 hP1 hD1
        have hP := hJ9
        clear hJ9
        refine lv_if_eq (tgt := 37) hx hb dX12_soonest_17 (by decide +kernel) (fun c_35 => ?_) (fun c_35 => ?_)
        ·
          refine lv_iconst (v := (-1)) hx hb dX12_soonest_37 (by decide +kernel) ?_
          exact W.iret (v := (-1)) hx hb hr (fun t ht hW => ⟨⟨(-1), [(b_o, (oc12 0 u_sa b_rf b_ro b_im b_ke u_fd b_tp u_td u_fr u_to u_so u_wo u_fa u_bd u_nc b_nl u_co b_op b_ar u_le b_pi b_pa u_pd u_od b_ws b_hw u_la b_se b_re u_bk u_va u_su u_ce u_ho u_wy u_bt u_ps b_pt u_tg u_sn b_ip u_ic b_ah b_be b_me u_wd b_tr b_ld u_st b_wn u_id)), (b_ro, (arI G 5740 v_ro)), (b_se, (arJ G 13 v_se)), (b_re, (arJ G 400 v_re)), (b_pt, (arI G 200 v_pt)), (b_tr, (arZ G 1536 v_tr)), (b_ld, (arZ G 1536 v_ld))], rfl, ⟨(-1), 0, u_la, u_bk, u_va, u_su, u_ce, u_ho, u_wy, u_bt, u_ps, u_tg, u_sn, v_se, v_re, v_pt, v_tr, v_ld, h_u_la, h_u_bk, h_u_ce, h_u_ho, h_u_wy, h_u_bt, h_u_ps, r_pt, rfl, rfl⟩, by rw [ht]; exact hP.sub [5, 6, 0, 1, 2, 3, 4] rfl, hD.sub [5, 6, 0, 1, 2, 3, 4] (by decide +kernel) rfl⟩, hS.F ht⟩) hS.2.2 dX12_soonest_38
        ·
          exact absurd c_35 (by decide +kernel)
  ·
    have hJ9 := va_join (wr := [(b_se, (arJ G 13 v_se)), (b_re, (arJ G 400 v_re)), (b_pt, (arI G 200 v_pt)), (b_tr, (arZ G 1536 v_tr)), (b_ld, (arZ G 1536 v_ld))]) hP hD [0, 1] [2, 3, 4, 5, 6] rfl rfl (by decide +kernel) (by decide +kernel) hk1 hFc hP1 hD1
    clear hP hD hPc hDc hFc ht hvm hz1 hk1 hP1 hD1
    obtain ⟨hP, hD⟩ := hJ9
    refine g5_rs [(b_se, (arJ G 13 v_se)), (b_re, (arJ G 400 v_re)), (b_pt, (arI G 200 v_pt)), (b_tr, (arZ G 1536 v_tr)), (b_ld, (arZ G 1536 v_ld)), (b_o, (oc12 0 u_sa b_rf b_ro b_im b_ke u_fd b_tp u_td u_fr u_to u_so u_wo u_fa u_bd u_nc b_nl u_co b_op b_ar u_le b_pi b_pa u_pd u_od b_ws b_hw u_la b_se b_re u_bk u_va u_su u_ce u_ho u_wy u_bt u_ps b_pt u_tg u_sn b_ip u_ic b_ah b_be b_me u_wd b_tr b_ld u_st b_wn u_id)), (b_ro, (arI G 5740 v_ro))] hP hD ?_
    clear hP hD
    intro hP hD
    refine lv_if_eq (tgt := 37) hx hb dX12_soonest_10 (by decide +kernel) (fun c_36 => ?_) (fun c_36 => ?_)
    ·
      refine lv_iconst (v := (-1)) hx hb dX12_soonest_37 (by decide +kernel) ?_
      exact W.iret (v := (-1)) hx hb hr (fun t ht hW => ⟨⟨(-1), [(b_o, (oc12 0 u_sa b_rf b_ro b_im b_ke u_fd b_tp u_td u_fr u_to u_so u_wo u_fa u_bd u_nc b_nl u_co b_op b_ar u_le b_pi b_pa u_pd u_od b_ws b_hw u_la b_se b_re u_bk u_va u_su u_ce u_ho u_wy u_bt u_ps b_pt u_tg u_sn b_ip u_ic b_ah b_be b_me u_wd b_tr b_ld u_st b_wn u_id)), (b_ro, (arI G 5740 v_ro)), (b_se, (arJ G 13 v_se)), (b_re, (arJ G 400 v_re)), (b_pt, (arI G 200 v_pt)), (b_tr, (arZ G 1536 v_tr)), (b_ld, (arZ G 1536 v_ld))], rfl, ⟨(-1), 0, u_la, u_bk, u_va, u_su, u_ce, u_ho, u_wy, u_bt, u_ps, u_tg, u_sn, v_se, v_re, v_pt, v_tr, v_ld, h_u_la, h_u_bk, h_u_ce, h_u_ho, h_u_wy, h_u_bt, h_u_ps, r_pt, rfl, rfl⟩, by rw [ht]; exact hP.sub [5, 6, 0, 1, 2, 3, 4] rfl, hD.sub [5, 6, 0, 1, 2, 3, 4] (by decide +kernel) rfl⟩, hS.F ht⟩) hS.2.2 dX12_soonest_38
    ·
      exact absurd c_36 (by decide +kernel)
theorem dgX12_way_0 : ∀ r ∈ ([(0, (.aload_n 0, 1)), (1, (.iconst 0, 1)), (2, (.putfield 107, 3)), (5, (.aload_n 0, 1)), (6, (.iload_n 1, 1)), (7, (.invokevirtual 180, 3)), (10, (.ifCond .eq 17, 3)), (13, (.iload_n 2, 1)), (14, (.invokestatic 138, 3)), (17, (.ifCond .eq 10, 3)), (20, (.iload_n 3, 1)), (21, (.invokestatic 175, 3)), (24, (.ifCond .ne 5, 3)), (27, (.iconst (-1), 1)), (28, (.ireturn, 1)), (29, (.aload_n 0, 1)), (30, (.iload_n 1, 1)), (31, (.iload_n 2, 1)), (32, (.iload_n 3, 1)), (33, (.invokevirtual 466, 3)), (36, (.istore 5, 2)), (38, (.iload 4, 2)), (40, (.i2l, 1)), (41, (.iload_n 3, 1)), (42, (.i2l, 1)), (43, (.iload 5, 2)), (45, (.i2l, 1)), (46, (.invokestatic 121, 3)), (49, (.ifCond .ne 5, 3)), (52, (.iconst (-1), 1)), (53, (.ireturn, 1)), (54, (.iload_n 2, 1)), (55, (.istore 6, 2)), (57, (.iload_n 3, 1)), (58, (.iconst 1, 1)), (59, (.iadd, 1)), (60, (.istore 7, 2)), (62, (.iload 7, 2)), (64, (.iload 4, 2)), (66, (.if_icmp .gt 66, 3))] : List (Nat × (Instr × Nat))), decode cX12_way r.1 = .ok r.2 := by decide +kernel
theorem dX12_way_0 : decode cX12_way 0 = .ok (.aload_n 0, 1) := dgX12_way_0 (0, (.aload_n 0, 1)) (List.mem_of_getElem? (i := 0) rfl)
theorem dX12_way_1 : decode cX12_way 1 = .ok (.iconst 0, 1) := dgX12_way_0 (1, (.iconst 0, 1)) (List.mem_of_getElem? (i := 1) rfl)
theorem dX12_way_2 : decode cX12_way 2 = .ok (.putfield 107, 3) := dgX12_way_0 (2, (.putfield 107, 3)) (List.mem_of_getElem? (i := 2) rfl)
theorem dX12_way_5 : decode cX12_way 5 = .ok (.aload_n 0, 1) := dgX12_way_0 (5, (.aload_n 0, 1)) (List.mem_of_getElem? (i := 3) rfl)
theorem dX12_way_6 : decode cX12_way 6 = .ok (.iload_n 1, 1) := dgX12_way_0 (6, (.iload_n 1, 1)) (List.mem_of_getElem? (i := 4) rfl)
theorem dX12_way_7 : decode cX12_way 7 = .ok (.invokevirtual 180, 3) := dgX12_way_0 (7, (.invokevirtual 180, 3)) (List.mem_of_getElem? (i := 5) rfl)
theorem dX12_way_10 : decode cX12_way 10 = .ok (.ifCond .eq 17, 3) := dgX12_way_0 (10, (.ifCond .eq 17, 3)) (List.mem_of_getElem? (i := 6) rfl)
theorem dX12_way_13 : decode cX12_way 13 = .ok (.iload_n 2, 1) := dgX12_way_0 (13, (.iload_n 2, 1)) (List.mem_of_getElem? (i := 7) rfl)
theorem dX12_way_14 : decode cX12_way 14 = .ok (.invokestatic 138, 3) := dgX12_way_0 (14, (.invokestatic 138, 3)) (List.mem_of_getElem? (i := 8) rfl)
theorem dX12_way_17 : decode cX12_way 17 = .ok (.ifCond .eq 10, 3) := dgX12_way_0 (17, (.ifCond .eq 10, 3)) (List.mem_of_getElem? (i := 9) rfl)
theorem dX12_way_20 : decode cX12_way 20 = .ok (.iload_n 3, 1) := dgX12_way_0 (20, (.iload_n 3, 1)) (List.mem_of_getElem? (i := 10) rfl)
theorem dX12_way_21 : decode cX12_way 21 = .ok (.invokestatic 175, 3) := dgX12_way_0 (21, (.invokestatic 175, 3)) (List.mem_of_getElem? (i := 11) rfl)
theorem dX12_way_24 : decode cX12_way 24 = .ok (.ifCond .ne 5, 3) := dgX12_way_0 (24, (.ifCond .ne 5, 3)) (List.mem_of_getElem? (i := 12) rfl)
theorem dX12_way_27 : decode cX12_way 27 = .ok (.iconst (-1), 1) := dgX12_way_0 (27, (.iconst (-1), 1)) (List.mem_of_getElem? (i := 13) rfl)
theorem dX12_way_28 : decode cX12_way 28 = .ok (.ireturn, 1) := dgX12_way_0 (28, (.ireturn, 1)) (List.mem_of_getElem? (i := 14) rfl)
theorem dX12_way_29 : decode cX12_way 29 = .ok (.aload_n 0, 1) := dgX12_way_0 (29, (.aload_n 0, 1)) (List.mem_of_getElem? (i := 15) rfl)
theorem dX12_way_30 : decode cX12_way 30 = .ok (.iload_n 1, 1) := dgX12_way_0 (30, (.iload_n 1, 1)) (List.mem_of_getElem? (i := 16) rfl)
theorem dX12_way_31 : decode cX12_way 31 = .ok (.iload_n 2, 1) := dgX12_way_0 (31, (.iload_n 2, 1)) (List.mem_of_getElem? (i := 17) rfl)
theorem dX12_way_32 : decode cX12_way 32 = .ok (.iload_n 3, 1) := dgX12_way_0 (32, (.iload_n 3, 1)) (List.mem_of_getElem? (i := 18) rfl)
theorem dX12_way_33 : decode cX12_way 33 = .ok (.invokevirtual 466, 3) := dgX12_way_0 (33, (.invokevirtual 466, 3)) (List.mem_of_getElem? (i := 19) rfl)
theorem dX12_way_36 : decode cX12_way 36 = .ok (.istore 5, 2) := dgX12_way_0 (36, (.istore 5, 2)) (List.mem_of_getElem? (i := 20) rfl)
theorem dX12_way_38 : decode cX12_way 38 = .ok (.iload 4, 2) := dgX12_way_0 (38, (.iload 4, 2)) (List.mem_of_getElem? (i := 21) rfl)
theorem dX12_way_40 : decode cX12_way 40 = .ok (.i2l, 1) := dgX12_way_0 (40, (.i2l, 1)) (List.mem_of_getElem? (i := 22) rfl)
theorem dX12_way_41 : decode cX12_way 41 = .ok (.iload_n 3, 1) := dgX12_way_0 (41, (.iload_n 3, 1)) (List.mem_of_getElem? (i := 23) rfl)
theorem dX12_way_42 : decode cX12_way 42 = .ok (.i2l, 1) := dgX12_way_0 (42, (.i2l, 1)) (List.mem_of_getElem? (i := 24) rfl)
theorem dX12_way_43 : decode cX12_way 43 = .ok (.iload 5, 2) := dgX12_way_0 (43, (.iload 5, 2)) (List.mem_of_getElem? (i := 25) rfl)
theorem dX12_way_45 : decode cX12_way 45 = .ok (.i2l, 1) := dgX12_way_0 (45, (.i2l, 1)) (List.mem_of_getElem? (i := 26) rfl)
theorem dX12_way_46 : decode cX12_way 46 = .ok (.invokestatic 121, 3) := dgX12_way_0 (46, (.invokestatic 121, 3)) (List.mem_of_getElem? (i := 27) rfl)
theorem dX12_way_49 : decode cX12_way 49 = .ok (.ifCond .ne 5, 3) := dgX12_way_0 (49, (.ifCond .ne 5, 3)) (List.mem_of_getElem? (i := 28) rfl)
theorem dX12_way_52 : decode cX12_way 52 = .ok (.iconst (-1), 1) := dgX12_way_0 (52, (.iconst (-1), 1)) (List.mem_of_getElem? (i := 29) rfl)
theorem dX12_way_53 : decode cX12_way 53 = .ok (.ireturn, 1) := dgX12_way_0 (53, (.ireturn, 1)) (List.mem_of_getElem? (i := 30) rfl)
theorem dX12_way_54 : decode cX12_way 54 = .ok (.iload_n 2, 1) := dgX12_way_0 (54, (.iload_n 2, 1)) (List.mem_of_getElem? (i := 31) rfl)
theorem dX12_way_55 : decode cX12_way 55 = .ok (.istore 6, 2) := dgX12_way_0 (55, (.istore 6, 2)) (List.mem_of_getElem? (i := 32) rfl)
theorem dX12_way_57 : decode cX12_way 57 = .ok (.iload_n 3, 1) := dgX12_way_0 (57, (.iload_n 3, 1)) (List.mem_of_getElem? (i := 33) rfl)
theorem dX12_way_58 : decode cX12_way 58 = .ok (.iconst 1, 1) := dgX12_way_0 (58, (.iconst 1, 1)) (List.mem_of_getElem? (i := 34) rfl)
theorem dX12_way_59 : decode cX12_way 59 = .ok (.iadd, 1) := dgX12_way_0 (59, (.iadd, 1)) (List.mem_of_getElem? (i := 35) rfl)
theorem dX12_way_60 : decode cX12_way 60 = .ok (.istore 7, 2) := dgX12_way_0 (60, (.istore 7, 2)) (List.mem_of_getElem? (i := 36) rfl)
theorem dX12_way_62 : decode cX12_way 62 = .ok (.iload 7, 2) := dgX12_way_0 (62, (.iload 7, 2)) (List.mem_of_getElem? (i := 37) rfl)
theorem dX12_way_64 : decode cX12_way 64 = .ok (.iload 4, 2) := dgX12_way_0 (64, (.iload 4, 2)) (List.mem_of_getElem? (i := 38) rfl)
theorem dX12_way_66 : decode cX12_way 66 = .ok (.if_icmp .gt 66, 3) := dgX12_way_0 (66, (.if_icmp .gt 66, 3)) (List.mem_of_getElem? (i := 39) rfl)
theorem dgX12_way_1 : ∀ r ∈ ([(69, (.iconst (-1), 1)), (70, (.istore 8, 2)), (72, (.bipush 63, 2)), (74, (.istore 9, 2)), (76, (.iload 9, 2)), (78, (.ifCond .lt 44, 3)), (81, (.iload 6, 2)), (83, (.iload 9, 2)), (85, (.invokestatic 454, 3)), (88, (.ifCond .eq 24, 3)), (91, (.aload_n 0, 1)), (92, (.getfield 101, 3)), (95, (.bipush 64, 2)), (97, (.iload 7, 2)), (99, (.imul, 1)), (100, (.iload 9, 2)), (102, (.iadd, 1)), (103, (.baload, 1)), (104, (.ifCond .eq 8, 3)), (107, (.iload 9, 2)), (109, (.goto 5, 3)), (112, (.iload 8, 2)), (114, (.istore 8, 2)), (116, (.iinc 9 (-1), 3)), (119, (.goto (-43), 3)), (122, (.iload 8, 2)), (124, (.istore 6, 2)), (126, (.iinc 7 1, 3)), (129, (.goto (-67), 3)), (132, (.iload 6, 2)), (134, (.ireturn, 1))] : List (Nat × (Instr × Nat))), decode cX12_way r.1 = .ok r.2 := by decide +kernel
theorem dX12_way_69 : decode cX12_way 69 = .ok (.iconst (-1), 1) := dgX12_way_1 (69, (.iconst (-1), 1)) (List.mem_of_getElem? (i := 0) rfl)
theorem dX12_way_70 : decode cX12_way 70 = .ok (.istore 8, 2) := dgX12_way_1 (70, (.istore 8, 2)) (List.mem_of_getElem? (i := 1) rfl)
theorem dX12_way_72 : decode cX12_way 72 = .ok (.bipush 63, 2) := dgX12_way_1 (72, (.bipush 63, 2)) (List.mem_of_getElem? (i := 2) rfl)
theorem dX12_way_74 : decode cX12_way 74 = .ok (.istore 9, 2) := dgX12_way_1 (74, (.istore 9, 2)) (List.mem_of_getElem? (i := 3) rfl)
theorem dX12_way_76 : decode cX12_way 76 = .ok (.iload 9, 2) := dgX12_way_1 (76, (.iload 9, 2)) (List.mem_of_getElem? (i := 4) rfl)
theorem dX12_way_78 : decode cX12_way 78 = .ok (.ifCond .lt 44, 3) := dgX12_way_1 (78, (.ifCond .lt 44, 3)) (List.mem_of_getElem? (i := 5) rfl)
theorem dX12_way_81 : decode cX12_way 81 = .ok (.iload 6, 2) := dgX12_way_1 (81, (.iload 6, 2)) (List.mem_of_getElem? (i := 6) rfl)
theorem dX12_way_83 : decode cX12_way 83 = .ok (.iload 9, 2) := dgX12_way_1 (83, (.iload 9, 2)) (List.mem_of_getElem? (i := 7) rfl)
theorem dX12_way_85 : decode cX12_way 85 = .ok (.invokestatic 454, 3) := dgX12_way_1 (85, (.invokestatic 454, 3)) (List.mem_of_getElem? (i := 8) rfl)
theorem dX12_way_88 : decode cX12_way 88 = .ok (.ifCond .eq 24, 3) := dgX12_way_1 (88, (.ifCond .eq 24, 3)) (List.mem_of_getElem? (i := 9) rfl)
theorem dX12_way_91 : decode cX12_way 91 = .ok (.aload_n 0, 1) := dgX12_way_1 (91, (.aload_n 0, 1)) (List.mem_of_getElem? (i := 10) rfl)
theorem dX12_way_92 : decode cX12_way 92 = .ok (.getfield 101, 3) := dgX12_way_1 (92, (.getfield 101, 3)) (List.mem_of_getElem? (i := 11) rfl)
theorem dX12_way_95 : decode cX12_way 95 = .ok (.bipush 64, 2) := dgX12_way_1 (95, (.bipush 64, 2)) (List.mem_of_getElem? (i := 12) rfl)
theorem dX12_way_97 : decode cX12_way 97 = .ok (.iload 7, 2) := dgX12_way_1 (97, (.iload 7, 2)) (List.mem_of_getElem? (i := 13) rfl)
theorem dX12_way_99 : decode cX12_way 99 = .ok (.imul, 1) := dgX12_way_1 (99, (.imul, 1)) (List.mem_of_getElem? (i := 14) rfl)
theorem dX12_way_100 : decode cX12_way 100 = .ok (.iload 9, 2) := dgX12_way_1 (100, (.iload 9, 2)) (List.mem_of_getElem? (i := 15) rfl)
theorem dX12_way_102 : decode cX12_way 102 = .ok (.iadd, 1) := dgX12_way_1 (102, (.iadd, 1)) (List.mem_of_getElem? (i := 16) rfl)
theorem dX12_way_103 : decode cX12_way 103 = .ok (.baload, 1) := dgX12_way_1 (103, (.baload, 1)) (List.mem_of_getElem? (i := 17) rfl)
theorem dX12_way_104 : decode cX12_way 104 = .ok (.ifCond .eq 8, 3) := dgX12_way_1 (104, (.ifCond .eq 8, 3)) (List.mem_of_getElem? (i := 18) rfl)
theorem dX12_way_107 : decode cX12_way 107 = .ok (.iload 9, 2) := dgX12_way_1 (107, (.iload 9, 2)) (List.mem_of_getElem? (i := 19) rfl)
theorem dX12_way_109 : decode cX12_way 109 = .ok (.goto 5, 3) := dgX12_way_1 (109, (.goto 5, 3)) (List.mem_of_getElem? (i := 20) rfl)
theorem dX12_way_112 : decode cX12_way 112 = .ok (.iload 8, 2) := dgX12_way_1 (112, (.iload 8, 2)) (List.mem_of_getElem? (i := 21) rfl)
theorem dX12_way_114 : decode cX12_way 114 = .ok (.istore 8, 2) := dgX12_way_1 (114, (.istore 8, 2)) (List.mem_of_getElem? (i := 22) rfl)
theorem dX12_way_116 : decode cX12_way 116 = .ok (.iinc 9 (-1), 3) := dgX12_way_1 (116, (.iinc 9 (-1), 3)) (List.mem_of_getElem? (i := 23) rfl)
theorem dX12_way_119 : decode cX12_way 119 = .ok (.goto (-43), 3) := dgX12_way_1 (119, (.goto (-43), 3)) (List.mem_of_getElem? (i := 24) rfl)
theorem dX12_way_122 : decode cX12_way 122 = .ok (.iload 8, 2) := dgX12_way_1 (122, (.iload 8, 2)) (List.mem_of_getElem? (i := 25) rfl)
theorem dX12_way_124 : decode cX12_way 124 = .ok (.istore 6, 2) := dgX12_way_1 (124, (.istore 6, 2)) (List.mem_of_getElem? (i := 26) rfl)
theorem dX12_way_126 : decode cX12_way 126 = .ok (.iinc 7 1, 3) := dgX12_way_1 (126, (.iinc 7 1, 3)) (List.mem_of_getElem? (i := 27) rfl)
theorem dX12_way_129 : decode cX12_way 129 = .ok (.goto (-67), 3) := dgX12_way_1 (129, (.goto (-67), 3)) (List.mem_of_getElem? (i := 28) rfl)
theorem dX12_way_132 : decode cX12_way 132 = .ok (.iload 6, 2) := dgX12_way_1 (132, (.iload 6, 2)) (List.mem_of_getElem? (i := 29) rfl)
theorem dX12_way_134 : decode cX12_way 134 = .ok (.ireturn, 1) := dgX12_way_1 (134, (.ireturn, 1)) (List.mem_of_getElem? (i := 30) rfl)
theorem ml_X12_454 : Cond.methodLink RX12 454 yX12_isStep ∈ tblG := tg 1768 (by decide +kernel) (by decide +kernel)
theorem st_X12_isStep : Cond.static yX12_isStep ∈ tblG := tg 1769 (by decide +kernel) (by decide +kernel)
theorem cd_X12_isStep : Cond.code yX12_isStep cX12_isStep 4 (some .boolean) ∈ tblG := tg 1770 (by decide +kernel) (by decide +kernel)
theorem gW_X12_isStep : GoodIn tblG (wsG yX12_isStep cX12_isStep 4 (some .boolean)) := tgi cd_X12_isStep
theorem gS_X12_454 : GoodIn tblG (va_wsS RX12 454 yX12_isStep (wsG yX12_isStep cX12_isStep 4 (some .boolean))) := tgS ml_X12_454 st_X12_isStep ini_X12 gW_X12_isStep
theorem hs_X12_isStep : yX12_isStep.cls ≠ "java/lang/invoke/MethodHandle" ∧ yX12_isStep.cls ≠ "java/lang/invoke/VarHandle" ∧ (parseMethodDescriptor yX12_isStep.desc).map (fun d => d.parameters.length) = some 2 := by decide +kernel
set_option maxHeartbeats 4000000 in
set_option maxRecDepth 100000 in
theorem n_way (l : Launch) (G : g5_G) (b_o b_ro b_se b_re b_pt b_tr b_ld b_rf b_im b_ke b_tp b_nl b_op b_ar b_pi b_pa b_ws b_hw b_ip b_ah b_be b_me b_wn : Nat) (sz : Nat) (u_th : Int32) (u_sa : Int32) (u_fd : Int32) (u_td : Int32) (u_fr : Int32) (u_to : Int32) (u_so : Int32) (u_fa : Int32) (u_bd : Int32) (u_nc : Int32) (u_co : Int32) (u_le : Int32) (u_pd : Int32) (u_od : Int32) (u_la : Int32) (u_bk : Int32) (u_ce : Int32) (u_ho : Int32) (u_wy : Int32) (u_bt : Int32) (u_ps : Int32) (u_tg : Int32) (u_sn : Int32) (u_ic : Int32) (u_wd : Int32) (u_id : Int32) (p_1 : Int32) (p_2 : Int32) (p_3 : Int32) (p_4 : Int32) (u_wo : Int64) (u_va : Int64) (u_su : Int64) (u_st : Int64) (v_ro : Nat → Int32) (v_se : Nat → Int64) (v_re : Nat → Int64) (v_pt : Nat → Int32) (v_tr : Nat → Int32) (v_ld : Nat → Int32) (h_u_td : 0 ≤ u_td.toInt ∧ u_td.toInt ≤ 400) (h_u_fr : 0 ≤ u_fr.toInt ∧ u_fr.toInt ≤ 400) (h_u_to : 0 ≤ u_to.toInt ∧ u_to.toInt ≤ 400) (h_u_bd : 0 ≤ u_bd.toInt ∧ u_bd.toInt ≤ 1) (h_u_nc : 0 ≤ u_nc.toInt ∧ u_nc.toInt ≤ 12) (h_u_co : 0 ≤ u_co.toInt ∧ u_co.toInt ≤ 400) (h_u_pd : 0 ≤ u_pd.toInt ∧ u_pd.toInt ≤ 400) (h_u_la : 0 ≤ u_la.toInt ∧ u_la.toInt ≤ 4840) (h_u_bk : 0 ≤ u_bk.toInt ∧ u_bk.toInt ≤ 1) (h_u_ce : 0 ≤ u_ce.toInt ∧ u_ce.toInt ≤ 63) (h_u_ho : 0 ≤ u_ho.toInt ∧ u_ho.toInt ≤ 23) (h_u_wy : 0 ≤ u_wy.toInt ∧ u_wy.toInt ≤ 3) (h_u_bt : 0 ≤ u_bt.toInt ∧ u_bt.toInt ≤ 1000000) (h_u_ps : 0 ≤ u_ps.toInt ∧ u_ps.toInt ≤ 200) (h_u_ic : 0 ≤ u_ic.toInt ∧ u_ic.toInt ≤ 1) (h_u_id : 0 ≤ u_id.toInt ∧ u_id.toInt ≤ 1) (r_ro : MI v_ro) (r_pt : PTI v_pt) : Met l yX12_way (wsG yX12_way cX12_way 10 (some .int)) ({ frames := 9, cells := 0, slots := 0, locals := 228 }) (va_Pc [.ref b_o, .int p_1, .int p_2, .int p_3, .int p_4] (g5_P G [(b_o, (oc12 u_th u_sa b_rf b_ro b_im b_ke u_fd b_tp u_td u_fr u_to u_so u_wo u_fa u_bd u_nc b_nl u_co b_op b_ar u_le b_pi b_pa u_pd u_od b_ws b_hw u_la b_se b_re u_bk u_va u_su u_ce u_ho u_wy u_bt u_ps b_pt u_tg u_sn b_ip u_ic b_ah b_be b_me u_wd b_tr b_ld u_st b_wn u_id)), (b_ro, (arI G 5740 v_ro)), (b_se, (arJ G 13 v_se)), (b_re, (arJ G 400 v_re)), (b_pt, (arI G 200 v_pt)), (b_tr, (arZ G 1536 v_tr)), (b_ld, (arZ G 1536 v_ld))] sz)) (va_Qi (fun (r : Int32) (u : va_W) => (∃ (o_r : Int32) (o_th : Int32) (o_la : Int32) (o_bk : Int32) (o_va : Int64) (o_su : Int64) (o_ce : Int32) (o_ho : Int32) (o_wy : Int32) (o_bt : Int32) (o_ps : Int32) (o_tg : Int32) (o_sn : Int32) (o_se : Nat → Int64) (o_re : Nat → Int64) (o_pt : Nat → Int32) (o_tr : Nat → Int32) (o_ld : Nat → Int32), (0 ≤ o_la.toInt ∧ o_la.toInt ≤ 4840) ∧ (0 ≤ o_bk.toInt ∧ o_bk.toInt ≤ 1) ∧ (0 ≤ o_ce.toInt ∧ o_ce.toInt ≤ 63) ∧ (0 ≤ o_ho.toInt ∧ o_ho.toInt ≤ 23) ∧ (0 ≤ o_wy.toInt ∧ o_wy.toInt ≤ 3) ∧ (0 ≤ o_bt.toInt ∧ o_bt.toInt ≤ 1000000) ∧ (0 ≤ o_ps.toInt ∧ o_ps.toInt ≤ 200) ∧ (PTI o_pt) ∧ (r = o_r) ∧ (u = [(b_o, (oc12 o_th u_sa b_rf b_ro b_im b_ke u_fd b_tp u_td u_fr u_to u_so u_wo u_fa u_bd u_nc b_nl u_co b_op b_ar u_le b_pi b_pa u_pd u_od b_ws b_hw o_la b_se b_re o_bk o_va o_su o_ce o_ho o_wy o_bt o_ps b_pt o_tg o_sn b_ip u_ic b_ah b_be b_me u_wd b_tr b_ld u_st b_wn u_id)), (b_ro, (arI G 5740 v_ro)), (b_se, (arJ G 13 o_se)), (b_re, (arJ G 400 o_re)), (b_pt, (arI G 200 o_pt)), (b_tr, (arZ G 1536 o_tr)), (b_ld, (arZ G 1536 o_ld))]))) (g5_B G (va_A [(b_o, (oc12 u_th u_sa b_rf b_ro b_im b_ke u_fd b_tp u_td u_fr u_to u_so u_wo u_fa u_bd u_nc b_nl u_co b_op b_ar u_le b_pi b_pa u_pd u_od b_ws b_hw u_la b_se b_re u_bk u_va u_su u_ce u_ho u_wy u_bt u_ps b_pt u_tg u_sn b_ip u_ic b_ah b_be b_me u_wd b_tr b_ld u_st b_wn u_id)), (b_ro, (arI G 5740 v_ro)), (b_se, (arJ G 13 v_se)), (b_re, (arJ G 400 v_re)), (b_pt, (arI G 200 v_pt)), (b_tr, (arZ G 1536 v_tr)), (b_ld, (arZ G 1536 v_ld))] sz)) (va_A [(b_o, (oc12 u_th u_sa b_rf b_ro b_im b_ke u_fd b_tp u_td u_fr u_to u_so u_wo u_fa u_bd u_nc b_nl u_co b_op b_ar u_le b_pi b_pa u_pd u_od b_ws b_hw u_la b_se b_re u_bk u_va u_su u_ce u_ho u_wy u_bt u_ps b_pt u_tg u_sn b_ip u_ic b_ah b_be b_me u_wd b_tr b_ld u_st b_wn u_id)), (b_ro, (arI G 5740 v_ro)), (b_se, (arJ G 13 v_se)), (b_re, (arJ G 400 v_re)), (b_pt, (arI G 200 v_pt)), (b_tr, (arZ G 1536 v_tr)), (b_ld, (arZ G 1536 v_ld))] sz)) 0 0 (va_A [(b_o, (oc12 u_th u_sa b_rf b_ro b_im b_ke u_fd b_tp u_td u_fr u_to u_so u_wo u_fa u_bd u_nc b_nl u_co b_op b_ar u_le b_pi b_pa u_pd u_od b_ws b_hw u_la b_se b_re u_bk u_va u_su u_ce u_ho u_wy u_bt u_ps b_pt u_tg u_sn b_ip u_ic b_ah b_be b_me u_wd b_tr b_ld u_st b_wn u_id)), (b_ro, (arI G 5740 v_ro)), (b_se, (arJ G 13 v_se)), (b_re, (arJ G 400 v_re)), (b_pt, (arI G 200 v_pt)), (b_tr, (arZ G 1536 v_tr)), (b_ld, (arZ G 1536 v_ld))] sz) := by
  refine Met.ofW (cc := cX12_way) (maxL := 10) (ret := (some .int)) (by decide +kernel) rfl ?_
  intro p e s m args below meth c s₁ B hml hv
  obtain ⟨rfl, hsz, hP, hK, hD0, hN, hT⟩ := hv
  have hx := B.exec
  have hb := B.bytes
  have hr := B.returns
  have hts : ∀ w ∈ tblG, w.before _ s = true := fun w h => atoms_spec (ws := (wsG yX12_way cX12_way 10 (some .int))) B.pre w (List.mem_cons_of_mem _ h)
  have hown : s.vm.findClass RX12 = some m.cls := findClass_of_methodNamed B.named
  have hlocks := B.notSynchronized
  subst hsz
  have hD := hD0.self (sz := s.heap.size)
  generalize hAe : va_A [(b_o, (oc12 u_th u_sa b_rf b_ro b_im b_ke u_fd b_tp u_td u_fr u_to u_so u_wo u_fa u_bd u_nc b_nl u_co b_op b_ar u_le b_pi b_pa u_pd u_od b_ws b_hw u_la b_se b_re u_bk u_va u_su u_ce u_ho u_wy u_bt u_ps b_pt u_tg u_sn b_ip u_ic b_ah b_be b_me u_wd b_tr b_ld u_st b_wn u_id)), (b_ro, (arI G 5740 v_ro)), (b_se, (arJ G 13 v_se)), (b_re, (arJ G 400 v_re)), (b_pt, (arI G 200 v_pt)), (b_tr, (arZ G 1536 v_tr)), (b_ld, (arZ G 1536 v_ld))] s.heap.size = A at hD hT ⊢
  have hA : ∀ q : Nat, s.heap.size ≤ q → A q := fun q h => by rw [← hAe]; exact Or.inr h
  have hS : va_S A s.heap s.heap [] := va_S.rf
  replace hP : va_P G.1 vwCl [(b_o, (oc12 u_th u_sa b_rf b_ro b_im b_ke u_fd b_tp u_td u_fr u_to u_so u_wo u_fa u_bd u_nc b_nl u_co b_op b_ar u_le b_pi b_pa u_pd u_od b_ws b_hw u_la b_se b_re u_bk u_va u_su u_ce u_ho u_wy u_bt u_ps b_pt u_tg u_sn b_ip u_ic b_ah b_be b_me u_wd b_tr b_ld u_st b_wn u_id)), (b_ro, (arI G 5740 v_ro)), (b_se, (arJ G 13 v_se)), (b_re, (arJ G 400 v_re)), (b_pt, (arI G 200 v_pt)), (b_tr, (arZ G 1536 v_tr)), (b_ld, (arZ G 1536 v_ld))] s.heap := hP
  have hl := lv_entry ([.ref b_o, .int p_1, .int p_2, .int p_3, .int p_4]) (n := 10) (Nat.le_of_ble_eq_true rfl)
  rw [lg_entry_eq]
  generalize (lg_sl ([.ref b_o, .int p_1, .int p_2, .int p_3, .int p_4]) ++ List.replicate (10 - (lg_sl ([.ref b_o, .int p_1, .int p_2, .int p_3, .int p_4])).length) Slot.unset).toArray = ls at hl ⊢
  replace hl : lv_has ls 10 [(0, .ref b_o), (1, .int p_1), (2, .int p_2), (3, .int p_3), (4, .int p_4)] := hl
  refine lv_aload_n hx hb dX12_way_0 rfl (lv_at hl 0 rfl) ?_
  refine lv_iconst (v := 0) hx hb dX12_way_1 (by decide +kernel) ?_
  refine va_put (D := G.1) (ci := 12) (v := .int 0) (ty := .int) (C := RX12) (T := TX12) (N := 52) hx hb hts inG_X12 tyX12 tyX12_ok nmX12 hown hK hP hD hS 0 rfl rfl 0 (by decide +kernel) (hts _ fl_X12_107) (fun _ h9 => h9) rfl (by decide +kernel) rfl rfl (Nat.le_of_ble_eq_true rfl) dX12_way_2 ?_
  clear hP hD hS
  intro H locs hP hD hS
  refine g5_rs [(b_o, (oc12 0 u_sa b_rf b_ro b_im b_ke u_fd b_tp u_td u_fr u_to u_so u_wo u_fa u_bd u_nc b_nl u_co b_op b_ar u_le b_pi b_pa u_pd u_od b_ws b_hw u_la b_se b_re u_bk u_va u_su u_ce u_ho u_wy u_bt u_ps b_pt u_tg u_sn b_ip u_ic b_ah b_be b_me u_wd b_tr b_ld u_st b_wn u_id)), (b_ro, (arI G 5740 v_ro)), (b_se, (arJ G 13 v_se)), (b_re, (arJ G 400 v_re)), (b_pt, (arI G 200 v_pt)), (b_tr, (arZ G 1536 v_tr)), (b_ld, (arZ G 1536 v_ld))] hP hD ?_
  clear hP hD
  intro hP hD
  refine lv_aload_n hx hb dX12_way_5 rfl (lv_at hl 0 rfl) ?_
  refine W.eq (g2 := F0 m 6 ls [.ref b_o]) rfl ?_
  refine lv_iload_n hx hb dX12_way_6 rfl (lv_at hl 1 rfl) ?_
  obtain ⟨hPc, hDc, hFc⟩ := g5_sub3 (wc := [(b_o, (oc12 0 u_sa b_rf b_ro b_im b_ke u_fd b_tp u_td u_fr u_to u_so u_wo u_fa u_bd u_nc b_nl u_co b_op b_ar u_le b_pi b_pa u_pd u_od b_ws b_hw u_la b_se b_re u_bk u_va u_su u_ce u_ho u_wy u_bt u_ps b_pt u_tg u_sn b_ip u_ic b_ah b_be b_me u_wd b_tr b_ld u_st b_wn u_id)), (b_ro, (arI G 5740 v_ro))]) hP hD hS hA [0, 1] (by decide +kernel) rfl
  refine va_calli (va_runV (As := [.int p_1]) (rest := []) ⟨hx, hb, hml, hown, hts⟩ (n_isBody l G b_o b_ro b_rf b_im b_ke b_tp b_nl b_op b_ar b_pi b_pa b_ws b_hw b_se b_re b_pt b_ip b_ah b_be b_me b_tr b_ld b_wn H.size 0 u_sa u_fd u_td u_fr u_to u_so u_fa u_bd u_nc u_co u_le u_pd u_od u_la u_bk u_ce u_ho u_wy u_bt u_ps u_tg u_sn u_ic u_wd u_id p_1 u_wo u_va u_su u_st v_ro h_u_td h_u_fr h_u_to h_u_bd h_u_nc h_u_co h_u_pd h_u_la h_u_bk h_u_ce h_u_ho h_u_wy h_u_bt h_u_ps h_u_ic h_u_id (r_ro)) (cwV 1 hts gV_X12_180 rfl rfl rfl hv_X12_isBody ⟨Nat.le_of_ble_eq_true rfl, Nat.le_of_ble_eq_true rfl⟩) (g5_preV hPc hK hDc hN hT hS hFc (ci := 12) (q0 := 0) rfl rfl) rfl rfl hl.1 rfl (lv_room (Nat.le_of_ble_eq_true rfl)) dX12_way_7 ⟨Nat.le_of_ble_eq_true rfl, Nat.le_of_ble_eq_true rfl⟩) hS (fun q _ h => hFc q h) hFc (fun r u t H locs ht hvm hw hB hz1 hk1 hS => ?_)
  obtain ⟨hP1, hD1⟩ := hB
  have hP1 := g5_ht ht hP1
  rcases hw with ⟨(i_1 : 0 ≤ p_1.toInt ∧ p_1.toInt ≤ 4), rfl, rfl⟩ | ⟨rfl, rfl⟩
  ·
    have hJ9 := va_join (wr := [(b_se, (arJ G 13 v_se)), (b_re, (arJ G 400 v_re)), (b_pt, (arI G 200 v_pt)), (b_tr, (arZ G 1536 v_tr)), (b_ld, (arZ G 1536 v_ld))]) hP hD [0, 1] [2, 3, 4, 5, 6] rfl rfl (by decide +kernel) (by decide +kernel) hk1 hFc hP1 hD1
    clear hP hD hPc hDc hFc ht hvm hz1 hk1 hP1 hD1
    obtain ⟨hP, hD⟩ := hJ9
    refine g5_rs [(b_se, (arJ G 13 v_se)), (b_re, (arJ G 400 v_re)), (b_pt, (arI G 200 v_pt)), (b_tr, (arZ G 1536 v_tr)), (b_ld, (arZ G 1536 v_ld)), (b_o, (oc12 0 u_sa b_rf b_ro b_im b_ke u_fd b_tp u_td u_fr u_to u_so u_wo u_fa u_bd u_nc b_nl u_co b_op b_ar u_le b_pi b_pa u_pd u_od b_ws b_hw u_la b_se b_re u_bk u_va u_su u_ce u_ho u_wy u_bt u_ps b_pt u_tg u_sn b_ip u_ic b_ah b_be b_me u_wd b_tr b_ld u_st b_wn u_id)), (b_ro, (arI G 5740 v_ro))] hP hD ?_
    clear hP hD
    intro hP hD
    refine lv_if_eq (tgt := 27) hx hb dX12_way_10 (by decide +kernel) (fun c_2 => ?_) (fun c_2 => ?_)
    ·
      exact absurd c_2 (by decide +kernel)
    ·
      refine lv_iload_n hx hb dX12_way_13 rfl (lv_at hl 2 rfl) ?_
      obtain ⟨hPc, hDc, hFc⟩ := g5_sub3 (wc := []) hP hD hS hA [] (by decide +kernel) rfl
      refine va_calli (va_runS (As := [.int p_2]) (rest := []) ⟨hx, hb, hml, hown, hts⟩ (n_isCell l G H.size p_2) (va_cwS 1 hts gS_X12_138 rfl rfl rfl hs_X12_isCell ⟨Nat.le_of_ble_eq_true rfl, Nat.le_of_ble_eq_true rfl⟩) (g5_preS hPc hK hDc hN hT hS hFc) rfl rfl hl.1 rfl (lv_room (Nat.le_of_ble_eq_true rfl)) dX12_way_14 ⟨Nat.le_of_ble_eq_true rfl, Nat.le_of_ble_eq_true rfl⟩) hS (fun q _ h => hFc q h) hFc (fun r u t H locs ht hvm hw hB hz1 hk1 hS => ?_)
      obtain ⟨hP1, hD1⟩ := hB
      have hP1 := g5_ht ht hP1
      rcases hw with ⟨(i_3 : 0 ≤ p_2.toInt ∧ p_2.toInt ≤ 63), rfl, rfl⟩ | ⟨rfl, rfl⟩
      ·
        have hJ9 := g5_same hP hk1
        clear hP hPc hDc hFc ht hvm hz1 hk1 hP1 hD1
        have hP := hJ9
        clear hJ9
        refine lv_if_eq (tgt := 27) hx hb dX12_way_17 (by decide +kernel) (fun c_4 => ?_) (fun c_4 => ?_)
        ·
          exact absurd c_4 (by decide +kernel)
        ·
          refine lv_iload_n hx hb dX12_way_20 rfl (lv_at hl 3 rfl) ?_
          obtain ⟨hPc, hDc, hFc⟩ := g5_sub3 (wc := []) hP hD hS hA [] (by decide +kernel) rfl
          refine va_calli (va_runS (As := [.int p_3]) (rest := []) ⟨hx, hb, hml, hown, hts⟩ (n_isHour l G H.size p_3) (va_cwS 1 hts gS_X12_175 rfl rfl rfl hs_X12_isHour ⟨Nat.le_of_ble_eq_true rfl, Nat.le_of_ble_eq_true rfl⟩) (g5_preS hPc hK hDc hN hT hS hFc) rfl rfl hl.1 rfl (lv_room (Nat.le_of_ble_eq_true rfl)) dX12_way_21 ⟨Nat.le_of_ble_eq_true rfl, Nat.le_of_ble_eq_true rfl⟩) hS (fun q _ h => hFc q h) hFc (fun r u t H locs ht hvm hw hB hz1 hk1 hS => ?_)
          obtain ⟨hP1, hD1⟩ := hB
          have hP1 := g5_ht ht hP1
          rcases hw with ⟨(i_5 : 0 ≤ p_3.toInt ∧ p_3.toInt ≤ 23), rfl, rfl⟩ | ⟨rfl, rfl⟩
          ·
            have hJ9 := g5_same hP hk1
            clear hP hPc hDc hFc ht hvm hz1 hk1 hP1 hD1
            have hP := hJ9
            clear hJ9
            refine lv_if_ne (tgt := 29) hx hb dX12_way_24 (by decide +kernel) (fun c_6 => ?_) (fun c_6 => ?_)
            ·
              refine lv_aload_n hx hb dX12_way_29 rfl (lv_at hl 0 rfl) ?_
              refine lv_iload_n hx hb dX12_way_30 rfl (lv_at hl 1 rfl) ?_
              refine lv_iload_n hx hb dX12_way_31 rfl (lv_at hl 2 rfl) ?_
              refine lv_iload_n hx hb dX12_way_32 rfl (lv_at hl 3 rfl) ?_
              refine W.eq (g2 := F0 m 33 ls [.int p_3, .int p_2, .int p_1, .ref b_o]) rfl ?_
              obtain ⟨hPc, hDc, hFc⟩ := g5_sub3 (wc := [(b_o, (oc12 0 u_sa b_rf b_ro b_im b_ke u_fd b_tp u_td u_fr u_to u_so u_wo u_fa u_bd u_nc b_nl u_co b_op b_ar u_le b_pi b_pa u_pd u_od b_ws b_hw u_la b_se b_re u_bk u_va u_su u_ce u_ho u_wy u_bt u_ps b_pt u_tg u_sn b_ip u_ic b_ah b_be b_me u_wd b_tr b_ld u_st b_wn u_id)), (b_ro, (arI G 5740 v_ro)), (b_se, (arJ G 13 v_se)), (b_re, (arJ G 400 v_re)), (b_pt, (arI G 200 v_pt)), (b_tr, (arZ G 1536 v_tr)), (b_ld, (arZ G 1536 v_ld))]) hP hD hS hA [5, 6, 0, 1, 2, 3, 4] (by decide +kernel) rfl
              refine va_calli (va_runV (As := [.int p_1, .int p_2, .int p_3]) (rest := []) ⟨hx, hb, hml, hown, hts⟩ (n_findSoonest l G b_o b_ro b_se b_re b_pt b_tr b_ld b_rf b_im b_ke b_tp b_nl b_op b_ar b_pi b_pa b_ws b_hw b_ip b_ah b_be b_me b_wn H.size 0 u_sa u_fd u_td u_fr u_to u_so u_fa u_bd u_nc u_co u_le u_pd u_od u_la u_bk u_ce u_ho u_wy u_bt u_ps u_tg u_sn u_ic u_wd u_id p_1 p_2 p_3 u_wo u_va u_su u_st v_ro v_se v_re v_pt v_tr v_ld h_u_td h_u_fr h_u_to h_u_bd h_u_nc h_u_co h_u_pd h_u_la h_u_bk h_u_ce h_u_ho h_u_wy h_u_bt h_u_ps h_u_ic h_u_id i_3 i_5 (r_ro) (r_pt)) (cwV 3 hts gV_X12_466 rfl rfl rfl hv_X12_findSoonest ⟨Nat.le_of_ble_eq_true rfl, Nat.le_of_ble_eq_true rfl⟩) (g5_preV hPc hK hDc hN hT hS hFc (ci := 12) (q0 := 0) rfl rfl) rfl rfl hl.1 rfl (lv_room (Nat.le_of_ble_eq_true rfl)) dX12_way_33 ⟨Nat.le_of_ble_eq_true rfl, Nat.le_of_ble_eq_true rfl⟩) hS (fun q _ h => hFc q h) hFc (fun r u t H locs ht hvm hw hB hz1 hk1 hS => ?_)
              obtain ⟨hP1, hD1⟩ := hB
              have hP1 := g5_ht ht hP1
              obtain ⟨z16, z17, z18, z19, z20, z21, z22, z23, z24, z25, z26, z27, z28, z29, z30, z31, z32, (i_7 : (-1) ≤ z16.toInt ∧ z16.toInt ≤ 23), (i_8 : 0 ≤ z17.toInt ∧ z17.toInt ≤ 4840), (i_9 : 0 ≤ z18.toInt ∧ z18.toInt ≤ 1), (i_10 : 0 ≤ z21.toInt ∧ z21.toInt ≤ 63), (i_11 : 0 ≤ z22.toInt ∧ z22.toInt ≤ 23), (i_12 : 0 ≤ z23.toInt ∧ z23.toInt ≤ 3), (i_13 : 0 ≤ z24.toInt ∧ z24.toInt ≤ 1000000), (i_14 : 0 ≤ z25.toInt ∧ z25.toInt ≤ 200), (i_15 : PTI z30), y33, rfl⟩ := hw
              have hJ9 := va_join (wr := []) hP hD [5, 6, 0, 1, 2, 3, 4] [] rfl rfl (by decide +kernel) (by decide +kernel) hk1 hFc hP1 hD1
              clear hP hD hPc hDc hFc ht hvm hz1 hk1 hP1 hD1
              obtain ⟨hP, hD⟩ := hJ9
              refine g5_rs [(b_o, (oc12 0 u_sa b_rf b_ro b_im b_ke u_fd b_tp u_td u_fr u_to u_so u_wo u_fa u_bd u_nc b_nl u_co b_op b_ar u_le b_pi b_pa u_pd u_od b_ws b_hw z17 b_se b_re z18 z19 z20 z21 z22 z23 z24 z25 b_pt z26 z27 b_ip u_ic b_ah b_be b_me u_wd b_tr b_ld u_st b_wn u_id)), (b_ro, (arI G 5740 v_ro)), (b_se, (arJ G 13 z28)), (b_re, (arJ G 400 z29)), (b_pt, (arI G 200 z30)), (b_tr, (arZ G 1536 z31)), (b_ld, (arZ G 1536 z32))] hP hD ?_
              clear hP hD
              intro hP hD
              refine g5_ti (v := z16) y33 ?_
              refine lv_istore (lv' := [(5, .int z16), (0, .ref b_o), (1, .int p_1), (2, .int p_2), (3, .int p_3), (4, .int p_4)]) hx hb dX12_way_36 hl (by decide +kernel) rfl ?_
              clear hl
              intro ls hl
              refine lv_iload hx hb dX12_way_38 (lv_at hl 5 rfl) ?_
              refine lv_i2l (v := p_4.toInt64) hx hb dX12_way_40 rfl ?_
              refine lv_iload_n hx hb dX12_way_41 rfl (lv_at hl 4 rfl) ?_
              refine W.eq (g2 := F0 m 42 ls [.int p_3, .long p_4.toInt64]) rfl ?_
              refine lv_i2l (v := p_3.toInt64) hx hb dX12_way_42 rfl ?_
              refine lv_iload hx hb dX12_way_43 (lv_at hl 0 rfl) ?_
              refine lv_i2l (v := z16.toInt64) hx hb dX12_way_45 rfl ?_
              obtain ⟨hPc, hDc, hFc⟩ := g5_sub3 (wc := []) hP hD hS hA [] (by decide +kernel) rfl
              refine va_calli (va_runS (As := [.long p_4.toInt64, .long p_3.toInt64, .long z16.toInt64]) (rest := []) ⟨hx, hb, hml, hown, hts⟩ (n_in3 l G H.size p_4 p_3 z16) (va_cwS 3 hts gS_X12_121 rfl rfl rfl hs_X12_in ⟨Nat.le_of_ble_eq_true rfl, Nat.le_of_ble_eq_true rfl⟩) (g5_preS hPc hK hDc hN hT hS hFc) rfl rfl hl.1 rfl (lv_room (Nat.le_of_ble_eq_true rfl)) dX12_way_46 ⟨Nat.le_of_ble_eq_true rfl, Nat.le_of_ble_eq_true rfl⟩) hS (fun q _ h => hFc q h) hFc (fun r u t H locs ht hvm hw hB hz1 hk1 hS => ?_)
              obtain ⟨hP1, hD1⟩ := hB
              have hP1 := g5_ht ht hP1
              rcases hw with ⟨(i_34 : p_4.toInt < p_3.toInt ∨ z16.toInt < p_4.toInt), rfl, rfl⟩ | ⟨(i_35 : p_3.toInt ≤ p_4.toInt ∧ p_4.toInt ≤ z16.toInt), rfl, rfl⟩
              ·
                have hJ9 := g5_same hP hk1
                clear hP hPc hDc hFc ht hvm hz1 hk1 hP1 hD1
                have hP := hJ9
                clear hJ9
                refine lv_if_ne (tgt := 54) hx hb dX12_way_49 (by decide +kernel) (fun c_36 => ?_) (fun c_36 => ?_)
                ·
                  exact absurd c_36 (by decide +kernel)
                ·
                  refine lv_iconst (v := (-1)) hx hb dX12_way_52 (by decide +kernel) ?_
                  exact W.iret (v := (-1)) hx hb hr (fun t ht hW => ⟨⟨(-1), [(b_o, (oc12 0 u_sa b_rf b_ro b_im b_ke u_fd b_tp u_td u_fr u_to u_so u_wo u_fa u_bd u_nc b_nl u_co b_op b_ar u_le b_pi b_pa u_pd u_od b_ws b_hw z17 b_se b_re z18 z19 z20 z21 z22 z23 z24 z25 b_pt z26 z27 b_ip u_ic b_ah b_be b_me u_wd b_tr b_ld u_st b_wn u_id)), (b_ro, (arI G 5740 v_ro)), (b_se, (arJ G 13 z28)), (b_re, (arJ G 400 z29)), (b_pt, (arI G 200 z30)), (b_tr, (arZ G 1536 z31)), (b_ld, (arZ G 1536 z32))], rfl, ⟨(-1), 0, z17, z18, z19, z20, z21, z22, z23, z24, z25, z26, z27, z28, z29, z30, z31, z32, i_8, i_9, i_10, i_11, i_12, i_13, i_14, i_15, rfl, rfl⟩, by rw [ht]; exact hP.sub [0, 1, 2, 3, 4, 5, 6] rfl, hD.sub [0, 1, 2, 3, 4, 5, 6] (by decide +kernel) rfl⟩, hS.F ht⟩) hS.2.2 dX12_way_53
              ·
                have hJ9 := g5_same hP hk1
                clear hP hPc hDc hFc ht hvm hz1 hk1 hP1 hD1
                have hP := hJ9
                clear hJ9
                refine lv_if_ne (tgt := 54) hx hb dX12_way_49 (by decide +kernel) (fun c_37 => ?_) (fun c_37 => ?_)
                ·
                  refine lv_iload_n hx hb dX12_way_54 rfl (lv_at hl 3 rfl) ?_
                  refine lv_istore (lv' := [(6, .int p_2), (5, .int z16), (0, .ref b_o), (1, .int p_1), (2, .int p_2), (3, .int p_3), (4, .int p_4)]) hx hb dX12_way_55 hl (by decide +kernel) rfl ?_
                  clear hl
                  intro ls hl
                  refine lv_iload_n hx hb dX12_way_57 rfl (lv_at hl 5 rfl) ?_
                  refine lv_iconst (v := 1) hx hb dX12_way_58 (by decide +kernel) ?_
                  refine W.eq (g2 := F0 m 59 ls [.int 1, .int p_3]) rfl ?_
                  refine lv_iadd hx hb dX12_way_59 ?_
                  have t_38 : (p_3 + 1).toInt = p_3.toInt + 1 := g5_iadd (a := p_3.toInt) (b := 1) (by rfl) (by decide +kernel) (by omega) (by omega)
                  refine lv_istore (lv' := [(7, .int (p_3 + 1)), (6, .int p_2), (5, .int z16), (0, .ref b_o), (1, .int p_1), (2, .int p_2), (3, .int p_3), (4, .int p_4)]) hx hb dX12_way_60 hl (by decide +kernel) rfl ?_
                  clear hl
                  intro ls hl
                  refine g5_loop (α := (Int32) × (Int32)) (fun (q : (Int32) × (Int32)) (ls : Array Slot) (H : Heap) (locs : List Loc) => match q with | (k62_7, k62_6) => lv_has ls 10 [(6, .int k62_6), (7, .int k62_7), (5, .int z16), (0, .ref b_o), (1, .int p_1), (2, .int p_2), (3, .int p_3), (4, .int p_4)] ∧ va_P G.1 vwCl [(b_o, (oc12 0 u_sa b_rf b_ro b_im b_ke u_fd b_tp u_td u_fr u_to u_so u_wo u_fa u_bd u_nc b_nl u_co b_op b_ar u_le b_pi b_pa u_pd u_od b_ws b_hw z17 b_se b_re z18 z19 z20 z21 z22 z23 z24 z25 b_pt z26 z27 b_ip u_ic b_ah b_be b_me u_wd b_tr b_ld u_st b_wn u_id)), (b_ro, (arI G 5740 v_ro)), (b_se, (arJ G 13 z28)), (b_re, (arJ G 400 z29)), (b_pt, (arI G 200 z30)), (b_tr, (arZ G 1536 z31)), (b_ld, (arZ G 1536 z32))] H ∧ va_D A [(b_o, (oc12 0 u_sa b_rf b_ro b_im b_ke u_fd b_tp u_td u_fr u_to u_so u_wo u_fa u_bd u_nc b_nl u_co b_op b_ar u_le b_pi b_pa u_pd u_od b_ws b_hw z17 b_se b_re z18 z19 z20 z21 z22 z23 z24 z25 b_pt z26 z27 b_ip u_ic b_ah b_be b_me u_wd b_tr b_ld u_st b_wn u_id)), (b_ro, (arI G 5740 v_ro)), (b_se, (arJ G 13 z28)), (b_re, (arJ G 400 z29)), (b_pt, (arI G 200 z30)), (b_tr, (arZ G 1536 z31)), (b_ld, (arZ G 1536 z32))] ∧ va_S A s.heap H locs ∧ (1 ≤ k62_7.toInt ∧ k62_7.toInt ≤ 24) ∧ ((-1) ≤ k62_6.toInt ∧ k62_6.toInt ≤ 63)) (fun (q : (Int32) × (Int32)) => match q with | (k62_7, k62_6) => Int.toNat (24 - k62_7.toInt)) ((p_3 + 1), p_2) ⟨lv_sub hl [1, 0, 2, 3, 4, 5, 6, 7] rfl, hP, hD, hS, ⟨by omega, by omega⟩, ⟨by omega, by omega⟩⟩ ?_
                  rintro ⟨k62_7, k62_6⟩ ls H locs ⟨hl, hP, hD, hS, (i_39 : 1 ≤ k62_7.toInt ∧ k62_7.toInt ≤ 24), (i_40 : (-1) ≤ k62_6.toInt ∧ k62_6.toInt ≤ 63)⟩ ih_62_41
                  replace hl : lv_has ls 10 [(6, .int k62_6), (7, .int k62_7), (5, .int z16), (0, .ref b_o), (1, .int p_1), (2, .int p_2), (3, .int p_3), (4, .int p_4)] := hl
                  refine g5_rs [(b_o, (oc12 0 u_sa b_rf b_ro b_im b_ke u_fd b_tp u_td u_fr u_to u_so u_wo u_fa u_bd u_nc b_nl u_co b_op b_ar u_le b_pi b_pa u_pd u_od b_ws b_hw z17 b_se b_re z18 z19 z20 z21 z22 z23 z24 z25 b_pt z26 z27 b_ip u_ic b_ah b_be b_me u_wd b_tr b_ld u_st b_wn u_id)), (b_ro, (arI G 5740 v_ro)), (b_se, (arJ G 13 z28)), (b_re, (arJ G 400 z29)), (b_pt, (arI G 200 z30)), (b_tr, (arZ G 1536 z31)), (b_ld, (arZ G 1536 z32))] hP hD ?_
                  clear hP hD
                  intro hP hD
                  refine lv_iload hx hb dX12_way_62 (lv_at hl 1 rfl) ?_
                  refine lv_iload hx hb dX12_way_64 (lv_at hl 7 rfl) ?_
                  refine lv_icmp_gt (tgt := 132) hx hb dX12_way_66 (by decide +kernel) (fun c_42 => ?_) (fun c_42 => ?_)
                  ·
                    have i_42 : k62_7.toInt > p_4.toInt := g5_gt (a := k62_7.toInt) (b := p_4.toInt) rfl rfl c_42
                    refine lv_iload hx hb dX12_way_132 (lv_at hl 0 rfl) ?_
                    exact W.iret (v := k62_6) hx hb hr (fun t ht hW => ⟨⟨k62_6, [(b_o, (oc12 0 u_sa b_rf b_ro b_im b_ke u_fd b_tp u_td u_fr u_to u_so u_wo u_fa u_bd u_nc b_nl u_co b_op b_ar u_le b_pi b_pa u_pd u_od b_ws b_hw z17 b_se b_re z18 z19 z20 z21 z22 z23 z24 z25 b_pt z26 z27 b_ip u_ic b_ah b_be b_me u_wd b_tr b_ld u_st b_wn u_id)), (b_ro, (arI G 5740 v_ro)), (b_se, (arJ G 13 z28)), (b_re, (arJ G 400 z29)), (b_pt, (arI G 200 z30)), (b_tr, (arZ G 1536 z31)), (b_ld, (arZ G 1536 z32))], rfl, ⟨k62_6, 0, z17, z18, z19, z20, z21, z22, z23, z24, z25, z26, z27, z28, z29, z30, z31, z32, i_8, i_9, i_10, i_11, i_12, i_13, i_14, i_15, rfl, rfl⟩, by rw [ht]; exact hP.sub [0, 1, 2, 3, 4, 5, 6] rfl, hD.sub [0, 1, 2, 3, 4, 5, 6] (by decide +kernel) rfl⟩, hS.F ht⟩) hS.2.2 dX12_way_134
                  ·
                    have i_42 : k62_7.toInt ≤ p_4.toInt := g5_gtN (a := k62_7.toInt) (b := p_4.toInt) rfl rfl c_42
                    refine lv_iconst (v := (-1)) hx hb dX12_way_69 (by decide +kernel) ?_
                    refine lv_istore (lv' := [(8, .int (-1)), (6, .int k62_6), (7, .int k62_7), (5, .int z16), (0, .ref b_o), (1, .int p_1), (2, .int p_2), (3, .int p_3), (4, .int p_4)]) hx hb dX12_way_70 hl (by decide +kernel) rfl ?_
                    clear hl
                    intro ls hl
                    refine lv_bipush (v := 63) hx hb dX12_way_72 (by decide +kernel) ?_
                    refine lv_istore (lv' := [(9, .int 63), (8, .int (-1)), (6, .int k62_6), (7, .int k62_7), (5, .int z16), (0, .ref b_o), (1, .int p_1), (2, .int p_2), (3, .int p_3), (4, .int p_4)]) hx hb dX12_way_74 hl (by decide +kernel) rfl ?_
                    clear hl
                    intro ls hl
                    refine g5_loop (α := (Int32) × (Int32)) (fun (q : (Int32) × (Int32)) (ls : Array Slot) (H : Heap) (locs : List Loc) => match q with | (k76_9, k76_8) => lv_has ls 10 [(8, .int k76_8), (9, .int k76_9), (6, .int k62_6), (7, .int k62_7), (5, .int z16), (0, .ref b_o), (1, .int p_1), (2, .int p_2), (3, .int p_3), (4, .int p_4)] ∧ va_P G.1 vwCl [(b_o, (oc12 0 u_sa b_rf b_ro b_im b_ke u_fd b_tp u_td u_fr u_to u_so u_wo u_fa u_bd u_nc b_nl u_co b_op b_ar u_le b_pi b_pa u_pd u_od b_ws b_hw z17 b_se b_re z18 z19 z20 z21 z22 z23 z24 z25 b_pt z26 z27 b_ip u_ic b_ah b_be b_me u_wd b_tr b_ld u_st b_wn u_id)), (b_ro, (arI G 5740 v_ro)), (b_se, (arJ G 13 z28)), (b_re, (arJ G 400 z29)), (b_pt, (arI G 200 z30)), (b_tr, (arZ G 1536 z31)), (b_ld, (arZ G 1536 z32))] H ∧ va_D A [(b_o, (oc12 0 u_sa b_rf b_ro b_im b_ke u_fd b_tp u_td u_fr u_to u_so u_wo u_fa u_bd u_nc b_nl u_co b_op b_ar u_le b_pi b_pa u_pd u_od b_ws b_hw z17 b_se b_re z18 z19 z20 z21 z22 z23 z24 z25 b_pt z26 z27 b_ip u_ic b_ah b_be b_me u_wd b_tr b_ld u_st b_wn u_id)), (b_ro, (arI G 5740 v_ro)), (b_se, (arJ G 13 z28)), (b_re, (arJ G 400 z29)), (b_pt, (arI G 200 z30)), (b_tr, (arZ G 1536 z31)), (b_ld, (arZ G 1536 z32))] ∧ va_S A s.heap H locs ∧ ((-1) ≤ k76_9.toInt ∧ k76_9.toInt ≤ 63) ∧ ((-1) ≤ k76_8.toInt ∧ k76_8.toInt ≤ 63)) (fun (q : (Int32) × (Int32)) => match q with | (k76_9, k76_8) => Int.toNat (k76_9.toInt + 1)) (63, (-1)) ⟨lv_sub hl [1, 0, 2, 3, 4, 5, 6, 7, 8, 9] rfl, hP, hD, hS, ⟨by decide, by decide⟩, ⟨by decide, by decide⟩⟩ ?_
                    rintro ⟨k76_9, k76_8⟩ ls H locs ⟨hl, hP, hD, hS, (i_43 : (-1) ≤ k76_9.toInt ∧ k76_9.toInt ≤ 63), (i_44 : (-1) ≤ k76_8.toInt ∧ k76_8.toInt ≤ 63)⟩ ih_76_45
                    replace hl : lv_has ls 10 [(8, .int k76_8), (9, .int k76_9), (6, .int k62_6), (7, .int k62_7), (5, .int z16), (0, .ref b_o), (1, .int p_1), (2, .int p_2), (3, .int p_3), (4, .int p_4)] := hl
                    refine g5_rs [(b_o, (oc12 0 u_sa b_rf b_ro b_im b_ke u_fd b_tp u_td u_fr u_to u_so u_wo u_fa u_bd u_nc b_nl u_co b_op b_ar u_le b_pi b_pa u_pd u_od b_ws b_hw z17 b_se b_re z18 z19 z20 z21 z22 z23 z24 z25 b_pt z26 z27 b_ip u_ic b_ah b_be b_me u_wd b_tr b_ld u_st b_wn u_id)), (b_ro, (arI G 5740 v_ro)), (b_se, (arJ G 13 z28)), (b_re, (arJ G 400 z29)), (b_pt, (arI G 200 z30)), (b_tr, (arZ G 1536 z31)), (b_ld, (arZ G 1536 z32))] hP hD ?_
                    clear hP hD
                    intro hP hD
                    refine lv_iload hx hb dX12_way_76 (lv_at hl 1 rfl) ?_
                    refine lv_if_lt (tgt := 122) hx hb dX12_way_78 (by decide +kernel) (fun c_46 => ?_) (fun c_46 => ?_)
                    ·
                      have i_46 : k76_9.toInt < 0 := g5_lt (a := k76_9.toInt) (b := 0) rfl (by decide +kernel) c_46
                      refine lv_iload hx hb dX12_way_122 (lv_at hl 0 rfl) ?_
                      refine lv_istore (lv' := [(6, .int k76_8), (8, .int k76_8), (9, .int k76_9), (7, .int k62_7), (5, .int z16), (0, .ref b_o), (1, .int p_1), (2, .int p_2), (3, .int p_3), (4, .int p_4)]) hx hb dX12_way_124 hl (by decide +kernel) rfl ?_
                      clear hl
                      intro ls hl
                      refine lv_iinc (v := (k62_7 + 1)) (lv' := [(7, .int (k62_7 + 1)), (6, .int k76_8), (8, .int k76_8), (9, .int k76_9), (5, .int z16), (0, .ref b_o), (1, .int p_1), (2, .int p_2), (3, .int p_3), (4, .int p_4)]) hx hb dX12_way_126 hl (k := 3) rfl rfl (by decide +kernel) rfl ?_
                      clear hl
                      intro ls hl
                      have t_47 : (k62_7 + 1).toInt = k62_7.toInt + 1 := g5_iadd (a := k62_7.toInt) (b := 1) rfl (by decide +kernel) (by omega) (by omega)
                      refine lv_goto (tgt := 62) hx hb dX12_way_129 (by decide +kernel) ?_
                      exact ih_62_41 ((k62_7 + 1), k76_8) ls H locs (show Int.toNat (24 - (k62_7 + 1).toInt) < Int.toNat (24 - k62_7.toInt) from g_up (show k62_7.toInt < (k62_7 + 1).toInt by omega) (show k62_7.toInt < 24 by omega)) ⟨lv_sub hl [1, 0, 4, 5, 6, 7, 8, 9] rfl, hP, hD, hS, ⟨by omega, by omega⟩, i_44⟩
                    ·
                      have i_46 : k76_9.toInt ≥ 0 := g5_ltN (a := k76_9.toInt) (b := 0) rfl (by decide +kernel) c_46
                      refine lv_iload hx hb dX12_way_81 (lv_at hl 2 rfl) ?_
                      refine lv_iload hx hb dX12_way_83 (lv_at hl 1 rfl) ?_
                      obtain ⟨hPc, hDc, hFc⟩ := g5_sub3 (wc := []) hP hD hS hA [] (by decide +kernel) rfl
                      refine va_calli (va_runS (As := [.int k62_6, .int k76_9]) (rest := []) ⟨hx, hb, hml, hown, hts⟩ (n_isStep l G H.size k62_6 k76_9 i_40 ⟨by omega, by omega⟩) (va_cwS 2 hts gS_X12_454 rfl rfl rfl hs_X12_isStep ⟨Nat.le_of_ble_eq_true rfl, Nat.le_of_ble_eq_true rfl⟩) (g5_preS hPc hK hDc hN hT hS hFc) rfl rfl hl.1 rfl (lv_room (Nat.le_of_ble_eq_true rfl)) dX12_way_85 ⟨Nat.le_of_ble_eq_true rfl, Nat.le_of_ble_eq_true rfl⟩) hS (fun q _ h => hFc q h) hFc (fun r u t H locs ht hvm hw hB hz1 hk1 hS => ?_)
                      obtain ⟨hP1, hD1⟩ := hB
                      have hP1 := g5_ht ht hP1
                      obtain ⟨z49, (i_48 : 0 ≤ z49.toInt ∧ z49.toInt ≤ 1), y50, rfl⟩ := hw
                      have hJ9 := g5_same hP hk1
                      clear hP hPc hDc hFc ht hvm hz1 hk1 hP1 hD1
                      have hP := hJ9
                      clear hJ9
                      refine g5_ti (v := z49) y50 ?_
                      refine lv_if_eq (tgt := 112) hx hb dX12_way_88 (by decide +kernel) (fun c_51 => ?_) (fun c_51 => ?_)
                      ·
                        have i_51 : z49.toInt = 0 := g5_eq (a := z49.toInt) (b := 0) rfl (by decide +kernel) c_51
                        refine lv_iload hx hb dX12_way_112 (lv_at hl 0 rfl) ?_
                        refine lv_istore (lv' := [(8, .int k76_8), (9, .int k76_9), (6, .int k62_6), (7, .int k62_7), (5, .int z16), (0, .ref b_o), (1, .int p_1), (2, .int p_2), (3, .int p_3), (4, .int p_4)]) hx hb dX12_way_114 hl (by decide +kernel) rfl ?_
                        clear hl
                        intro ls hl
                        obtain ⟨y52, hy_52, t_52⟩ := g_incN k76_9 (-1) (by decide +kernel) (by omega) (by omega)
                        have t_52 : y52.toInt = k76_9.toInt + (-1) := t_52
                        refine lv_iinc (v := y52) (lv' := [(9, .int y52), (8, .int k76_8), (6, .int k62_6), (7, .int k62_7), (5, .int z16), (0, .ref b_o), (1, .int p_1), (2, .int p_2), (3, .int p_3), (4, .int p_4)]) hx hb dX12_way_116 hl (k := 1) rfl hy_52 (by decide +kernel) rfl ?_
                        clear hl
                        intro ls hl
                        refine lv_goto (tgt := 76) hx hb dX12_way_119 (by decide +kernel) ?_
                        exact ih_76_45 (y52, k76_8) ls H locs (show Int.toNat (y52.toInt + 1) < Int.toNat (k76_9.toInt + 1) from g_dn (show y52.toInt < k76_9.toInt by omega) (show 0 ≤ k76_9.toInt by omega)) ⟨lv_sub hl [1, 0, 2, 3, 4, 5, 6, 7, 8, 9] rfl, hP, hD, hS, ⟨by omega, by omega⟩, i_44⟩
                      ·
                        have n_51 : gNe (z49.toInt) (0) := g5_eqN (a := z49.toInt) (b := 0) rfl (by decide +kernel) c_51
                        have i_51 : z49.toInt ≥ 1 := by have z := g5_eqN (a := z49.toInt) (b := 0) (by rfl) (by decide +kernel) c_51; omega
                        refine lv_aload_n hx hb dX12_way_91 rfl (lv_at hl 5 rfl) ?_
                        refine va_get (D := G.1) (ci := 12) (v := .ref b_ld) (C := RX12) (T := TX12) (N := 52) hx hb hts inG_X12 hown hK hP 0 rfl rfl 48 (by decide +kernel) (hts _ fl_X12_101) (fun _ h9 => h9) rfl dX12_way_92 ?_
                        refine lv_bipush (v := 64) hx hb dX12_way_95 (by decide +kernel) ?_
                        refine lv_iload hx hb dX12_way_97 (lv_at hl 3 rfl) ?_
                        refine W.eq (g2 := F0 m 99 ls [.int k62_7, .int 64, .ref b_ld]) rfl ?_
                        refine lv_imul hx hb dX12_way_99 ?_
                        have t_53 : (64 * k62_7).toInt = 64 * k62_7.toInt := g5_imul (a := 64) (b := k62_7.toInt) (by decide +kernel) (by rfl) (by omega) (by omega)
                        refine lv_iload hx hb dX12_way_100 (lv_at hl 1 rfl) ?_
                        refine lv_iadd hx hb dX12_way_102 ?_
                        have t_54 : ((64 * k62_7) + k76_9).toInt = (64 * k62_7).toInt + k76_9.toInt := g5_iadd (a := (64 * k62_7).toInt) (b := k76_9.toInt) (by rfl) (by rfl) (by omega) (by omega)
                        refine va_zald hx hb hK hP 6 2 rfl rfl (i := ((64 * k62_7) + k76_9)) (vp_in_iff.mpr ⟨by omega, by omega⟩) dX12_way_103 ?_
                        refine lv_if_eq (tgt := 112) hx hb dX12_way_104 (by decide +kernel) (fun c_55 => ?_) (fun c_55 => ?_)
                        ·
                          have i_55 : (z32 ((64 * k62_7) + k76_9).toNatClampNeg).toInt = 0 := g5_eq (a := (z32 ((64 * k62_7) + k76_9).toNatClampNeg).toInt) (b := 0) rfl (by decide +kernel) c_55
                          refine lv_iload hx hb dX12_way_112 (lv_at hl 0 rfl) ?_
                          refine lv_istore (lv' := [(8, .int k76_8), (9, .int k76_9), (6, .int k62_6), (7, .int k62_7), (5, .int z16), (0, .ref b_o), (1, .int p_1), (2, .int p_2), (3, .int p_3), (4, .int p_4)]) hx hb dX12_way_114 hl (by decide +kernel) rfl ?_
                          clear hl
                          intro ls hl
                          obtain ⟨y56, hy_56, t_56⟩ := g_incN k76_9 (-1) (by decide +kernel) (by omega) (by omega)
                          have t_56 : y56.toInt = k76_9.toInt + (-1) := t_56
                          refine lv_iinc (v := y56) (lv' := [(9, .int y56), (8, .int k76_8), (6, .int k62_6), (7, .int k62_7), (5, .int z16), (0, .ref b_o), (1, .int p_1), (2, .int p_2), (3, .int p_3), (4, .int p_4)]) hx hb dX12_way_116 hl (k := 1) rfl hy_56 (by decide +kernel) rfl ?_
                          clear hl
                          intro ls hl
                          refine lv_goto (tgt := 76) hx hb dX12_way_119 (by decide +kernel) ?_
                          exact ih_76_45 (y56, k76_8) ls H locs (show Int.toNat (y56.toInt + 1) < Int.toNat (k76_9.toInt + 1) from g_dn (show y56.toInt < k76_9.toInt by omega) (show 0 ≤ k76_9.toInt by omega)) ⟨lv_sub hl [1, 0, 2, 3, 4, 5, 6, 7, 8, 9] rfl, hP, hD, hS, ⟨by omega, by omega⟩, i_44⟩
                        ·
                          have n_55 : gNe ((z32 ((64 * k62_7) + k76_9).toNatClampNeg).toInt) (0) := g5_eqN (a := (z32 ((64 * k62_7) + k76_9).toNatClampNeg).toInt) (b := 0) rfl (by decide +kernel) c_55
                          refine lv_iload hx hb dX12_way_107 (lv_at hl 1 rfl) ?_
                          refine lv_goto (tgt := 114) hx hb dX12_way_109 (by decide +kernel) ?_
                          refine lv_istore (lv' := [(8, .int k76_9), (9, .int k76_9), (6, .int k62_6), (7, .int k62_7), (5, .int z16), (0, .ref b_o), (1, .int p_1), (2, .int p_2), (3, .int p_3), (4, .int p_4)]) hx hb dX12_way_114 hl (by decide +kernel) rfl ?_
                          clear hl
                          intro ls hl
                          obtain ⟨y57, hy_57, t_57⟩ := g_incN k76_9 (-1) (by decide +kernel) (by omega) (by omega)
                          have t_57 : y57.toInt = k76_9.toInt + (-1) := t_57
                          refine lv_iinc (v := y57) (lv' := [(9, .int y57), (8, .int k76_9), (6, .int k62_6), (7, .int k62_7), (5, .int z16), (0, .ref b_o), (1, .int p_1), (2, .int p_2), (3, .int p_3), (4, .int p_4)]) hx hb dX12_way_116 hl (k := 1) rfl hy_57 (by decide +kernel) rfl ?_
                          clear hl
                          intro ls hl
                          refine W.eq (g2 := F0 m 119 ls []) rfl ?_
                          refine lv_goto (tgt := 76) hx hb dX12_way_119 (by decide +kernel) ?_
                          exact ih_76_45 (y57, k76_9) ls H locs (show Int.toNat (y57.toInt + 1) < Int.toNat (k76_9.toInt + 1) from g_dn (show y57.toInt < k76_9.toInt by omega) (show 0 ≤ k76_9.toInt by omega)) ⟨lv_sub hl [1, 0, 2, 3, 4, 5, 6, 7, 8, 9] rfl, hP, hD, hS, ⟨by omega, by omega⟩, i_43⟩
                ·
                  exact absurd c_37 (by decide +kernel)
            ·
              exact absurd c_6 (by decide +kernel)
          ·
            have hJ9 := g5_same hP hk1
            clear hP hPc hDc hFc ht hvm hz1 hk1 hP1 hD1
            have hP := hJ9
            clear hJ9
            refine lv_if_ne (tgt := 29) hx hb dX12_way_24 (by decide +kernel) (fun c_58 => ?_) (fun c_58 => ?_)
            ·
              exact absurd c_58 (by decide +kernel)
            ·
              refine lv_iconst (v := (-1)) hx hb dX12_way_27 (by decide +kernel) ?_
              exact W.iret (v := (-1)) hx hb hr (fun t ht hW => ⟨⟨(-1), [(b_o, (oc12 0 u_sa b_rf b_ro b_im b_ke u_fd b_tp u_td u_fr u_to u_so u_wo u_fa u_bd u_nc b_nl u_co b_op b_ar u_le b_pi b_pa u_pd u_od b_ws b_hw u_la b_se b_re u_bk u_va u_su u_ce u_ho u_wy u_bt u_ps b_pt u_tg u_sn b_ip u_ic b_ah b_be b_me u_wd b_tr b_ld u_st b_wn u_id)), (b_ro, (arI G 5740 v_ro)), (b_se, (arJ G 13 v_se)), (b_re, (arJ G 400 v_re)), (b_pt, (arI G 200 v_pt)), (b_tr, (arZ G 1536 v_tr)), (b_ld, (arZ G 1536 v_ld))], rfl, ⟨(-1), 0, u_la, u_bk, u_va, u_su, u_ce, u_ho, u_wy, u_bt, u_ps, u_tg, u_sn, v_se, v_re, v_pt, v_tr, v_ld, h_u_la, h_u_bk, h_u_ce, h_u_ho, h_u_wy, h_u_bt, h_u_ps, r_pt, rfl, rfl⟩, by rw [ht]; exact hP.sub [5, 6, 0, 1, 2, 3, 4] rfl, hD.sub [5, 6, 0, 1, 2, 3, 4] (by decide +kernel) rfl⟩, hS.F ht⟩) hS.2.2 dX12_way_28
      ·
        have hJ9 := g5_same hP hk1
        clear hP hPc hDc hFc ht hvm hz1 hk1 hP1 hD1
        have hP := hJ9
        clear hJ9
        refine lv_if_eq (tgt := 27) hx hb dX12_way_17 (by decide +kernel) (fun c_59 => ?_) (fun c_59 => ?_)
        ·
          refine lv_iconst (v := (-1)) hx hb dX12_way_27 (by decide +kernel) ?_
          exact W.iret (v := (-1)) hx hb hr (fun t ht hW => ⟨⟨(-1), [(b_o, (oc12 0 u_sa b_rf b_ro b_im b_ke u_fd b_tp u_td u_fr u_to u_so u_wo u_fa u_bd u_nc b_nl u_co b_op b_ar u_le b_pi b_pa u_pd u_od b_ws b_hw u_la b_se b_re u_bk u_va u_su u_ce u_ho u_wy u_bt u_ps b_pt u_tg u_sn b_ip u_ic b_ah b_be b_me u_wd b_tr b_ld u_st b_wn u_id)), (b_ro, (arI G 5740 v_ro)), (b_se, (arJ G 13 v_se)), (b_re, (arJ G 400 v_re)), (b_pt, (arI G 200 v_pt)), (b_tr, (arZ G 1536 v_tr)), (b_ld, (arZ G 1536 v_ld))], rfl, ⟨(-1), 0, u_la, u_bk, u_va, u_su, u_ce, u_ho, u_wy, u_bt, u_ps, u_tg, u_sn, v_se, v_re, v_pt, v_tr, v_ld, h_u_la, h_u_bk, h_u_ce, h_u_ho, h_u_wy, h_u_bt, h_u_ps, r_pt, rfl, rfl⟩, by rw [ht]; exact hP.sub [5, 6, 0, 1, 2, 3, 4] rfl, hD.sub [5, 6, 0, 1, 2, 3, 4] (by decide +kernel) rfl⟩, hS.F ht⟩) hS.2.2 dX12_way_28
        ·
          exact absurd c_59 (by decide +kernel)
  ·
    have hJ9 := va_join (wr := [(b_se, (arJ G 13 v_se)), (b_re, (arJ G 400 v_re)), (b_pt, (arI G 200 v_pt)), (b_tr, (arZ G 1536 v_tr)), (b_ld, (arZ G 1536 v_ld))]) hP hD [0, 1] [2, 3, 4, 5, 6] rfl rfl (by decide +kernel) (by decide +kernel) hk1 hFc hP1 hD1
    clear hP hD hPc hDc hFc ht hvm hz1 hk1 hP1 hD1
    obtain ⟨hP, hD⟩ := hJ9
    refine g5_rs [(b_se, (arJ G 13 v_se)), (b_re, (arJ G 400 v_re)), (b_pt, (arI G 200 v_pt)), (b_tr, (arZ G 1536 v_tr)), (b_ld, (arZ G 1536 v_ld)), (b_o, (oc12 0 u_sa b_rf b_ro b_im b_ke u_fd b_tp u_td u_fr u_to u_so u_wo u_fa u_bd u_nc b_nl u_co b_op b_ar u_le b_pi b_pa u_pd u_od b_ws b_hw u_la b_se b_re u_bk u_va u_su u_ce u_ho u_wy u_bt u_ps b_pt u_tg u_sn b_ip u_ic b_ah b_be b_me u_wd b_tr b_ld u_st b_wn u_id)), (b_ro, (arI G 5740 v_ro))] hP hD ?_
    clear hP hD
    intro hP hD
    refine lv_if_eq (tgt := 27) hx hb dX12_way_10 (by decide +kernel) (fun c_60 => ?_) (fun c_60 => ?_)
    ·
      refine lv_iconst (v := (-1)) hx hb dX12_way_27 (by decide +kernel) ?_
      exact W.iret (v := (-1)) hx hb hr (fun t ht hW => ⟨⟨(-1), [(b_o, (oc12 0 u_sa b_rf b_ro b_im b_ke u_fd b_tp u_td u_fr u_to u_so u_wo u_fa u_bd u_nc b_nl u_co b_op b_ar u_le b_pi b_pa u_pd u_od b_ws b_hw u_la b_se b_re u_bk u_va u_su u_ce u_ho u_wy u_bt u_ps b_pt u_tg u_sn b_ip u_ic b_ah b_be b_me u_wd b_tr b_ld u_st b_wn u_id)), (b_ro, (arI G 5740 v_ro)), (b_se, (arJ G 13 v_se)), (b_re, (arJ G 400 v_re)), (b_pt, (arI G 200 v_pt)), (b_tr, (arZ G 1536 v_tr)), (b_ld, (arZ G 1536 v_ld))], rfl, ⟨(-1), 0, u_la, u_bk, u_va, u_su, u_ce, u_ho, u_wy, u_bt, u_ps, u_tg, u_sn, v_se, v_re, v_pt, v_tr, v_ld, h_u_la, h_u_bk, h_u_ce, h_u_ho, h_u_wy, h_u_bt, h_u_ps, r_pt, rfl, rfl⟩, by rw [ht]; exact hP.sub [5, 6, 0, 1, 2, 3, 4] rfl, hD.sub [5, 6, 0, 1, 2, 3, 4] (by decide +kernel) rfl⟩, hS.F ht⟩) hS.2.2 dX12_way_28
    ·
      exact absurd c_60 (by decide +kernel)
theorem upd_but_self {f g : Nat → Int32} {i : Nat} {v : Int32} (h : ∀ j : Nat, j ≠ i → g j = f j) (hv : v = f i) : upd g i v = f := by
  funext j
  unfold upd
  by_cases q : j = i
  · rw [if_pos q, q, hv]
  · rw [if_neg q]; exact h j q
set_option maxHeartbeats 4000000 in
set_option maxRecDepth 100000 in
theorem n_ofGlass1S (l : Launch) (G : g5_G) (b_o b_ro b_rf b_im b_ke b_tp b_nl b_op b_ar b_pi b_pa b_ws b_hw b_se b_re b_pt b_ip b_ah b_be b_me b_tr b_ld b_wn : Nat) (sz : Nat) (u_th : Int32) (u_sa : Int32) (u_fd : Int32) (u_td : Int32) (u_fr : Int32) (u_to : Int32) (u_so : Int32) (u_fa : Int32) (u_bd : Int32) (u_nc : Int32) (u_co : Int32) (u_le : Int32) (u_pd : Int32) (u_od : Int32) (u_la : Int32) (u_bk : Int32) (u_ce : Int32) (u_ho : Int32) (u_wy : Int32) (u_bt : Int32) (u_ps : Int32) (u_tg : Int32) (u_sn : Int32) (u_ic : Int32) (u_wd : Int32) (u_id : Int32) (p_1 : Int32) (u_wo : Int64) (u_va : Int64) (u_su : Int64) (u_st : Int64) (v_ro : Nat → Int32) (h_u_td : 0 ≤ u_td.toInt ∧ u_td.toInt ≤ 400) (h_u_fr : 0 ≤ u_fr.toInt ∧ u_fr.toInt ≤ 400) (h_u_to : 0 ≤ u_to.toInt ∧ u_to.toInt ≤ 400) (h_u_bd : 0 ≤ u_bd.toInt ∧ u_bd.toInt ≤ 1) (h_u_nc : 0 ≤ u_nc.toInt ∧ u_nc.toInt ≤ 12) (h_u_co : 0 ≤ u_co.toInt ∧ u_co.toInt ≤ 400) (h_u_pd : 0 ≤ u_pd.toInt ∧ u_pd.toInt ≤ 400) (h_u_la : 0 ≤ u_la.toInt ∧ u_la.toInt ≤ 4840) (h_u_bk : 0 ≤ u_bk.toInt ∧ u_bk.toInt ≤ 1) (h_u_ce : 0 ≤ u_ce.toInt ∧ u_ce.toInt ≤ 63) (h_u_ho : 0 ≤ u_ho.toInt ∧ u_ho.toInt ≤ 23) (h_u_wy : 0 ≤ u_wy.toInt ∧ u_wy.toInt ≤ 3) (h_u_bt : 0 ≤ u_bt.toInt ∧ u_bt.toInt ≤ 1000000) (h_u_ps : 0 ≤ u_ps.toInt ∧ u_ps.toInt ≤ 200) (h_u_ic : 0 ≤ u_ic.toInt ∧ u_ic.toInt ≤ 1) (h_u_id : 0 ≤ u_id.toInt ∧ u_id.toInt ≤ 1) (h_p_1 : 0 ≤ p_1.toInt ∧ p_1.toInt ≤ 5) (r_ro : MI v_ro) : Met l yX12_ofGlass (wsG yX12_ofGlass cX12_ofGlass 3 (some .int)) ({ frames := 0, cells := 0, slots := 0, locals := 0 }) (va_Pc [.ref b_o, .int p_1, .int 1] (g5_P G [(b_o, (oc12 u_th u_sa b_rf b_ro b_im b_ke u_fd b_tp u_td u_fr u_to u_so u_wo u_fa u_bd u_nc b_nl u_co b_op b_ar u_le b_pi b_pa u_pd u_od b_ws b_hw u_la b_se b_re u_bk u_va u_su u_ce u_ho u_wy u_bt u_ps b_pt u_tg u_sn b_ip u_ic b_ah b_be b_me u_wd b_tr b_ld u_st b_wn u_id)), (b_ro, (arI G 5740 v_ro))] sz)) (va_Qi (fun (r : Int32) (u : va_W) => (∃ (o_r : Int32), (0 ≤ o_r.toInt ∧ o_r.toInt ≤ 5) ∧ (o_r = v_ro (80 + 5 * p_1.toInt.toNat + 1)) ∧ (r = o_r) ∧ (u = [(b_o, (oc12 u_th u_sa b_rf b_ro b_im b_ke u_fd b_tp u_td u_fr u_to u_so u_wo u_fa u_bd u_nc b_nl u_co b_op b_ar u_le b_pi b_pa u_pd u_od b_ws b_hw u_la b_se b_re u_bk u_va u_su u_ce u_ho u_wy u_bt u_ps b_pt u_tg u_sn b_ip u_ic b_ah b_be b_me u_wd b_tr b_ld u_st b_wn u_id)), (b_ro, (arI G 5740 v_ro))]))) (g5_B G (va_A [(b_o, (oc12 u_th u_sa b_rf b_ro b_im b_ke u_fd b_tp u_td u_fr u_to u_so u_wo u_fa u_bd u_nc b_nl u_co b_op b_ar u_le b_pi b_pa u_pd u_od b_ws b_hw u_la b_se b_re u_bk u_va u_su u_ce u_ho u_wy u_bt u_ps b_pt u_tg u_sn b_ip u_ic b_ah b_be b_me u_wd b_tr b_ld u_st b_wn u_id)), (b_ro, (arI G 5740 v_ro))] sz)) (va_A [(b_o, (oc12 u_th u_sa b_rf b_ro b_im b_ke u_fd b_tp u_td u_fr u_to u_so u_wo u_fa u_bd u_nc b_nl u_co b_op b_ar u_le b_pi b_pa u_pd u_od b_ws b_hw u_la b_se b_re u_bk u_va u_su u_ce u_ho u_wy u_bt u_ps b_pt u_tg u_sn b_ip u_ic b_ah b_be b_me u_wd b_tr b_ld u_st b_wn u_id)), (b_ro, (arI G 5740 v_ro))] sz)) 0 0 (va_A [(b_o, (oc12 u_th u_sa b_rf b_ro b_im b_ke u_fd b_tp u_td u_fr u_to u_so u_wo u_fa u_bd u_nc b_nl u_co b_op b_ar u_le b_pi b_pa u_pd u_od b_ws b_hw u_la b_se b_re u_bk u_va u_su u_ce u_ho u_wy u_bt u_ps b_pt u_tg u_sn b_ip u_ic b_ah b_be b_me u_wd b_tr b_ld u_st b_wn u_id)), (b_ro, (arI G 5740 v_ro))] sz) := by
  refine Met.ofW (cc := cX12_ofGlass) (maxL := 3) (ret := (some .int)) (by decide) rfl ?_
  intro p e s m args below meth c s₁ B hml hv
  obtain ⟨rfl, hsz, hP, hK, hD0, hN, hT⟩ := hv
  have hx := B.exec
  have hb := B.bytes
  have hr := B.returns
  have hts : ∀ w ∈ tblG, w.before _ s = true := fun w h => atoms_spec (ws := (wsG yX12_ofGlass cX12_ofGlass 3 (some .int))) B.pre w (List.mem_cons_of_mem _ h)
  have hown : s.vm.findClass RX12 = some m.cls := findClass_of_methodNamed B.named
  have hlocks := B.notSynchronized
  subst hsz
  have hD := hD0.self (sz := s.heap.size)
  generalize hAe : va_A [(b_o, (oc12 u_th u_sa b_rf b_ro b_im b_ke u_fd b_tp u_td u_fr u_to u_so u_wo u_fa u_bd u_nc b_nl u_co b_op b_ar u_le b_pi b_pa u_pd u_od b_ws b_hw u_la b_se b_re u_bk u_va u_su u_ce u_ho u_wy u_bt u_ps b_pt u_tg u_sn b_ip u_ic b_ah b_be b_me u_wd b_tr b_ld u_st b_wn u_id)), (b_ro, (arI G 5740 v_ro))] s.heap.size = A at hD hT ⊢
  have hA : ∀ q : Nat, s.heap.size ≤ q → A q := fun q h => by rw [← hAe]; exact Or.inr h
  have hS : va_S A s.heap s.heap [] := va_S.rf
  have hP : va_P G.1 vwCl [(b_o, (oc12 u_th u_sa b_rf b_ro b_im b_ke u_fd b_tp u_td u_fr u_to u_so u_wo u_fa u_bd u_nc b_nl u_co b_op b_ar u_le b_pi b_pa u_pd u_od b_ws b_hw u_la b_se b_re u_bk u_va u_su u_ce u_ho u_wy u_bt u_ps b_pt u_tg u_sn b_ip u_ic b_ah b_be b_me u_wd b_tr b_ld u_st b_wn u_id)), (b_ro, (arI G 5740 v_ro))] s.heap := hP
  have hl := lv_entry ([.ref b_o, .int p_1, .int 1]) (n := 3) (Nat.le_of_ble_eq_true rfl)
  rw [lg_entry_eq]
  generalize (lg_sl ([.ref b_o, .int p_1, .int 1]) ++ List.replicate (3 - (lg_sl ([.ref b_o, .int p_1, .int 1])).length) Slot.unset).toArray = ls at hl ⊢
  have hl : lv_has ls 3 [(0, .ref b_o), (1, .int p_1), (2, .int 1)] := hl
  refine lv_aload_n hx hb dX12_ofGlass_0 rfl (lv_at hl 0 rfl) ?_
  refine va_get (D := G.1) (ci := 12) (v := .ref b_ro) (C := RX12) (T := TX12) (N := 52) hx hb hts inG_X12 hown hK hP 0 rfl rfl 3 (by decide) (hts _ fl_X12_13) (fun _ h9 => h9) rfl dX12_ofGlass_1 ?_
  refine lv_bipush (v := 80) hx hb dX12_ofGlass_4 (by decide) ?_
  refine lv_iconst (v := 5) hx hb dX12_ofGlass_6 (by decide) ?_
  refine W.eq (g2 := F0 m 7 ls [.int 5, .int 80, .ref b_ro]) rfl ?_
  refine lv_iload_n hx hb dX12_ofGlass_7 rfl (lv_at hl 1 rfl) ?_
  refine lv_imul hx hb dX12_ofGlass_8 ?_
  have t_1 : (5 * p_1).toInt = 5 * p_1.toInt := g5_imul (a := 5) (b := p_1.toInt) (by decide) (by rfl) (by omega) (by omega)
  refine lv_iadd hx hb dX12_ofGlass_9 ?_
  have t_2 : (80 + (5 * p_1)).toInt = 80 + (5 * p_1).toInt := g5_iadd (a := 80) (b := (5 * p_1).toInt) (by decide) (by rfl) (by omega) (by omega)
  refine lv_iload_n hx hb dX12_ofGlass_10 rfl (lv_at hl 2 rfl) ?_
  refine lv_iadd hx hb dX12_ofGlass_11 ?_
  have t_3 : ((80 + (5 * p_1)) + 1).toInt = (80 + (5 * p_1)).toInt + 1 := g5_iadd (a := (80 + (5 * p_1)).toInt) (b := 1) (by rfl) (by decide) (by omega) (by omega)
  refine W.eq (g2 := F0 m 12 ls [.int ((80 + (5 * p_1)) + 1), .ref b_ro]) rfl ?_
  refine va_iald hx hb hK hP 1 0 rfl rfl (i := ((80 + (5 * p_1)) + 1)) (vp_in_iff.mpr ⟨by omega, by omega⟩) dX12_ofGlass_12 ?_
  have hv9 : 0 ≤ (v_ro ((80 + (5 * p_1)) + 1).toNatClampNeg).toInt ∧ (v_ro ((80 + (5 * p_1)) + 1).toNatClampNeg).toInt ≤ 5 := mi_80_1 r_ro (by have zz := g5_clamp ((80 + (5 * p_1)) + 1); omega) (by have zz := g5_clamp ((80 + (5 * p_1)) + 1); omega) (by have zz := g5_clamp ((80 + (5 * p_1)) + 1); omega)
  exact W.iret (v := (v_ro ((80 + (5 * p_1)) + 1).toNatClampNeg)) hx hb hr (fun t ht hW => ⟨⟨(v_ro ((80 + (5 * p_1)) + 1).toNatClampNeg), [(b_o, (oc12 u_th u_sa b_rf b_ro b_im b_ke u_fd b_tp u_td u_fr u_to u_so u_wo u_fa u_bd u_nc b_nl u_co b_op b_ar u_le b_pi b_pa u_pd u_od b_ws b_hw u_la b_se b_re u_bk u_va u_su u_ce u_ho u_wy u_bt u_ps b_pt u_tg u_sn b_ip u_ic b_ah b_be b_me u_wd b_tr b_ld u_st b_wn u_id)), (b_ro, (arI G 5740 v_ro))], rfl, ⟨(v_ro ((80 + (5 * p_1)) + 1).toNatClampNeg), by omega, by congr 1; have zz := g5_clamp ((80 + (5 * p_1)) + 1); omega, rfl, rfl⟩, by rw [ht]; exact hP.sub [0, 1] rfl, hD.sub [0, 1] (by decide) rfl⟩, hS.F ht⟩) hS.2.2 dX12_ofGlass_13
theorem dgX12_sooner_0 : ∀ r ∈ ([(0, (.aload_n 0, 1)), (1, (.iconst 0, 1)), (2, (.putfield 107, 3)), (5, (.aload_n 0, 1)), (6, (.iload_n 1, 1)), (7, (.invokevirtual 180, 3)), (10, (.ifCond .eq 49, 3)), (13, (.iload_n 2, 1)), (14, (.invokestatic 138, 3)), (17, (.ifCond .eq 42, 3)), (20, (.iload_n 3, 1)), (21, (.invokestatic 175, 3)), (24, (.ifCond .eq 35, 3)), (27, (.iload 4, 2)), (29, (.i2l, 1)), (30, (.lconst 0, 1)), (31, (.ldc2_w 411, 3)), (34, (.invokestatic 121, 3)), (37, (.ifCond .eq 22, 3)), (40, (.aload_n 0, 1)), (41, (.iload_n 2, 1)), (42, (.invokestatic 138, 3)), (45, (.ifCond .eq 7, 3)), (48, (.iload_n 2, 1)), (49, (.goto 4, 3)), (52, (.iconst 0, 1)), (53, (.invokevirtual 160, 3)), (56, (.ifCond .eq 5, 3)), (59, (.iconst (-1), 1)), (60, (.ireturn, 1)), (61, (.aload_n 0, 1)), (62, (.iload_n 1, 1)), (63, (.iload_n 2, 1)), (64, (.iload_n 3, 1)), (65, (.invokevirtual 466, 3)), (68, (.istore 5, 2)), (70, (.iload 5, 2)), (72, (.iconst (-1), 1)), (73, (.if_icmp .ne 8, 3)), (76, (.bipush 24, 2))] : List (Nat × (Instr × Nat))), decode cX12_sooner r.1 = .ok r.2 := by decide +kernel
theorem dX12_sooner_0 : decode cX12_sooner 0 = .ok (.aload_n 0, 1) := dgX12_sooner_0 (0, (.aload_n 0, 1)) (List.mem_of_getElem? (i := 0) rfl)
theorem dX12_sooner_1 : decode cX12_sooner 1 = .ok (.iconst 0, 1) := dgX12_sooner_0 (1, (.iconst 0, 1)) (List.mem_of_getElem? (i := 1) rfl)
theorem dX12_sooner_2 : decode cX12_sooner 2 = .ok (.putfield 107, 3) := dgX12_sooner_0 (2, (.putfield 107, 3)) (List.mem_of_getElem? (i := 2) rfl)
theorem dX12_sooner_5 : decode cX12_sooner 5 = .ok (.aload_n 0, 1) := dgX12_sooner_0 (5, (.aload_n 0, 1)) (List.mem_of_getElem? (i := 3) rfl)
theorem dX12_sooner_6 : decode cX12_sooner 6 = .ok (.iload_n 1, 1) := dgX12_sooner_0 (6, (.iload_n 1, 1)) (List.mem_of_getElem? (i := 4) rfl)
theorem dX12_sooner_7 : decode cX12_sooner 7 = .ok (.invokevirtual 180, 3) := dgX12_sooner_0 (7, (.invokevirtual 180, 3)) (List.mem_of_getElem? (i := 5) rfl)
theorem dX12_sooner_10 : decode cX12_sooner 10 = .ok (.ifCond .eq 49, 3) := dgX12_sooner_0 (10, (.ifCond .eq 49, 3)) (List.mem_of_getElem? (i := 6) rfl)
theorem dX12_sooner_13 : decode cX12_sooner 13 = .ok (.iload_n 2, 1) := dgX12_sooner_0 (13, (.iload_n 2, 1)) (List.mem_of_getElem? (i := 7) rfl)
theorem dX12_sooner_14 : decode cX12_sooner 14 = .ok (.invokestatic 138, 3) := dgX12_sooner_0 (14, (.invokestatic 138, 3)) (List.mem_of_getElem? (i := 8) rfl)
theorem dX12_sooner_17 : decode cX12_sooner 17 = .ok (.ifCond .eq 42, 3) := dgX12_sooner_0 (17, (.ifCond .eq 42, 3)) (List.mem_of_getElem? (i := 9) rfl)
theorem dX12_sooner_20 : decode cX12_sooner 20 = .ok (.iload_n 3, 1) := dgX12_sooner_0 (20, (.iload_n 3, 1)) (List.mem_of_getElem? (i := 10) rfl)
theorem dX12_sooner_21 : decode cX12_sooner 21 = .ok (.invokestatic 175, 3) := dgX12_sooner_0 (21, (.invokestatic 175, 3)) (List.mem_of_getElem? (i := 11) rfl)
theorem dX12_sooner_24 : decode cX12_sooner 24 = .ok (.ifCond .eq 35, 3) := dgX12_sooner_0 (24, (.ifCond .eq 35, 3)) (List.mem_of_getElem? (i := 12) rfl)
theorem dX12_sooner_27 : decode cX12_sooner 27 = .ok (.iload 4, 2) := dgX12_sooner_0 (27, (.iload 4, 2)) (List.mem_of_getElem? (i := 13) rfl)
theorem dX12_sooner_29 : decode cX12_sooner 29 = .ok (.i2l, 1) := dgX12_sooner_0 (29, (.i2l, 1)) (List.mem_of_getElem? (i := 14) rfl)
theorem dX12_sooner_30 : decode cX12_sooner 30 = .ok (.lconst 0, 1) := dgX12_sooner_0 (30, (.lconst 0, 1)) (List.mem_of_getElem? (i := 15) rfl)
theorem dX12_sooner_31 : decode cX12_sooner 31 = .ok (.ldc2_w 411, 3) := dgX12_sooner_0 (31, (.ldc2_w 411, 3)) (List.mem_of_getElem? (i := 16) rfl)
theorem dX12_sooner_34 : decode cX12_sooner 34 = .ok (.invokestatic 121, 3) := dgX12_sooner_0 (34, (.invokestatic 121, 3)) (List.mem_of_getElem? (i := 17) rfl)
theorem dX12_sooner_37 : decode cX12_sooner 37 = .ok (.ifCond .eq 22, 3) := dgX12_sooner_0 (37, (.ifCond .eq 22, 3)) (List.mem_of_getElem? (i := 18) rfl)
theorem dX12_sooner_40 : decode cX12_sooner 40 = .ok (.aload_n 0, 1) := dgX12_sooner_0 (40, (.aload_n 0, 1)) (List.mem_of_getElem? (i := 19) rfl)
theorem dX12_sooner_41 : decode cX12_sooner 41 = .ok (.iload_n 2, 1) := dgX12_sooner_0 (41, (.iload_n 2, 1)) (List.mem_of_getElem? (i := 20) rfl)
theorem dX12_sooner_42 : decode cX12_sooner 42 = .ok (.invokestatic 138, 3) := dgX12_sooner_0 (42, (.invokestatic 138, 3)) (List.mem_of_getElem? (i := 21) rfl)
theorem dX12_sooner_45 : decode cX12_sooner 45 = .ok (.ifCond .eq 7, 3) := dgX12_sooner_0 (45, (.ifCond .eq 7, 3)) (List.mem_of_getElem? (i := 22) rfl)
theorem dX12_sooner_48 : decode cX12_sooner 48 = .ok (.iload_n 2, 1) := dgX12_sooner_0 (48, (.iload_n 2, 1)) (List.mem_of_getElem? (i := 23) rfl)
theorem dX12_sooner_49 : decode cX12_sooner 49 = .ok (.goto 4, 3) := dgX12_sooner_0 (49, (.goto 4, 3)) (List.mem_of_getElem? (i := 24) rfl)
theorem dX12_sooner_52 : decode cX12_sooner 52 = .ok (.iconst 0, 1) := dgX12_sooner_0 (52, (.iconst 0, 1)) (List.mem_of_getElem? (i := 25) rfl)
theorem dX12_sooner_53 : decode cX12_sooner 53 = .ok (.invokevirtual 160, 3) := dgX12_sooner_0 (53, (.invokevirtual 160, 3)) (List.mem_of_getElem? (i := 26) rfl)
theorem dX12_sooner_56 : decode cX12_sooner 56 = .ok (.ifCond .eq 5, 3) := dgX12_sooner_0 (56, (.ifCond .eq 5, 3)) (List.mem_of_getElem? (i := 27) rfl)
theorem dX12_sooner_59 : decode cX12_sooner 59 = .ok (.iconst (-1), 1) := dgX12_sooner_0 (59, (.iconst (-1), 1)) (List.mem_of_getElem? (i := 28) rfl)
theorem dX12_sooner_60 : decode cX12_sooner 60 = .ok (.ireturn, 1) := dgX12_sooner_0 (60, (.ireturn, 1)) (List.mem_of_getElem? (i := 29) rfl)
theorem dX12_sooner_61 : decode cX12_sooner 61 = .ok (.aload_n 0, 1) := dgX12_sooner_0 (61, (.aload_n 0, 1)) (List.mem_of_getElem? (i := 30) rfl)
theorem dX12_sooner_62 : decode cX12_sooner 62 = .ok (.iload_n 1, 1) := dgX12_sooner_0 (62, (.iload_n 1, 1)) (List.mem_of_getElem? (i := 31) rfl)
theorem dX12_sooner_63 : decode cX12_sooner 63 = .ok (.iload_n 2, 1) := dgX12_sooner_0 (63, (.iload_n 2, 1)) (List.mem_of_getElem? (i := 32) rfl)
theorem dX12_sooner_64 : decode cX12_sooner 64 = .ok (.iload_n 3, 1) := dgX12_sooner_0 (64, (.iload_n 3, 1)) (List.mem_of_getElem? (i := 33) rfl)
theorem dX12_sooner_65 : decode cX12_sooner 65 = .ok (.invokevirtual 466, 3) := dgX12_sooner_0 (65, (.invokevirtual 466, 3)) (List.mem_of_getElem? (i := 34) rfl)
theorem dX12_sooner_68 : decode cX12_sooner 68 = .ok (.istore 5, 2) := dgX12_sooner_0 (68, (.istore 5, 2)) (List.mem_of_getElem? (i := 35) rfl)
theorem dX12_sooner_70 : decode cX12_sooner 70 = .ok (.iload 5, 2) := dgX12_sooner_0 (70, (.iload 5, 2)) (List.mem_of_getElem? (i := 36) rfl)
theorem dX12_sooner_72 : decode cX12_sooner 72 = .ok (.iconst (-1), 1) := dgX12_sooner_0 (72, (.iconst (-1), 1)) (List.mem_of_getElem? (i := 37) rfl)
theorem dX12_sooner_73 : decode cX12_sooner 73 = .ok (.if_icmp .ne 8, 3) := dgX12_sooner_0 (73, (.if_icmp .ne 8, 3)) (List.mem_of_getElem? (i := 38) rfl)
theorem dX12_sooner_76 : decode cX12_sooner 76 = .ok (.bipush 24, 2) := dgX12_sooner_0 (76, (.bipush 24, 2)) (List.mem_of_getElem? (i := 39) rfl)
theorem dgX12_sooner_1 : ∀ r ∈ ([(78, (.goto 5, 3)), (81, (.iload 5, 2)), (83, (.istore 6, 2)), (85, (.iconst (-1), 1)), (86, (.istore 7, 2)), (88, (.iconst 0, 1)), (89, (.istore 8, 2)), (91, (.iload 8, 2)), (93, (.aload_n 0, 1)), (94, (.getfield 13, 3)), (97, (.iconst 0, 1)), (98, (.iaload, 1)), (99, (.if_icmp .ge 136, 3)), (102, (.aload_n 0, 1)), (103, (.iload 8, 2)), (105, (.iconst 1, 1)), (106, (.invokevirtual 134, 3)), (109, (.istore 9, 2)), (111, (.iconst 0, 1)), (112, (.istore 10, 2)), (114, (.iload 10, 2)), (116, (.bipush 6, 2)), (118, (.if_icmp .ge 95, 3)), (121, (.aload_n 0, 1)), (122, (.getfield 13, 3)), (125, (.bipush 80, 2)), (127, (.iconst 5, 1)), (128, (.iload 8, 2)), (130, (.imul, 1)), (131, (.iadd, 1)), (132, (.iconst 1, 1)), (133, (.iadd, 1)), (134, (.iload 10, 2)), (136, (.iastore, 1)), (137, (.iload 10, 2)), (139, (.iload 9, 2)), (141, (.if_icmp .ne 7, 3)), (144, (.iconst (-1), 1)), (145, (.goto 10, 3)), (148, (.aload_n 0, 1))] : List (Nat × (Instr × Nat))), decode cX12_sooner r.1 = .ok r.2 := by decide +kernel
theorem dX12_sooner_78 : decode cX12_sooner 78 = .ok (.goto 5, 3) := dgX12_sooner_1 (78, (.goto 5, 3)) (List.mem_of_getElem? (i := 0) rfl)
theorem dX12_sooner_81 : decode cX12_sooner 81 = .ok (.iload 5, 2) := dgX12_sooner_1 (81, (.iload 5, 2)) (List.mem_of_getElem? (i := 1) rfl)
theorem dX12_sooner_83 : decode cX12_sooner 83 = .ok (.istore 6, 2) := dgX12_sooner_1 (83, (.istore 6, 2)) (List.mem_of_getElem? (i := 2) rfl)
theorem dX12_sooner_85 : decode cX12_sooner 85 = .ok (.iconst (-1), 1) := dgX12_sooner_1 (85, (.iconst (-1), 1)) (List.mem_of_getElem? (i := 3) rfl)
theorem dX12_sooner_86 : decode cX12_sooner 86 = .ok (.istore 7, 2) := dgX12_sooner_1 (86, (.istore 7, 2)) (List.mem_of_getElem? (i := 4) rfl)
theorem dX12_sooner_88 : decode cX12_sooner 88 = .ok (.iconst 0, 1) := dgX12_sooner_1 (88, (.iconst 0, 1)) (List.mem_of_getElem? (i := 5) rfl)
theorem dX12_sooner_89 : decode cX12_sooner 89 = .ok (.istore 8, 2) := dgX12_sooner_1 (89, (.istore 8, 2)) (List.mem_of_getElem? (i := 6) rfl)
theorem dX12_sooner_91 : decode cX12_sooner 91 = .ok (.iload 8, 2) := dgX12_sooner_1 (91, (.iload 8, 2)) (List.mem_of_getElem? (i := 7) rfl)
theorem dX12_sooner_93 : decode cX12_sooner 93 = .ok (.aload_n 0, 1) := dgX12_sooner_1 (93, (.aload_n 0, 1)) (List.mem_of_getElem? (i := 8) rfl)
theorem dX12_sooner_94 : decode cX12_sooner 94 = .ok (.getfield 13, 3) := dgX12_sooner_1 (94, (.getfield 13, 3)) (List.mem_of_getElem? (i := 9) rfl)
theorem dX12_sooner_97 : decode cX12_sooner 97 = .ok (.iconst 0, 1) := dgX12_sooner_1 (97, (.iconst 0, 1)) (List.mem_of_getElem? (i := 10) rfl)
theorem dX12_sooner_98 : decode cX12_sooner 98 = .ok (.iaload, 1) := dgX12_sooner_1 (98, (.iaload, 1)) (List.mem_of_getElem? (i := 11) rfl)
theorem dX12_sooner_99 : decode cX12_sooner 99 = .ok (.if_icmp .ge 136, 3) := dgX12_sooner_1 (99, (.if_icmp .ge 136, 3)) (List.mem_of_getElem? (i := 12) rfl)
theorem dX12_sooner_102 : decode cX12_sooner 102 = .ok (.aload_n 0, 1) := dgX12_sooner_1 (102, (.aload_n 0, 1)) (List.mem_of_getElem? (i := 13) rfl)
theorem dX12_sooner_103 : decode cX12_sooner 103 = .ok (.iload 8, 2) := dgX12_sooner_1 (103, (.iload 8, 2)) (List.mem_of_getElem? (i := 14) rfl)
theorem dX12_sooner_105 : decode cX12_sooner 105 = .ok (.iconst 1, 1) := dgX12_sooner_1 (105, (.iconst 1, 1)) (List.mem_of_getElem? (i := 15) rfl)
theorem dX12_sooner_106 : decode cX12_sooner 106 = .ok (.invokevirtual 134, 3) := dgX12_sooner_1 (106, (.invokevirtual 134, 3)) (List.mem_of_getElem? (i := 16) rfl)
theorem dX12_sooner_109 : decode cX12_sooner 109 = .ok (.istore 9, 2) := dgX12_sooner_1 (109, (.istore 9, 2)) (List.mem_of_getElem? (i := 17) rfl)
theorem dX12_sooner_111 : decode cX12_sooner 111 = .ok (.iconst 0, 1) := dgX12_sooner_1 (111, (.iconst 0, 1)) (List.mem_of_getElem? (i := 18) rfl)
theorem dX12_sooner_112 : decode cX12_sooner 112 = .ok (.istore 10, 2) := dgX12_sooner_1 (112, (.istore 10, 2)) (List.mem_of_getElem? (i := 19) rfl)
theorem dX12_sooner_114 : decode cX12_sooner 114 = .ok (.iload 10, 2) := dgX12_sooner_1 (114, (.iload 10, 2)) (List.mem_of_getElem? (i := 20) rfl)
theorem dX12_sooner_116 : decode cX12_sooner 116 = .ok (.bipush 6, 2) := dgX12_sooner_1 (116, (.bipush 6, 2)) (List.mem_of_getElem? (i := 21) rfl)
theorem dX12_sooner_118 : decode cX12_sooner 118 = .ok (.if_icmp .ge 95, 3) := dgX12_sooner_1 (118, (.if_icmp .ge 95, 3)) (List.mem_of_getElem? (i := 22) rfl)
theorem dX12_sooner_121 : decode cX12_sooner 121 = .ok (.aload_n 0, 1) := dgX12_sooner_1 (121, (.aload_n 0, 1)) (List.mem_of_getElem? (i := 23) rfl)
theorem dX12_sooner_122 : decode cX12_sooner 122 = .ok (.getfield 13, 3) := dgX12_sooner_1 (122, (.getfield 13, 3)) (List.mem_of_getElem? (i := 24) rfl)
theorem dX12_sooner_125 : decode cX12_sooner 125 = .ok (.bipush 80, 2) := dgX12_sooner_1 (125, (.bipush 80, 2)) (List.mem_of_getElem? (i := 25) rfl)
theorem dX12_sooner_127 : decode cX12_sooner 127 = .ok (.iconst 5, 1) := dgX12_sooner_1 (127, (.iconst 5, 1)) (List.mem_of_getElem? (i := 26) rfl)
theorem dX12_sooner_128 : decode cX12_sooner 128 = .ok (.iload 8, 2) := dgX12_sooner_1 (128, (.iload 8, 2)) (List.mem_of_getElem? (i := 27) rfl)
theorem dX12_sooner_130 : decode cX12_sooner 130 = .ok (.imul, 1) := dgX12_sooner_1 (130, (.imul, 1)) (List.mem_of_getElem? (i := 28) rfl)
theorem dX12_sooner_131 : decode cX12_sooner 131 = .ok (.iadd, 1) := dgX12_sooner_1 (131, (.iadd, 1)) (List.mem_of_getElem? (i := 29) rfl)
theorem dX12_sooner_132 : decode cX12_sooner 132 = .ok (.iconst 1, 1) := dgX12_sooner_1 (132, (.iconst 1, 1)) (List.mem_of_getElem? (i := 30) rfl)
theorem dX12_sooner_133 : decode cX12_sooner 133 = .ok (.iadd, 1) := dgX12_sooner_1 (133, (.iadd, 1)) (List.mem_of_getElem? (i := 31) rfl)
theorem dX12_sooner_134 : decode cX12_sooner 134 = .ok (.iload 10, 2) := dgX12_sooner_1 (134, (.iload 10, 2)) (List.mem_of_getElem? (i := 32) rfl)
theorem dX12_sooner_136 : decode cX12_sooner 136 = .ok (.iastore, 1) := dgX12_sooner_1 (136, (.iastore, 1)) (List.mem_of_getElem? (i := 33) rfl)
theorem dX12_sooner_137 : decode cX12_sooner 137 = .ok (.iload 10, 2) := dgX12_sooner_1 (137, (.iload 10, 2)) (List.mem_of_getElem? (i := 34) rfl)
theorem dX12_sooner_139 : decode cX12_sooner 139 = .ok (.iload 9, 2) := dgX12_sooner_1 (139, (.iload 9, 2)) (List.mem_of_getElem? (i := 35) rfl)
theorem dX12_sooner_141 : decode cX12_sooner 141 = .ok (.if_icmp .ne 7, 3) := dgX12_sooner_1 (141, (.if_icmp .ne 7, 3)) (List.mem_of_getElem? (i := 36) rfl)
theorem dX12_sooner_144 : decode cX12_sooner 144 = .ok (.iconst (-1), 1) := dgX12_sooner_1 (144, (.iconst (-1), 1)) (List.mem_of_getElem? (i := 37) rfl)
theorem dX12_sooner_145 : decode cX12_sooner 145 = .ok (.goto 10, 3) := dgX12_sooner_1 (145, (.goto 10, 3)) (List.mem_of_getElem? (i := 38) rfl)
theorem dX12_sooner_148 : decode cX12_sooner 148 = .ok (.aload_n 0, 1) := dgX12_sooner_1 (148, (.aload_n 0, 1)) (List.mem_of_getElem? (i := 39) rfl)
theorem dgX12_sooner_2 : ∀ r ∈ ([(149, (.iload_n 1, 1)), (150, (.iload_n 2, 1)), (151, (.iload_n 3, 1)), (152, (.invokevirtual 466, 3)), (155, (.istore 11, 2)), (157, (.iload 11, 2)), (159, (.iconst (-1), 1)), (160, (.if_icmp .eq 21, 3)), (163, (.iload 11, 2)), (165, (.iload 6, 2)), (167, (.if_icmp .ge 14, 3)), (170, (.bipush 6, 2)), (172, (.iload 8, 2)), (174, (.imul, 1)), (175, (.iload 10, 2)), (177, (.iadd, 1)), (178, (.goto 5, 3)), (181, (.iload 7, 2)), (183, (.istore 7, 2)), (185, (.iload 11, 2)), (187, (.iconst (-1), 1)), (188, (.if_icmp .eq 15, 3)), (191, (.iload 11, 2)), (193, (.iload 6, 2)), (195, (.if_icmp .ge 8, 3)), (198, (.iload 11, 2)), (200, (.goto 5, 3)), (203, (.iload 6, 2)), (205, (.istore 6, 2)), (207, (.iinc 10 1, 3)), (210, (.goto (-96), 3)), (213, (.aload_n 0, 1)), (214, (.getfield 13, 3)), (217, (.bipush 80, 2)), (219, (.iconst 5, 1)), (220, (.iload 8, 2)), (222, (.imul, 1)), (223, (.iadd, 1)), (224, (.iconst 1, 1)), (225, (.iadd, 1))] : List (Nat × (Instr × Nat))), decode cX12_sooner r.1 = .ok r.2 := by decide +kernel
theorem dX12_sooner_149 : decode cX12_sooner 149 = .ok (.iload_n 1, 1) := dgX12_sooner_2 (149, (.iload_n 1, 1)) (List.mem_of_getElem? (i := 0) rfl)
theorem dX12_sooner_150 : decode cX12_sooner 150 = .ok (.iload_n 2, 1) := dgX12_sooner_2 (150, (.iload_n 2, 1)) (List.mem_of_getElem? (i := 1) rfl)
theorem dX12_sooner_151 : decode cX12_sooner 151 = .ok (.iload_n 3, 1) := dgX12_sooner_2 (151, (.iload_n 3, 1)) (List.mem_of_getElem? (i := 2) rfl)
theorem dX12_sooner_152 : decode cX12_sooner 152 = .ok (.invokevirtual 466, 3) := dgX12_sooner_2 (152, (.invokevirtual 466, 3)) (List.mem_of_getElem? (i := 3) rfl)
theorem dX12_sooner_155 : decode cX12_sooner 155 = .ok (.istore 11, 2) := dgX12_sooner_2 (155, (.istore 11, 2)) (List.mem_of_getElem? (i := 4) rfl)
theorem dX12_sooner_157 : decode cX12_sooner 157 = .ok (.iload 11, 2) := dgX12_sooner_2 (157, (.iload 11, 2)) (List.mem_of_getElem? (i := 5) rfl)
theorem dX12_sooner_159 : decode cX12_sooner 159 = .ok (.iconst (-1), 1) := dgX12_sooner_2 (159, (.iconst (-1), 1)) (List.mem_of_getElem? (i := 6) rfl)
theorem dX12_sooner_160 : decode cX12_sooner 160 = .ok (.if_icmp .eq 21, 3) := dgX12_sooner_2 (160, (.if_icmp .eq 21, 3)) (List.mem_of_getElem? (i := 7) rfl)
theorem dX12_sooner_163 : decode cX12_sooner 163 = .ok (.iload 11, 2) := dgX12_sooner_2 (163, (.iload 11, 2)) (List.mem_of_getElem? (i := 8) rfl)
theorem dX12_sooner_165 : decode cX12_sooner 165 = .ok (.iload 6, 2) := dgX12_sooner_2 (165, (.iload 6, 2)) (List.mem_of_getElem? (i := 9) rfl)
theorem dX12_sooner_167 : decode cX12_sooner 167 = .ok (.if_icmp .ge 14, 3) := dgX12_sooner_2 (167, (.if_icmp .ge 14, 3)) (List.mem_of_getElem? (i := 10) rfl)
theorem dX12_sooner_170 : decode cX12_sooner 170 = .ok (.bipush 6, 2) := dgX12_sooner_2 (170, (.bipush 6, 2)) (List.mem_of_getElem? (i := 11) rfl)
theorem dX12_sooner_172 : decode cX12_sooner 172 = .ok (.iload 8, 2) := dgX12_sooner_2 (172, (.iload 8, 2)) (List.mem_of_getElem? (i := 12) rfl)
theorem dX12_sooner_174 : decode cX12_sooner 174 = .ok (.imul, 1) := dgX12_sooner_2 (174, (.imul, 1)) (List.mem_of_getElem? (i := 13) rfl)
theorem dX12_sooner_175 : decode cX12_sooner 175 = .ok (.iload 10, 2) := dgX12_sooner_2 (175, (.iload 10, 2)) (List.mem_of_getElem? (i := 14) rfl)
theorem dX12_sooner_177 : decode cX12_sooner 177 = .ok (.iadd, 1) := dgX12_sooner_2 (177, (.iadd, 1)) (List.mem_of_getElem? (i := 15) rfl)
theorem dX12_sooner_178 : decode cX12_sooner 178 = .ok (.goto 5, 3) := dgX12_sooner_2 (178, (.goto 5, 3)) (List.mem_of_getElem? (i := 16) rfl)
theorem dX12_sooner_181 : decode cX12_sooner 181 = .ok (.iload 7, 2) := dgX12_sooner_2 (181, (.iload 7, 2)) (List.mem_of_getElem? (i := 17) rfl)
theorem dX12_sooner_183 : decode cX12_sooner 183 = .ok (.istore 7, 2) := dgX12_sooner_2 (183, (.istore 7, 2)) (List.mem_of_getElem? (i := 18) rfl)
theorem dX12_sooner_185 : decode cX12_sooner 185 = .ok (.iload 11, 2) := dgX12_sooner_2 (185, (.iload 11, 2)) (List.mem_of_getElem? (i := 19) rfl)
theorem dX12_sooner_187 : decode cX12_sooner 187 = .ok (.iconst (-1), 1) := dgX12_sooner_2 (187, (.iconst (-1), 1)) (List.mem_of_getElem? (i := 20) rfl)
theorem dX12_sooner_188 : decode cX12_sooner 188 = .ok (.if_icmp .eq 15, 3) := dgX12_sooner_2 (188, (.if_icmp .eq 15, 3)) (List.mem_of_getElem? (i := 21) rfl)
theorem dX12_sooner_191 : decode cX12_sooner 191 = .ok (.iload 11, 2) := dgX12_sooner_2 (191, (.iload 11, 2)) (List.mem_of_getElem? (i := 22) rfl)
theorem dX12_sooner_193 : decode cX12_sooner 193 = .ok (.iload 6, 2) := dgX12_sooner_2 (193, (.iload 6, 2)) (List.mem_of_getElem? (i := 23) rfl)
theorem dX12_sooner_195 : decode cX12_sooner 195 = .ok (.if_icmp .ge 8, 3) := dgX12_sooner_2 (195, (.if_icmp .ge 8, 3)) (List.mem_of_getElem? (i := 24) rfl)
theorem dX12_sooner_198 : decode cX12_sooner 198 = .ok (.iload 11, 2) := dgX12_sooner_2 (198, (.iload 11, 2)) (List.mem_of_getElem? (i := 25) rfl)
theorem dX12_sooner_200 : decode cX12_sooner 200 = .ok (.goto 5, 3) := dgX12_sooner_2 (200, (.goto 5, 3)) (List.mem_of_getElem? (i := 26) rfl)
theorem dX12_sooner_203 : decode cX12_sooner 203 = .ok (.iload 6, 2) := dgX12_sooner_2 (203, (.iload 6, 2)) (List.mem_of_getElem? (i := 27) rfl)
theorem dX12_sooner_205 : decode cX12_sooner 205 = .ok (.istore 6, 2) := dgX12_sooner_2 (205, (.istore 6, 2)) (List.mem_of_getElem? (i := 28) rfl)
theorem dX12_sooner_207 : decode cX12_sooner 207 = .ok (.iinc 10 1, 3) := dgX12_sooner_2 (207, (.iinc 10 1, 3)) (List.mem_of_getElem? (i := 29) rfl)
theorem dX12_sooner_210 : decode cX12_sooner 210 = .ok (.goto (-96), 3) := dgX12_sooner_2 (210, (.goto (-96), 3)) (List.mem_of_getElem? (i := 30) rfl)
theorem dX12_sooner_213 : decode cX12_sooner 213 = .ok (.aload_n 0, 1) := dgX12_sooner_2 (213, (.aload_n 0, 1)) (List.mem_of_getElem? (i := 31) rfl)
theorem dX12_sooner_214 : decode cX12_sooner 214 = .ok (.getfield 13, 3) := dgX12_sooner_2 (214, (.getfield 13, 3)) (List.mem_of_getElem? (i := 32) rfl)
theorem dX12_sooner_217 : decode cX12_sooner 217 = .ok (.bipush 80, 2) := dgX12_sooner_2 (217, (.bipush 80, 2)) (List.mem_of_getElem? (i := 33) rfl)
theorem dX12_sooner_219 : decode cX12_sooner 219 = .ok (.iconst 5, 1) := dgX12_sooner_2 (219, (.iconst 5, 1)) (List.mem_of_getElem? (i := 34) rfl)
theorem dX12_sooner_220 : decode cX12_sooner 220 = .ok (.iload 8, 2) := dgX12_sooner_2 (220, (.iload 8, 2)) (List.mem_of_getElem? (i := 35) rfl)
theorem dX12_sooner_222 : decode cX12_sooner 222 = .ok (.imul, 1) := dgX12_sooner_2 (222, (.imul, 1)) (List.mem_of_getElem? (i := 36) rfl)
theorem dX12_sooner_223 : decode cX12_sooner 223 = .ok (.iadd, 1) := dgX12_sooner_2 (223, (.iadd, 1)) (List.mem_of_getElem? (i := 37) rfl)
theorem dX12_sooner_224 : decode cX12_sooner 224 = .ok (.iconst 1, 1) := dgX12_sooner_2 (224, (.iconst 1, 1)) (List.mem_of_getElem? (i := 38) rfl)
theorem dX12_sooner_225 : decode cX12_sooner 225 = .ok (.iadd, 1) := dgX12_sooner_2 (225, (.iadd, 1)) (List.mem_of_getElem? (i := 39) rfl)
theorem dgX12_sooner_3 : ∀ r ∈ ([(226, (.iload 9, 2)), (228, (.iastore, 1)), (229, (.iinc 8 1, 3)), (232, (.goto (-141), 3)), (235, (.iload 7, 2)), (237, (.iconst (-1), 1)), (238, (.if_icmp .ne 7, 3)), (241, (.iconst (-1), 1)), (242, (.goto 32, 3)), (245, (.iload 4, 2)), (247, (.ifCond .ne 8, 3)), (250, (.iload 6, 2)), (252, (.goto 22, 3)), (255, (.iload 4, 2)), (257, (.iconst 1, 1)), (258, (.if_icmp .ne 11, 3)), (261, (.iload 7, 2)), (263, (.bipush 6, 2)), (265, (.idiv, 1)), (266, (.goto 8, 3)), (269, (.iload 7, 2)), (271, (.bipush 6, 2)), (273, (.irem, 1)), (274, (.ireturn, 1))] : List (Nat × (Instr × Nat))), decode cX12_sooner r.1 = .ok r.2 := by decide +kernel
theorem dX12_sooner_226 : decode cX12_sooner 226 = .ok (.iload 9, 2) := dgX12_sooner_3 (226, (.iload 9, 2)) (List.mem_of_getElem? (i := 0) rfl)
theorem dX12_sooner_228 : decode cX12_sooner 228 = .ok (.iastore, 1) := dgX12_sooner_3 (228, (.iastore, 1)) (List.mem_of_getElem? (i := 1) rfl)
theorem dX12_sooner_229 : decode cX12_sooner 229 = .ok (.iinc 8 1, 3) := dgX12_sooner_3 (229, (.iinc 8 1, 3)) (List.mem_of_getElem? (i := 2) rfl)
theorem dX12_sooner_232 : decode cX12_sooner 232 = .ok (.goto (-141), 3) := dgX12_sooner_3 (232, (.goto (-141), 3)) (List.mem_of_getElem? (i := 3) rfl)
theorem dX12_sooner_235 : decode cX12_sooner 235 = .ok (.iload 7, 2) := dgX12_sooner_3 (235, (.iload 7, 2)) (List.mem_of_getElem? (i := 4) rfl)
theorem dX12_sooner_237 : decode cX12_sooner 237 = .ok (.iconst (-1), 1) := dgX12_sooner_3 (237, (.iconst (-1), 1)) (List.mem_of_getElem? (i := 5) rfl)
theorem dX12_sooner_238 : decode cX12_sooner 238 = .ok (.if_icmp .ne 7, 3) := dgX12_sooner_3 (238, (.if_icmp .ne 7, 3)) (List.mem_of_getElem? (i := 6) rfl)
theorem dX12_sooner_241 : decode cX12_sooner 241 = .ok (.iconst (-1), 1) := dgX12_sooner_3 (241, (.iconst (-1), 1)) (List.mem_of_getElem? (i := 7) rfl)
theorem dX12_sooner_242 : decode cX12_sooner 242 = .ok (.goto 32, 3) := dgX12_sooner_3 (242, (.goto 32, 3)) (List.mem_of_getElem? (i := 8) rfl)
theorem dX12_sooner_245 : decode cX12_sooner 245 = .ok (.iload 4, 2) := dgX12_sooner_3 (245, (.iload 4, 2)) (List.mem_of_getElem? (i := 9) rfl)
theorem dX12_sooner_247 : decode cX12_sooner 247 = .ok (.ifCond .ne 8, 3) := dgX12_sooner_3 (247, (.ifCond .ne 8, 3)) (List.mem_of_getElem? (i := 10) rfl)
theorem dX12_sooner_250 : decode cX12_sooner 250 = .ok (.iload 6, 2) := dgX12_sooner_3 (250, (.iload 6, 2)) (List.mem_of_getElem? (i := 11) rfl)
theorem dX12_sooner_252 : decode cX12_sooner 252 = .ok (.goto 22, 3) := dgX12_sooner_3 (252, (.goto 22, 3)) (List.mem_of_getElem? (i := 12) rfl)
theorem dX12_sooner_255 : decode cX12_sooner 255 = .ok (.iload 4, 2) := dgX12_sooner_3 (255, (.iload 4, 2)) (List.mem_of_getElem? (i := 13) rfl)
theorem dX12_sooner_257 : decode cX12_sooner 257 = .ok (.iconst 1, 1) := dgX12_sooner_3 (257, (.iconst 1, 1)) (List.mem_of_getElem? (i := 14) rfl)
theorem dX12_sooner_258 : decode cX12_sooner 258 = .ok (.if_icmp .ne 11, 3) := dgX12_sooner_3 (258, (.if_icmp .ne 11, 3)) (List.mem_of_getElem? (i := 15) rfl)
theorem dX12_sooner_261 : decode cX12_sooner 261 = .ok (.iload 7, 2) := dgX12_sooner_3 (261, (.iload 7, 2)) (List.mem_of_getElem? (i := 16) rfl)
theorem dX12_sooner_263 : decode cX12_sooner 263 = .ok (.bipush 6, 2) := dgX12_sooner_3 (263, (.bipush 6, 2)) (List.mem_of_getElem? (i := 17) rfl)
theorem dX12_sooner_265 : decode cX12_sooner 265 = .ok (.idiv, 1) := dgX12_sooner_3 (265, (.idiv, 1)) (List.mem_of_getElem? (i := 18) rfl)
theorem dX12_sooner_266 : decode cX12_sooner 266 = .ok (.goto 8, 3) := dgX12_sooner_3 (266, (.goto 8, 3)) (List.mem_of_getElem? (i := 19) rfl)
theorem dX12_sooner_269 : decode cX12_sooner 269 = .ok (.iload 7, 2) := dgX12_sooner_3 (269, (.iload 7, 2)) (List.mem_of_getElem? (i := 20) rfl)
theorem dX12_sooner_271 : decode cX12_sooner 271 = .ok (.bipush 6, 2) := dgX12_sooner_3 (271, (.bipush 6, 2)) (List.mem_of_getElem? (i := 21) rfl)
theorem dX12_sooner_273 : decode cX12_sooner 273 = .ok (.irem, 1) := dgX12_sooner_3 (273, (.irem, 1)) (List.mem_of_getElem? (i := 22) rfl)
theorem dX12_sooner_274 : decode cX12_sooner 274 = .ok (.ireturn, 1) := dgX12_sooner_3 (274, (.ireturn, 1)) (List.mem_of_getElem? (i := 23) rfl)
set_option maxHeartbeats 4000000 in
set_option maxRecDepth 100000 in
theorem n_sooner (l : Launch) (G : g5_G) (b_o b_ro b_se b_re b_pt b_tr b_ld b_rf b_im b_ke b_tp b_nl b_op b_ar b_pi b_pa b_ws b_hw b_ip b_ah b_be b_me b_wn : Nat) (sz : Nat) (u_th : Int32) (u_sa : Int32) (u_fd : Int32) (u_td : Int32) (u_fr : Int32) (u_to : Int32) (u_so : Int32) (u_fa : Int32) (u_bd : Int32) (u_nc : Int32) (u_co : Int32) (u_le : Int32) (u_pd : Int32) (u_od : Int32) (u_la : Int32) (u_bk : Int32) (u_ce : Int32) (u_ho : Int32) (u_wy : Int32) (u_bt : Int32) (u_ps : Int32) (u_tg : Int32) (u_sn : Int32) (u_ic : Int32) (u_wd : Int32) (u_id : Int32) (p_1 : Int32) (p_2 : Int32) (p_3 : Int32) (p_4 : Int32) (u_wo : Int64) (u_va : Int64) (u_su : Int64) (u_st : Int64) (v_ro : Nat → Int32) (v_se : Nat → Int64) (v_re : Nat → Int64) (v_pt : Nat → Int32) (v_tr : Nat → Int32) (v_ld : Nat → Int32) (h_u_td : 0 ≤ u_td.toInt ∧ u_td.toInt ≤ 400) (h_u_fr : 0 ≤ u_fr.toInt ∧ u_fr.toInt ≤ 400) (h_u_to : 0 ≤ u_to.toInt ∧ u_to.toInt ≤ 400) (h_u_bd : 0 ≤ u_bd.toInt ∧ u_bd.toInt ≤ 1) (h_u_nc : 0 ≤ u_nc.toInt ∧ u_nc.toInt ≤ 12) (h_u_co : 0 ≤ u_co.toInt ∧ u_co.toInt ≤ 400) (h_u_pd : 0 ≤ u_pd.toInt ∧ u_pd.toInt ≤ 400) (h_u_la : 0 ≤ u_la.toInt ∧ u_la.toInt ≤ 4840) (h_u_bk : 0 ≤ u_bk.toInt ∧ u_bk.toInt ≤ 1) (h_u_ce : 0 ≤ u_ce.toInt ∧ u_ce.toInt ≤ 63) (h_u_ho : 0 ≤ u_ho.toInt ∧ u_ho.toInt ≤ 23) (h_u_wy : 0 ≤ u_wy.toInt ∧ u_wy.toInt ≤ 3) (h_u_bt : 0 ≤ u_bt.toInt ∧ u_bt.toInt ≤ 1000000) (h_u_ps : 0 ≤ u_ps.toInt ∧ u_ps.toInt ≤ 200) (h_u_ic : 0 ≤ u_ic.toInt ∧ u_ic.toInt ≤ 1) (h_u_id : 0 ≤ u_id.toInt ∧ u_id.toInt ≤ 1) (r_ro : MI v_ro) (r_pt : PTI v_pt) : Met l yX12_sooner (wsG yX12_sooner cX12_sooner 12 (some .int)) ({ frames := 9, cells := 0, slots := 0, locals := 228 }) (va_Pc [.ref b_o, .int p_1, .int p_2, .int p_3, .int p_4] (g5_P G [(b_o, (oc12 u_th u_sa b_rf b_ro b_im b_ke u_fd b_tp u_td u_fr u_to u_so u_wo u_fa u_bd u_nc b_nl u_co b_op b_ar u_le b_pi b_pa u_pd u_od b_ws b_hw u_la b_se b_re u_bk u_va u_su u_ce u_ho u_wy u_bt u_ps b_pt u_tg u_sn b_ip u_ic b_ah b_be b_me u_wd b_tr b_ld u_st b_wn u_id)), (b_ro, (arI G 5740 v_ro)), (b_se, (arJ G 13 v_se)), (b_re, (arJ G 400 v_re)), (b_pt, (arI G 200 v_pt)), (b_tr, (arZ G 1536 v_tr)), (b_ld, (arZ G 1536 v_ld))] sz)) (va_Qi (fun (r : Int32) (u : va_W) => (∃ (o_r : Int32) (o_th : Int32) (o_la : Int32) (o_bk : Int32) (o_va : Int64) (o_su : Int64) (o_ce : Int32) (o_ho : Int32) (o_wy : Int32) (o_bt : Int32) (o_ps : Int32) (o_tg : Int32) (o_sn : Int32) (o_ro : Nat → Int32) (o_se : Nat → Int64) (o_re : Nat → Int64) (o_pt : Nat → Int32) (o_tr : Nat → Int32) (o_ld : Nat → Int32), (MI o_ro) ∧ (0 ≤ o_la.toInt ∧ o_la.toInt ≤ 4840) ∧ (0 ≤ o_bk.toInt ∧ o_bk.toInt ≤ 1) ∧ (0 ≤ o_ce.toInt ∧ o_ce.toInt ≤ 63) ∧ (0 ≤ o_ho.toInt ∧ o_ho.toInt ≤ 23) ∧ (0 ≤ o_wy.toInt ∧ o_wy.toInt ≤ 3) ∧ (0 ≤ o_bt.toInt ∧ o_bt.toInt ≤ 1000000) ∧ (0 ≤ o_ps.toInt ∧ o_ps.toInt ≤ 200) ∧ (PTI o_pt) ∧ (o_ro = v_ro) ∧ (r = o_r) ∧ (u = [(b_o, (oc12 o_th u_sa b_rf b_ro b_im b_ke u_fd b_tp u_td u_fr u_to u_so u_wo u_fa u_bd u_nc b_nl u_co b_op b_ar u_le b_pi b_pa u_pd u_od b_ws b_hw o_la b_se b_re o_bk o_va o_su o_ce o_ho o_wy o_bt o_ps b_pt o_tg o_sn b_ip u_ic b_ah b_be b_me u_wd b_tr b_ld u_st b_wn u_id)), (b_ro, (arI G 5740 o_ro)), (b_se, (arJ G 13 o_se)), (b_re, (arJ G 400 o_re)), (b_pt, (arI G 200 o_pt)), (b_tr, (arZ G 1536 o_tr)), (b_ld, (arZ G 1536 o_ld))]))) (g5_B G (va_A [(b_o, (oc12 u_th u_sa b_rf b_ro b_im b_ke u_fd b_tp u_td u_fr u_to u_so u_wo u_fa u_bd u_nc b_nl u_co b_op b_ar u_le b_pi b_pa u_pd u_od b_ws b_hw u_la b_se b_re u_bk u_va u_su u_ce u_ho u_wy u_bt u_ps b_pt u_tg u_sn b_ip u_ic b_ah b_be b_me u_wd b_tr b_ld u_st b_wn u_id)), (b_ro, (arI G 5740 v_ro)), (b_se, (arJ G 13 v_se)), (b_re, (arJ G 400 v_re)), (b_pt, (arI G 200 v_pt)), (b_tr, (arZ G 1536 v_tr)), (b_ld, (arZ G 1536 v_ld))] sz)) (va_A [(b_o, (oc12 u_th u_sa b_rf b_ro b_im b_ke u_fd b_tp u_td u_fr u_to u_so u_wo u_fa u_bd u_nc b_nl u_co b_op b_ar u_le b_pi b_pa u_pd u_od b_ws b_hw u_la b_se b_re u_bk u_va u_su u_ce u_ho u_wy u_bt u_ps b_pt u_tg u_sn b_ip u_ic b_ah b_be b_me u_wd b_tr b_ld u_st b_wn u_id)), (b_ro, (arI G 5740 v_ro)), (b_se, (arJ G 13 v_se)), (b_re, (arJ G 400 v_re)), (b_pt, (arI G 200 v_pt)), (b_tr, (arZ G 1536 v_tr)), (b_ld, (arZ G 1536 v_ld))] sz)) 0 0 (va_A [(b_o, (oc12 u_th u_sa b_rf b_ro b_im b_ke u_fd b_tp u_td u_fr u_to u_so u_wo u_fa u_bd u_nc b_nl u_co b_op b_ar u_le b_pi b_pa u_pd u_od b_ws b_hw u_la b_se b_re u_bk u_va u_su u_ce u_ho u_wy u_bt u_ps b_pt u_tg u_sn b_ip u_ic b_ah b_be b_me u_wd b_tr b_ld u_st b_wn u_id)), (b_ro, (arI G 5740 v_ro)), (b_se, (arJ G 13 v_se)), (b_re, (arJ G 400 v_re)), (b_pt, (arI G 200 v_pt)), (b_tr, (arZ G 1536 v_tr)), (b_ld, (arZ G 1536 v_ld))] sz) := by
  refine Met.ofW (cc := cX12_sooner) (maxL := 12) (ret := (some .int)) (by decide +kernel) rfl ?_
  intro p e s m args below meth c s₁ B hml hv
  obtain ⟨rfl, hsz, hP, hK, hD0, hN, hT⟩ := hv
  have hx := B.exec
  have hb := B.bytes
  have hr := B.returns
  have hts : ∀ w ∈ tblG, w.before _ s = true := fun w h => atoms_spec (ws := (wsG yX12_sooner cX12_sooner 12 (some .int))) B.pre w (List.mem_cons_of_mem _ h)
  have hown : s.vm.findClass RX12 = some m.cls := findClass_of_methodNamed B.named
  have hlocks := B.notSynchronized
  subst hsz
  have hD := hD0.self (sz := s.heap.size)
  generalize hAe : va_A [(b_o, (oc12 u_th u_sa b_rf b_ro b_im b_ke u_fd b_tp u_td u_fr u_to u_so u_wo u_fa u_bd u_nc b_nl u_co b_op b_ar u_le b_pi b_pa u_pd u_od b_ws b_hw u_la b_se b_re u_bk u_va u_su u_ce u_ho u_wy u_bt u_ps b_pt u_tg u_sn b_ip u_ic b_ah b_be b_me u_wd b_tr b_ld u_st b_wn u_id)), (b_ro, (arI G 5740 v_ro)), (b_se, (arJ G 13 v_se)), (b_re, (arJ G 400 v_re)), (b_pt, (arI G 200 v_pt)), (b_tr, (arZ G 1536 v_tr)), (b_ld, (arZ G 1536 v_ld))] s.heap.size = A at hD hT ⊢
  have hA : ∀ q : Nat, s.heap.size ≤ q → A q := fun q h => by rw [← hAe]; exact Or.inr h
  have hS : va_S A s.heap s.heap [] := va_S.rf
  replace hP : va_P G.1 vwCl [(b_o, (oc12 u_th u_sa b_rf b_ro b_im b_ke u_fd b_tp u_td u_fr u_to u_so u_wo u_fa u_bd u_nc b_nl u_co b_op b_ar u_le b_pi b_pa u_pd u_od b_ws b_hw u_la b_se b_re u_bk u_va u_su u_ce u_ho u_wy u_bt u_ps b_pt u_tg u_sn b_ip u_ic b_ah b_be b_me u_wd b_tr b_ld u_st b_wn u_id)), (b_ro, (arI G 5740 v_ro)), (b_se, (arJ G 13 v_se)), (b_re, (arJ G 400 v_re)), (b_pt, (arI G 200 v_pt)), (b_tr, (arZ G 1536 v_tr)), (b_ld, (arZ G 1536 v_ld))] s.heap := hP
  have hl := lv_entry ([.ref b_o, .int p_1, .int p_2, .int p_3, .int p_4]) (n := 12) (Nat.le_of_ble_eq_true rfl)
  rw [lg_entry_eq]
  generalize (lg_sl ([.ref b_o, .int p_1, .int p_2, .int p_3, .int p_4]) ++ List.replicate (12 - (lg_sl ([.ref b_o, .int p_1, .int p_2, .int p_3, .int p_4])).length) Slot.unset).toArray = ls at hl ⊢
  replace hl : lv_has ls 12 [(0, .ref b_o), (1, .int p_1), (2, .int p_2), (3, .int p_3), (4, .int p_4)] := hl
  refine lv_aload_n hx hb dX12_sooner_0 rfl (lv_at hl 0 rfl) ?_
  refine lv_iconst (v := 0) hx hb dX12_sooner_1 (by decide +kernel) ?_
  refine va_put (D := G.1) (ci := 12) (v := .int 0) (ty := .int) (C := RX12) (T := TX12) (N := 52) hx hb hts inG_X12 tyX12 tyX12_ok nmX12 hown hK hP hD hS 0 rfl rfl 0 (by decide +kernel) (hts _ fl_X12_107) (fun _ h9 => h9) rfl (by decide +kernel) rfl rfl (Nat.le_of_ble_eq_true rfl) dX12_sooner_2 ?_
  clear hP hD hS
  intro H locs hP hD hS
  refine g5_rs [(b_o, (oc12 0 u_sa b_rf b_ro b_im b_ke u_fd b_tp u_td u_fr u_to u_so u_wo u_fa u_bd u_nc b_nl u_co b_op b_ar u_le b_pi b_pa u_pd u_od b_ws b_hw u_la b_se b_re u_bk u_va u_su u_ce u_ho u_wy u_bt u_ps b_pt u_tg u_sn b_ip u_ic b_ah b_be b_me u_wd b_tr b_ld u_st b_wn u_id)), (b_ro, (arI G 5740 v_ro)), (b_se, (arJ G 13 v_se)), (b_re, (arJ G 400 v_re)), (b_pt, (arI G 200 v_pt)), (b_tr, (arZ G 1536 v_tr)), (b_ld, (arZ G 1536 v_ld))] hP hD ?_
  clear hP hD
  intro hP hD
  refine lv_aload_n hx hb dX12_sooner_5 rfl (lv_at hl 0 rfl) ?_
  refine W.eq (g2 := F0 m 6 ls [.ref b_o]) rfl ?_
  refine lv_iload_n hx hb dX12_sooner_6 rfl (lv_at hl 1 rfl) ?_
  obtain ⟨hPc, hDc, hFc⟩ := g5_sub3 (wc := [(b_o, (oc12 0 u_sa b_rf b_ro b_im b_ke u_fd b_tp u_td u_fr u_to u_so u_wo u_fa u_bd u_nc b_nl u_co b_op b_ar u_le b_pi b_pa u_pd u_od b_ws b_hw u_la b_se b_re u_bk u_va u_su u_ce u_ho u_wy u_bt u_ps b_pt u_tg u_sn b_ip u_ic b_ah b_be b_me u_wd b_tr b_ld u_st b_wn u_id)), (b_ro, (arI G 5740 v_ro))]) hP hD hS hA [0, 1] (by decide +kernel) rfl
  refine va_calli (va_runV (As := [.int p_1]) (rest := []) ⟨hx, hb, hml, hown, hts⟩ (n_isBody l G b_o b_ro b_rf b_im b_ke b_tp b_nl b_op b_ar b_pi b_pa b_ws b_hw b_se b_re b_pt b_ip b_ah b_be b_me b_tr b_ld b_wn H.size 0 u_sa u_fd u_td u_fr u_to u_so u_fa u_bd u_nc u_co u_le u_pd u_od u_la u_bk u_ce u_ho u_wy u_bt u_ps u_tg u_sn u_ic u_wd u_id p_1 u_wo u_va u_su u_st v_ro h_u_td h_u_fr h_u_to h_u_bd h_u_nc h_u_co h_u_pd h_u_la h_u_bk h_u_ce h_u_ho h_u_wy h_u_bt h_u_ps h_u_ic h_u_id (r_ro)) (cwV 1 hts gV_X12_180 rfl rfl rfl hv_X12_isBody ⟨Nat.le_of_ble_eq_true rfl, Nat.le_of_ble_eq_true rfl⟩) (g5_preV hPc hK hDc hN hT hS hFc (ci := 12) (q0 := 0) rfl rfl) rfl rfl hl.1 rfl (lv_room (Nat.le_of_ble_eq_true rfl)) dX12_sooner_7 ⟨Nat.le_of_ble_eq_true rfl, Nat.le_of_ble_eq_true rfl⟩) hS (fun q _ h => hFc q h) hFc (fun r u t H locs ht hvm hw hB hz1 hk1 hS => ?_)
  obtain ⟨hP1, hD1⟩ := hB
  have hP1 := g5_ht ht hP1
  rcases hw with ⟨(i_1 : 0 ≤ p_1.toInt ∧ p_1.toInt ≤ 4), rfl, rfl⟩ | ⟨rfl, rfl⟩
  ·
    have hJ9 := va_join (wr := [(b_se, (arJ G 13 v_se)), (b_re, (arJ G 400 v_re)), (b_pt, (arI G 200 v_pt)), (b_tr, (arZ G 1536 v_tr)), (b_ld, (arZ G 1536 v_ld))]) hP hD [0, 1] [2, 3, 4, 5, 6] rfl rfl (by decide +kernel) (by decide +kernel) hk1 hFc hP1 hD1
    clear hP hD hPc hDc hFc ht hvm hz1 hk1 hP1 hD1
    obtain ⟨hP, hD⟩ := hJ9
    refine g5_rs [(b_se, (arJ G 13 v_se)), (b_re, (arJ G 400 v_re)), (b_pt, (arI G 200 v_pt)), (b_tr, (arZ G 1536 v_tr)), (b_ld, (arZ G 1536 v_ld)), (b_o, (oc12 0 u_sa b_rf b_ro b_im b_ke u_fd b_tp u_td u_fr u_to u_so u_wo u_fa u_bd u_nc b_nl u_co b_op b_ar u_le b_pi b_pa u_pd u_od b_ws b_hw u_la b_se b_re u_bk u_va u_su u_ce u_ho u_wy u_bt u_ps b_pt u_tg u_sn b_ip u_ic b_ah b_be b_me u_wd b_tr b_ld u_st b_wn u_id)), (b_ro, (arI G 5740 v_ro))] hP hD ?_
    clear hP hD
    intro hP hD
    refine lv_if_eq (tgt := 59) hx hb dX12_sooner_10 (by decide +kernel) (fun c_2 => ?_) (fun c_2 => ?_)
    ·
      exact absurd c_2 (by decide +kernel)
    ·
      refine lv_iload_n hx hb dX12_sooner_13 rfl (lv_at hl 2 rfl) ?_
      obtain ⟨hPc, hDc, hFc⟩ := g5_sub3 (wc := []) hP hD hS hA [] (by decide +kernel) rfl
      refine va_calli (va_runS (As := [.int p_2]) (rest := []) ⟨hx, hb, hml, hown, hts⟩ (n_isCell l G H.size p_2) (va_cwS 1 hts gS_X12_138 rfl rfl rfl hs_X12_isCell ⟨Nat.le_of_ble_eq_true rfl, Nat.le_of_ble_eq_true rfl⟩) (g5_preS hPc hK hDc hN hT hS hFc) rfl rfl hl.1 rfl (lv_room (Nat.le_of_ble_eq_true rfl)) dX12_sooner_14 ⟨Nat.le_of_ble_eq_true rfl, Nat.le_of_ble_eq_true rfl⟩) hS (fun q _ h => hFc q h) hFc (fun r u t H locs ht hvm hw hB hz1 hk1 hS => ?_)
      obtain ⟨hP1, hD1⟩ := hB
      have hP1 := g5_ht ht hP1
      rcases hw with ⟨(i_3 : 0 ≤ p_2.toInt ∧ p_2.toInt ≤ 63), rfl, rfl⟩ | ⟨rfl, rfl⟩
      ·
        have hJ9 := g5_same hP hk1
        clear hP hPc hDc hFc ht hvm hz1 hk1 hP1 hD1
        have hP := hJ9
        clear hJ9
        refine lv_if_eq (tgt := 59) hx hb dX12_sooner_17 (by decide +kernel) (fun c_4 => ?_) (fun c_4 => ?_)
        ·
          exact absurd c_4 (by decide +kernel)
        ·
          refine lv_iload_n hx hb dX12_sooner_20 rfl (lv_at hl 3 rfl) ?_
          obtain ⟨hPc, hDc, hFc⟩ := g5_sub3 (wc := []) hP hD hS hA [] (by decide +kernel) rfl
          refine va_calli (va_runS (As := [.int p_3]) (rest := []) ⟨hx, hb, hml, hown, hts⟩ (n_isHour l G H.size p_3) (va_cwS 1 hts gS_X12_175 rfl rfl rfl hs_X12_isHour ⟨Nat.le_of_ble_eq_true rfl, Nat.le_of_ble_eq_true rfl⟩) (g5_preS hPc hK hDc hN hT hS hFc) rfl rfl hl.1 rfl (lv_room (Nat.le_of_ble_eq_true rfl)) dX12_sooner_21 ⟨Nat.le_of_ble_eq_true rfl, Nat.le_of_ble_eq_true rfl⟩) hS (fun q _ h => hFc q h) hFc (fun r u t H locs ht hvm hw hB hz1 hk1 hS => ?_)
          obtain ⟨hP1, hD1⟩ := hB
          have hP1 := g5_ht ht hP1
          rcases hw with ⟨(i_5 : 0 ≤ p_3.toInt ∧ p_3.toInt ≤ 23), rfl, rfl⟩ | ⟨rfl, rfl⟩
          ·
            have hJ9 := g5_same hP hk1
            clear hP hPc hDc hFc ht hvm hz1 hk1 hP1 hD1
            have hP := hJ9
            clear hJ9
            refine lv_if_eq (tgt := 59) hx hb dX12_sooner_24 (by decide +kernel) (fun c_6 => ?_) (fun c_6 => ?_)
            ·
              exact absurd c_6 (by decide +kernel)
            ·
              refine lv_iload hx hb dX12_sooner_27 (lv_at hl 4 rfl) ?_
              refine lv_i2l (v := p_4.toInt64) hx hb dX12_sooner_29 rfl ?_
              refine lv_lconst (v := 0) hx hb dX12_sooner_30 (by decide +kernel) ?_
              refine lv_ldc2 (v := 2) hx hb hown (hts _ kl_X12_411) dX12_sooner_31 ?_
              refine W.eq (g2 := F0 m 34 ls [.long 2, .long 0, .long p_4.toInt64]) rfl ?_
              obtain ⟨hPc, hDc, hFc⟩ := g5_sub3 (wc := []) hP hD hS hA [] (by decide +kernel) rfl
              refine va_calli (va_runS (As := [.long p_4.toInt64, .long 0, .long 2]) (rest := []) ⟨hx, hb, hml, hown, hts⟩ (n_in_0_2 l G H.size p_4) (va_cwS 3 hts gS_X12_121 rfl rfl rfl hs_X12_in ⟨Nat.le_of_ble_eq_true rfl, Nat.le_of_ble_eq_true rfl⟩) (g5_preS hPc hK hDc hN hT hS hFc) rfl rfl hl.1 rfl (lv_room (Nat.le_of_ble_eq_true rfl)) dX12_sooner_34 ⟨Nat.le_of_ble_eq_true rfl, Nat.le_of_ble_eq_true rfl⟩) hS (fun q _ h => hFc q h) hFc (fun r u t H locs ht hvm hw hB hz1 hk1 hS => ?_)
              obtain ⟨hP1, hD1⟩ := hB
              have hP1 := g5_ht ht hP1
              rcases hw with ⟨(i_7 : p_4.toInt < 0 ∨ 2 < p_4.toInt), rfl, rfl⟩ | ⟨(i_8 : 0 ≤ p_4.toInt ∧ p_4.toInt ≤ 2), rfl, rfl⟩
              ·
                have hJ9 := g5_same hP hk1
                clear hP hPc hDc hFc ht hvm hz1 hk1 hP1 hD1
                have hP := hJ9
                clear hJ9
                refine lv_if_eq (tgt := 59) hx hb dX12_sooner_37 (by decide +kernel) (fun c_9 => ?_) (fun c_9 => ?_)
                ·
                  refine lv_iconst (v := (-1)) hx hb dX12_sooner_59 (by decide +kernel) ?_
                  exact W.iret (v := (-1)) hx hb hr (fun t ht hW => ⟨⟨(-1), [(b_o, (oc12 0 u_sa b_rf b_ro b_im b_ke u_fd b_tp u_td u_fr u_to u_so u_wo u_fa u_bd u_nc b_nl u_co b_op b_ar u_le b_pi b_pa u_pd u_od b_ws b_hw u_la b_se b_re u_bk u_va u_su u_ce u_ho u_wy u_bt u_ps b_pt u_tg u_sn b_ip u_ic b_ah b_be b_me u_wd b_tr b_ld u_st b_wn u_id)), (b_ro, (arI G 5740 v_ro)), (b_se, (arJ G 13 v_se)), (b_re, (arJ G 400 v_re)), (b_pt, (arI G 200 v_pt)), (b_tr, (arZ G 1536 v_tr)), (b_ld, (arZ G 1536 v_ld))], rfl, ⟨(-1), 0, u_la, u_bk, u_va, u_su, u_ce, u_ho, u_wy, u_bt, u_ps, u_tg, u_sn, v_ro, v_se, v_re, v_pt, v_tr, v_ld, r_ro, h_u_la, h_u_bk, h_u_ce, h_u_ho, h_u_wy, h_u_bt, h_u_ps, r_pt, rfl, rfl, rfl⟩, by rw [ht]; exact hP.sub [5, 6, 0, 1, 2, 3, 4] rfl, hD.sub [5, 6, 0, 1, 2, 3, 4] (by decide +kernel) rfl⟩, hS.F ht⟩) hS.2.2 dX12_sooner_60
                ·
                  exact absurd c_9 (by decide +kernel)
              ·
                have hJ9 := g5_same hP hk1
                clear hP hPc hDc hFc ht hvm hz1 hk1 hP1 hD1
                have hP := hJ9
                clear hJ9
                refine lv_if_eq (tgt := 59) hx hb dX12_sooner_37 (by decide +kernel) (fun c_10 => ?_) (fun c_10 => ?_)
                ·
                  exact absurd c_10 (by decide +kernel)
                ·
                  refine lv_aload_n hx hb dX12_sooner_40 rfl (lv_at hl 0 rfl) ?_
                  refine lv_iload_n hx hb dX12_sooner_41 rfl (lv_at hl 2 rfl) ?_
                  obtain ⟨hPc, hDc, hFc⟩ := g5_sub3 (wc := []) hP hD hS hA [] (by decide +kernel) rfl
                  refine va_calli (va_runS (As := [.int p_2]) (rest := [.ref b_o]) ⟨hx, hb, hml, hown, hts⟩ (n_isCell l G H.size p_2) (va_cwS 1 hts gS_X12_138 rfl rfl rfl hs_X12_isCell ⟨Nat.le_of_ble_eq_true rfl, Nat.le_of_ble_eq_true rfl⟩) (g5_preS hPc hK hDc hN hT hS hFc) rfl rfl hl.1 rfl (lv_room (Nat.le_of_ble_eq_true rfl)) dX12_sooner_42 ⟨Nat.le_of_ble_eq_true rfl, Nat.le_of_ble_eq_true rfl⟩) hS (fun q _ h => hFc q h) hFc (fun r u t H locs ht hvm hw hB hz1 hk1 hS => ?_)
                  obtain ⟨hP1, hD1⟩ := hB
                  have hP1 := g5_ht ht hP1
                  rcases hw with ⟨(i_11 : 0 ≤ p_2.toInt ∧ p_2.toInt ≤ 63), rfl, rfl⟩ | ⟨rfl, rfl⟩
                  ·
                    have hJ9 := g5_same hP hk1
                    clear hP hPc hDc hFc ht hvm hz1 hk1 hP1 hD1
                    have hP := hJ9
                    clear hJ9
                    refine lv_if_eq (tgt := 52) hx hb dX12_sooner_45 (by decide +kernel) (fun c_12 => ?_) (fun c_12 => ?_)
                    ·
                      exact absurd c_12 (by decide +kernel)
                    ·
                      refine lv_iload_n hx hb dX12_sooner_48 rfl (lv_at hl 2 rfl) ?_
                      refine lv_goto (tgt := 53) hx hb dX12_sooner_49 (by decide +kernel) ?_
                      obtain ⟨hPc, hDc, hFc⟩ := g5_sub3 (wc := [(b_o, (oc12 0 u_sa b_rf b_ro b_im b_ke u_fd b_tp u_td u_fr u_to u_so u_wo u_fa u_bd u_nc b_nl u_co b_op b_ar u_le b_pi b_pa u_pd u_od b_ws b_hw u_la b_se b_re u_bk u_va u_su u_ce u_ho u_wy u_bt u_ps b_pt u_tg u_sn b_ip u_ic b_ah b_be b_me u_wd b_tr b_ld u_st b_wn u_id)), (b_ro, (arI G 5740 v_ro))]) hP hD hS hA [5, 6] (by decide +kernel) rfl
                      refine va_calli (va_runV (As := [.int p_2]) (rest := []) ⟨hx, hb, hml, hown, hts⟩ (n_isWall l G b_o b_ro b_rf b_im b_ke b_tp b_nl b_op b_ar b_pi b_pa b_ws b_hw b_se b_re b_pt b_ip b_ah b_be b_me b_tr b_ld b_wn H.size 0 u_sa u_fd u_td u_fr u_to u_so u_fa u_bd u_nc u_co u_le u_pd u_od u_la u_bk u_ce u_ho u_wy u_bt u_ps u_tg u_sn u_ic u_wd u_id p_2 u_wo u_va u_su u_st v_ro h_u_td h_u_fr h_u_to h_u_bd h_u_nc h_u_co h_u_pd h_u_la h_u_bk h_u_ce h_u_ho h_u_wy h_u_bt h_u_ps h_u_ic h_u_id i_11 (r_ro)) (cwV 1 hts gV_X12_160 rfl rfl rfl hv_X12_isWall ⟨Nat.le_of_ble_eq_true rfl, Nat.le_of_ble_eq_true rfl⟩) (g5_preV hPc hK hDc hN hT hS hFc (ci := 12) (q0 := 0) rfl rfl) rfl rfl hl.1 rfl (lv_room (Nat.le_of_ble_eq_true rfl)) dX12_sooner_53 ⟨Nat.le_of_ble_eq_true rfl, Nat.le_of_ble_eq_true rfl⟩) hS (fun q _ h => hFc q h) hFc (fun r u t H locs ht hvm hw hB hz1 hk1 hS => ?_)
                      obtain ⟨hP1, hD1⟩ := hB
                      have hP1 := g5_ht ht hP1
                      obtain ⟨z14, (i_13 : 0 ≤ z14.toInt ∧ z14.toInt ≤ 1), y15, rfl⟩ := hw
                      have hJ9 := va_join (wr := [(b_se, (arJ G 13 v_se)), (b_re, (arJ G 400 v_re)), (b_pt, (arI G 200 v_pt)), (b_tr, (arZ G 1536 v_tr)), (b_ld, (arZ G 1536 v_ld))]) hP hD [5, 6] [0, 1, 2, 3, 4] rfl rfl (by decide +kernel) (by decide +kernel) hk1 hFc hP1 hD1
                      clear hP hD hPc hDc hFc ht hvm hz1 hk1 hP1 hD1
                      obtain ⟨hP, hD⟩ := hJ9
                      refine g5_rs [(b_se, (arJ G 13 v_se)), (b_re, (arJ G 400 v_re)), (b_pt, (arI G 200 v_pt)), (b_tr, (arZ G 1536 v_tr)), (b_ld, (arZ G 1536 v_ld)), (b_o, (oc12 0 u_sa b_rf b_ro b_im b_ke u_fd b_tp u_td u_fr u_to u_so u_wo u_fa u_bd u_nc b_nl u_co b_op b_ar u_le b_pi b_pa u_pd u_od b_ws b_hw u_la b_se b_re u_bk u_va u_su u_ce u_ho u_wy u_bt u_ps b_pt u_tg u_sn b_ip u_ic b_ah b_be b_me u_wd b_tr b_ld u_st b_wn u_id)), (b_ro, (arI G 5740 v_ro))] hP hD ?_
                      clear hP hD
                      intro hP hD
                      refine g5_ti (v := z14) y15 ?_
                      refine lv_if_eq (tgt := 61) hx hb dX12_sooner_56 (by decide +kernel) (fun c_16 => ?_) (fun c_16 => ?_)
                      ·
                        have i_16 : z14.toInt = 0 := g5_eq (a := z14.toInt) (b := 0) rfl (by decide +kernel) c_16
                        refine lv_aload_n hx hb dX12_sooner_61 rfl (lv_at hl 0 rfl) ?_
                        refine lv_iload_n hx hb dX12_sooner_62 rfl (lv_at hl 1 rfl) ?_
                        refine lv_iload_n hx hb dX12_sooner_63 rfl (lv_at hl 2 rfl) ?_
                        refine lv_iload_n hx hb dX12_sooner_64 rfl (lv_at hl 3 rfl) ?_
                        refine W.eq (g2 := F0 m 65 ls [.int p_3, .int p_2, .int p_1, .ref b_o]) rfl ?_
                        obtain ⟨hPc, hDc, hFc⟩ := g5_sub3 (wc := [(b_o, (oc12 0 u_sa b_rf b_ro b_im b_ke u_fd b_tp u_td u_fr u_to u_so u_wo u_fa u_bd u_nc b_nl u_co b_op b_ar u_le b_pi b_pa u_pd u_od b_ws b_hw u_la b_se b_re u_bk u_va u_su u_ce u_ho u_wy u_bt u_ps b_pt u_tg u_sn b_ip u_ic b_ah b_be b_me u_wd b_tr b_ld u_st b_wn u_id)), (b_ro, (arI G 5740 v_ro)), (b_se, (arJ G 13 v_se)), (b_re, (arJ G 400 v_re)), (b_pt, (arI G 200 v_pt)), (b_tr, (arZ G 1536 v_tr)), (b_ld, (arZ G 1536 v_ld))]) hP hD hS hA [5, 6, 0, 1, 2, 3, 4] (by decide +kernel) rfl
                        refine va_calli (va_runV (As := [.int p_1, .int p_2, .int p_3]) (rest := []) ⟨hx, hb, hml, hown, hts⟩ (n_findSoonest l G b_o b_ro b_se b_re b_pt b_tr b_ld b_rf b_im b_ke b_tp b_nl b_op b_ar b_pi b_pa b_ws b_hw b_ip b_ah b_be b_me b_wn H.size 0 u_sa u_fd u_td u_fr u_to u_so u_fa u_bd u_nc u_co u_le u_pd u_od u_la u_bk u_ce u_ho u_wy u_bt u_ps u_tg u_sn u_ic u_wd u_id p_1 p_2 p_3 u_wo u_va u_su u_st v_ro v_se v_re v_pt v_tr v_ld h_u_td h_u_fr h_u_to h_u_bd h_u_nc h_u_co h_u_pd h_u_la h_u_bk h_u_ce h_u_ho h_u_wy h_u_bt h_u_ps h_u_ic h_u_id i_11 i_5 (r_ro) (r_pt)) (cwV 3 hts gV_X12_466 rfl rfl rfl hv_X12_findSoonest ⟨Nat.le_of_ble_eq_true rfl, Nat.le_of_ble_eq_true rfl⟩) (g5_preV hPc hK hDc hN hT hS hFc (ci := 12) (q0 := 0) rfl rfl) rfl rfl hl.1 rfl (lv_room (Nat.le_of_ble_eq_true rfl)) dX12_sooner_65 ⟨Nat.le_of_ble_eq_true rfl, Nat.le_of_ble_eq_true rfl⟩) hS (fun q _ h => hFc q h) hFc (fun r u t H locs ht hvm hw hB hz1 hk1 hS => ?_)
                        obtain ⟨hP1, hD1⟩ := hB
                        have hP1 := g5_ht ht hP1
                        obtain ⟨z26, z27, z28, z29, z30, z31, z32, z33, z34, z35, z36, z37, z38, z39, z40, z41, z42, (i_17 : (-1) ≤ z26.toInt ∧ z26.toInt ≤ 23), (i_18 : 0 ≤ z27.toInt ∧ z27.toInt ≤ 4840), (i_19 : 0 ≤ z28.toInt ∧ z28.toInt ≤ 1), (i_20 : 0 ≤ z31.toInt ∧ z31.toInt ≤ 63), (i_21 : 0 ≤ z32.toInt ∧ z32.toInt ≤ 23), (i_22 : 0 ≤ z33.toInt ∧ z33.toInt ≤ 3), (i_23 : 0 ≤ z34.toInt ∧ z34.toInt ≤ 1000000), (i_24 : 0 ≤ z35.toInt ∧ z35.toInt ≤ 200), (i_25 : PTI z40), y43, rfl⟩ := hw
                        have hJ9 := va_join (wr := []) hP hD [5, 6, 0, 1, 2, 3, 4] [] rfl rfl (by decide +kernel) (by decide +kernel) hk1 hFc hP1 hD1
                        clear hP hD hPc hDc hFc ht hvm hz1 hk1 hP1 hD1
                        obtain ⟨hP, hD⟩ := hJ9
                        refine g5_rs [(b_o, (oc12 0 u_sa b_rf b_ro b_im b_ke u_fd b_tp u_td u_fr u_to u_so u_wo u_fa u_bd u_nc b_nl u_co b_op b_ar u_le b_pi b_pa u_pd u_od b_ws b_hw z27 b_se b_re z28 z29 z30 z31 z32 z33 z34 z35 b_pt z36 z37 b_ip u_ic b_ah b_be b_me u_wd b_tr b_ld u_st b_wn u_id)), (b_ro, (arI G 5740 v_ro)), (b_se, (arJ G 13 z38)), (b_re, (arJ G 400 z39)), (b_pt, (arI G 200 z40)), (b_tr, (arZ G 1536 z41)), (b_ld, (arZ G 1536 z42))] hP hD ?_
                        clear hP hD
                        intro hP hD
                        refine g5_ti (v := z26) y43 ?_
                        refine lv_istore (lv' := [(5, .int z26), (0, .ref b_o), (1, .int p_1), (2, .int p_2), (3, .int p_3), (4, .int p_4)]) hx hb dX12_sooner_68 hl (by decide +kernel) rfl ?_
                        clear hl
                        intro ls hl
                        refine lv_iload hx hb dX12_sooner_70 (lv_at hl 0 rfl) ?_
                        refine lv_iconst (v := (-1)) hx hb dX12_sooner_72 (by decide +kernel) ?_
                        refine lv_icmp_ne (tgt := 81) hx hb dX12_sooner_73 (by decide +kernel) (fun c_44 => ?_) (fun c_44 => ?_)
                        ·
                          have n_44 : gNe (z26.toInt) ((-1)) := g5_ne (a := z26.toInt) (b := (-1)) rfl (by decide +kernel) c_44
                          have i_44 : z26.toInt ≥ 0 := by have z := g5_ne (a := z26.toInt) (b := (-1)) (by rfl) (by decide +kernel) c_44; omega
                          refine lv_iload hx hb dX12_sooner_81 (lv_at hl 0 rfl) ?_
                          refine lv_istore (lv' := [(6, .int z26), (5, .int z26), (0, .ref b_o), (1, .int p_1), (2, .int p_2), (3, .int p_3), (4, .int p_4)]) hx hb dX12_sooner_83 hl (by decide +kernel) rfl ?_
                          clear hl
                          intro ls hl
                          refine lv_iconst (v := (-1)) hx hb dX12_sooner_85 (by decide +kernel) ?_
                          refine lv_istore (lv' := [(7, .int (-1)), (6, .int z26), (5, .int z26), (0, .ref b_o), (1, .int p_1), (2, .int p_2), (3, .int p_3), (4, .int p_4)]) hx hb dX12_sooner_86 hl (by decide +kernel) rfl ?_
                          clear hl
                          intro ls hl
                          refine W.eq (g2 := F0 m 88 ls []) rfl ?_
                          refine lv_iconst (v := 0) hx hb dX12_sooner_88 (by decide +kernel) ?_
                          refine lv_istore (lv' := [(8, .int 0), (7, .int (-1)), (6, .int z26), (5, .int z26), (0, .ref b_o), (1, .int p_1), (2, .int p_2), (3, .int p_3), (4, .int p_4)]) hx hb dX12_sooner_89 hl (by decide +kernel) rfl ?_
                          clear hl
                          intro ls hl
                          refine g5_loop (α := (Int32) × (Int32) × (Int32) × (Int32) × (Int32) × (Int64) × (Int64) × (Int32) × (Int32) × (Int32) × (Int32) × (Int32) × (Int32) × (Int32) × (Nat → Int32) × (Nat → Int64) × (Nat → Int64) × (Nat → Int32) × (Nat → Int32) × (Nat → Int32)) (fun (q : (Int32) × (Int32) × (Int32) × (Int32) × (Int32) × (Int64) × (Int64) × (Int32) × (Int32) × (Int32) × (Int32) × (Int32) × (Int32) × (Int32) × (Nat → Int32) × (Nat → Int64) × (Nat → Int64) × (Nat → Int32) × (Nat → Int32) × (Nat → Int32)) (ls : Array Slot) (H : Heap) (locs : List Loc) => match q with | (k91_8, k91_7, k91_6, k91_la, k91_bk, k91_va, k91_su, k91_ce, k91_ho, k91_wy, k91_bt, k91_ps, k91_tg, k91_sn, k91_ro, k91_se, k91_re, k91_pt, k91_tr, k91_ld) => lv_has ls 12 [(6, .int k91_6), (7, .int k91_7), (8, .int k91_8), (5, .int z26), (0, .ref b_o), (1, .int p_1), (2, .int p_2), (3, .int p_3), (4, .int p_4)] ∧ va_P G.1 vwCl [(b_o, (oc12 0 u_sa b_rf b_ro b_im b_ke u_fd b_tp u_td u_fr u_to u_so u_wo u_fa u_bd u_nc b_nl u_co b_op b_ar u_le b_pi b_pa u_pd u_od b_ws b_hw k91_la b_se b_re k91_bk k91_va k91_su k91_ce k91_ho k91_wy k91_bt k91_ps b_pt k91_tg k91_sn b_ip u_ic b_ah b_be b_me u_wd b_tr b_ld u_st b_wn u_id)), (b_ro, (arI G 5740 k91_ro)), (b_se, (arJ G 13 k91_se)), (b_re, (arJ G 400 k91_re)), (b_pt, (arI G 200 k91_pt)), (b_tr, (arZ G 1536 k91_tr)), (b_ld, (arZ G 1536 k91_ld))] H ∧ va_D A [(b_o, (oc12 0 u_sa b_rf b_ro b_im b_ke u_fd b_tp u_td u_fr u_to u_so u_wo u_fa u_bd u_nc b_nl u_co b_op b_ar u_le b_pi b_pa u_pd u_od b_ws b_hw k91_la b_se b_re k91_bk k91_va k91_su k91_ce k91_ho k91_wy k91_bt k91_ps b_pt k91_tg k91_sn b_ip u_ic b_ah b_be b_me u_wd b_tr b_ld u_st b_wn u_id)), (b_ro, (arI G 5740 k91_ro)), (b_se, (arJ G 13 k91_se)), (b_re, (arJ G 400 k91_re)), (b_pt, (arI G 200 k91_pt)), (b_tr, (arZ G 1536 k91_tr)), (b_ld, (arZ G 1536 k91_ld))] ∧ va_S A s.heap H locs ∧ (0 ≤ k91_8.toInt ∧ k91_8.toInt ≤ 6) ∧ (0 ≤ k91_6.toInt ∧ k91_6.toInt ≤ 24) ∧ (0 ≤ k91_la.toInt ∧ k91_la.toInt ≤ 4840) ∧ (0 ≤ k91_bk.toInt ∧ k91_bk.toInt ≤ 1) ∧ (0 ≤ k91_ce.toInt ∧ k91_ce.toInt ≤ 63) ∧ (0 ≤ k91_ho.toInt ∧ k91_ho.toInt ≤ 23) ∧ (0 ≤ k91_wy.toInt ∧ k91_wy.toInt ≤ 3) ∧ (0 ≤ k91_bt.toInt ∧ k91_bt.toInt ≤ 1000000) ∧ (0 ≤ k91_ps.toInt ∧ k91_ps.toInt ≤ 200) ∧ (MI k91_ro) ∧ (PTI k91_pt) ∧ (k91_ro = v_ro)) (fun (q : (Int32) × (Int32) × (Int32) × (Int32) × (Int32) × (Int64) × (Int64) × (Int32) × (Int32) × (Int32) × (Int32) × (Int32) × (Int32) × (Int32) × (Nat → Int32) × (Nat → Int64) × (Nat → Int64) × (Nat → Int32) × (Nat → Int32) × (Nat → Int32)) => match q with | (k91_8, k91_7, k91_6, k91_la, k91_bk, k91_va, k91_su, k91_ce, k91_ho, k91_wy, k91_bt, k91_ps, k91_tg, k91_sn, k91_ro, k91_se, k91_re, k91_pt, k91_tr, k91_ld) => Int.toNat (6 - k91_8.toInt)) (0, (-1), z26, z27, z28, z29, z30, z31, z32, z33, z34, z35, z36, z37, v_ro, z38, z39, z40, z41, z42) ⟨lv_sub hl [2, 1, 0, 3, 4, 5, 6, 7, 8] rfl, hP, hD, hS, ⟨by decide, by decide⟩, ⟨by omega, by omega⟩, i_18, i_19, i_20, i_21, i_22, i_23, i_24, r_ro, i_25, rfl⟩ ?_
                          rintro ⟨k91_8, k91_7, k91_6, k91_la, k91_bk, k91_va, k91_su, k91_ce, k91_ho, k91_wy, k91_bt, k91_ps, k91_tg, k91_sn, k91_ro, k91_se, k91_re, k91_pt, k91_tr, k91_ld⟩ ls H locs ⟨hl, hP, hD, hS, (i_45 : 0 ≤ k91_8.toInt ∧ k91_8.toInt ≤ 6), (i_46 : 0 ≤ k91_6.toInt ∧ k91_6.toInt ≤ 24), (i_47 : 0 ≤ k91_la.toInt ∧ k91_la.toInt ≤ 4840), (i_48 : 0 ≤ k91_bk.toInt ∧ k91_bk.toInt ≤ 1), (i_49 : 0 ≤ k91_ce.toInt ∧ k91_ce.toInt ≤ 63), (i_50 : 0 ≤ k91_ho.toInt ∧ k91_ho.toInt ≤ 23), (i_51 : 0 ≤ k91_wy.toInt ∧ k91_wy.toInt ≤ 3), (i_52 : 0 ≤ k91_bt.toInt ∧ k91_bt.toInt ≤ 1000000), (i_53 : 0 ≤ k91_ps.toInt ∧ k91_ps.toInt ≤ 200), (i_54 : MI k91_ro), (i_55 : PTI k91_pt), (i_56 : k91_ro = v_ro)⟩ ih_91_57
                          replace hl : lv_has ls 12 [(6, .int k91_6), (7, .int k91_7), (8, .int k91_8), (5, .int z26), (0, .ref b_o), (1, .int p_1), (2, .int p_2), (3, .int p_3), (4, .int p_4)] := hl
                          refine g5_rs [(b_o, (oc12 0 u_sa b_rf b_ro b_im b_ke u_fd b_tp u_td u_fr u_to u_so u_wo u_fa u_bd u_nc b_nl u_co b_op b_ar u_le b_pi b_pa u_pd u_od b_ws b_hw k91_la b_se b_re k91_bk k91_va k91_su k91_ce k91_ho k91_wy k91_bt k91_ps b_pt k91_tg k91_sn b_ip u_ic b_ah b_be b_me u_wd b_tr b_ld u_st b_wn u_id)), (b_ro, (arI G 5740 k91_ro)), (b_se, (arJ G 13 k91_se)), (b_re, (arJ G 400 k91_re)), (b_pt, (arI G 200 k91_pt)), (b_tr, (arZ G 1536 k91_tr)), (b_ld, (arZ G 1536 k91_ld))] hP hD ?_
                          clear hP hD
                          intro hP hD
                          refine lv_iload hx hb dX12_sooner_91 (lv_at hl 2 rfl) ?_
                          refine lv_aload_n hx hb dX12_sooner_93 rfl (lv_at hl 4 rfl) ?_
                          refine va_get (D := G.1) (ci := 12) (v := .ref b_ro) (C := RX12) (T := TX12) (N := 52) hx hb hts inG_X12 hown hK hP 0 rfl rfl 3 (by decide +kernel) (hts _ fl_X12_13) (fun _ h9 => h9) rfl dX12_sooner_94 ?_
                          refine lv_iconst (v := 0) hx hb dX12_sooner_97 (by decide +kernel) ?_
                          refine W.eq (g2 := F0 m 98 ls [.int 0, .ref b_ro, .int k91_8]) rfl ?_
                          refine va_iald hx hb hK hP 1 0 rfl rfl (i := 0) (by unfold vp_in; decide) dX12_sooner_98 ?_
                          refine g5_ti (v := (k91_ro 0)) rfl ?_
                          have hr_58 : 0 ≤ (k91_ro 0).toInt ∧ (k91_ro 0).toInt ≤ 6 := mi_0 i_54
                          refine lv_icmp_ge (tgt := 235) hx hb dX12_sooner_99 (by decide +kernel) (fun c_59 => ?_) (fun c_59 => ?_)
                          ·
                            have i_59 : k91_8.toInt ≥ (k91_ro 0).toInt := g5_ge (a := k91_8.toInt) (b := (k91_ro 0).toInt) rfl rfl c_59
                            refine lv_iload hx hb dX12_sooner_235 (lv_at hl 1 rfl) ?_
                            refine lv_iconst (v := (-1)) hx hb dX12_sooner_237 (by decide +kernel) ?_
                            refine lv_icmp_ne (tgt := 245) hx hb dX12_sooner_238 (by decide +kernel) (fun c_60 => ?_) (fun c_60 => ?_)
                            ·
                              have n_60 : gNe (k91_7.toInt) ((-1)) := g5_ne (a := k91_7.toInt) (b := (-1)) rfl (by decide +kernel) c_60
                              refine lv_iload hx hb dX12_sooner_245 (lv_at hl 8 rfl) ?_
                              refine lv_if_ne (tgt := 255) hx hb dX12_sooner_247 (by decide +kernel) (fun c_61 => ?_) (fun c_61 => ?_)
                              ·
                                have n_61 : gNe (p_4.toInt) (0) := g5_ne (a := p_4.toInt) (b := 0) rfl (by decide +kernel) c_61
                                have i_61 : p_4.toInt ≥ 1 := by have z := g5_ne (a := p_4.toInt) (b := 0) (by rfl) (by decide +kernel) c_61; omega
                                refine lv_iload hx hb dX12_sooner_255 (lv_at hl 8 rfl) ?_
                                refine lv_iconst (v := 1) hx hb dX12_sooner_257 (by decide +kernel) ?_
                                refine lv_icmp_ne (tgt := 269) hx hb dX12_sooner_258 (by decide +kernel) (fun c_62 => ?_) (fun c_62 => ?_)
                                ·
                                  have n_62 : gNe (p_4.toInt) (1) := g5_ne (a := p_4.toInt) (b := 1) rfl (by decide +kernel) c_62
                                  have i_62 : p_4.toInt ≥ 2 := by have z := g5_ne (a := p_4.toInt) (b := 1) (by rfl) (by decide +kernel) c_62; omega
                                  refine lv_iload hx hb dX12_sooner_269 (lv_at hl 1 rfl) ?_
                                  refine lv_bipush (v := 6) hx hb dX12_sooner_271 (by decide +kernel) ?_
                                  refine lv_irem hx hb dX12_sooner_273 (by decide +kernel) ?_
                                  exact W.iret (v := (k91_7 - k91_7 / 6 * 6)) hx hb hr (fun t ht hW => ⟨⟨(k91_7 - k91_7 / 6 * 6), [(b_o, (oc12 0 u_sa b_rf b_ro b_im b_ke u_fd b_tp u_td u_fr u_to u_so u_wo u_fa u_bd u_nc b_nl u_co b_op b_ar u_le b_pi b_pa u_pd u_od b_ws b_hw k91_la b_se b_re k91_bk k91_va k91_su k91_ce k91_ho k91_wy k91_bt k91_ps b_pt k91_tg k91_sn b_ip u_ic b_ah b_be b_me u_wd b_tr b_ld u_st b_wn u_id)), (b_ro, (arI G 5740 k91_ro)), (b_se, (arJ G 13 k91_se)), (b_re, (arJ G 400 k91_re)), (b_pt, (arI G 200 k91_pt)), (b_tr, (arZ G 1536 k91_tr)), (b_ld, (arZ G 1536 k91_ld))], rfl, ⟨(k91_7 - k91_7 / 6 * 6), 0, k91_la, k91_bk, k91_va, k91_su, k91_ce, k91_ho, k91_wy, k91_bt, k91_ps, k91_tg, k91_sn, k91_ro, k91_se, k91_re, k91_pt, k91_tr, k91_ld, i_54, i_47, i_48, i_49, i_50, i_51, i_52, i_53, i_55, i_56, rfl, rfl⟩, by rw [ht]; exact hP.sub [0, 1, 2, 3, 4, 5, 6] rfl, hD.sub [0, 1, 2, 3, 4, 5, 6] (by decide +kernel) rfl⟩, hS.F ht⟩) hS.2.2 dX12_sooner_274
                                ·
                                  have i_62 : p_4.toInt = 1 := g5_neN (a := p_4.toInt) (b := 1) rfl (by decide +kernel) c_62
                                  refine lv_iload hx hb dX12_sooner_261 (lv_at hl 1 rfl) ?_
                                  refine lv_bipush (v := 6) hx hb dX12_sooner_263 (by decide +kernel) ?_
                                  refine lv_idiv hx hb dX12_sooner_265 (by decide +kernel) ?_
                                  refine lv_goto (tgt := 274) hx hb dX12_sooner_266 (by decide +kernel) ?_
                                  refine W.eq (g2 := F0 m 274 ls [.int (k91_7 / 6)]) rfl ?_
                                  exact W.iret (v := (k91_7 / 6)) hx hb hr (fun t ht hW => ⟨⟨(k91_7 / 6), [(b_o, (oc12 0 u_sa b_rf b_ro b_im b_ke u_fd b_tp u_td u_fr u_to u_so u_wo u_fa u_bd u_nc b_nl u_co b_op b_ar u_le b_pi b_pa u_pd u_od b_ws b_hw k91_la b_se b_re k91_bk k91_va k91_su k91_ce k91_ho k91_wy k91_bt k91_ps b_pt k91_tg k91_sn b_ip u_ic b_ah b_be b_me u_wd b_tr b_ld u_st b_wn u_id)), (b_ro, (arI G 5740 k91_ro)), (b_se, (arJ G 13 k91_se)), (b_re, (arJ G 400 k91_re)), (b_pt, (arI G 200 k91_pt)), (b_tr, (arZ G 1536 k91_tr)), (b_ld, (arZ G 1536 k91_ld))], rfl, ⟨(k91_7 / 6), 0, k91_la, k91_bk, k91_va, k91_su, k91_ce, k91_ho, k91_wy, k91_bt, k91_ps, k91_tg, k91_sn, k91_ro, k91_se, k91_re, k91_pt, k91_tr, k91_ld, i_54, i_47, i_48, i_49, i_50, i_51, i_52, i_53, i_55, i_56, rfl, rfl⟩, by rw [ht]; exact hP.sub [0, 1, 2, 3, 4, 5, 6] rfl, hD.sub [0, 1, 2, 3, 4, 5, 6] (by decide +kernel) rfl⟩, hS.F ht⟩) hS.2.2 dX12_sooner_274
                              ·
                                have i_61 : p_4.toInt = 0 := g5_neN (a := p_4.toInt) (b := 0) rfl (by decide +kernel) c_61
                                refine lv_iload hx hb dX12_sooner_250 (lv_at hl 0 rfl) ?_
                                refine lv_goto (tgt := 274) hx hb dX12_sooner_252 (by decide +kernel) ?_
                                exact W.iret (v := k91_6) hx hb hr (fun t ht hW => ⟨⟨k91_6, [(b_o, (oc12 0 u_sa b_rf b_ro b_im b_ke u_fd b_tp u_td u_fr u_to u_so u_wo u_fa u_bd u_nc b_nl u_co b_op b_ar u_le b_pi b_pa u_pd u_od b_ws b_hw k91_la b_se b_re k91_bk k91_va k91_su k91_ce k91_ho k91_wy k91_bt k91_ps b_pt k91_tg k91_sn b_ip u_ic b_ah b_be b_me u_wd b_tr b_ld u_st b_wn u_id)), (b_ro, (arI G 5740 k91_ro)), (b_se, (arJ G 13 k91_se)), (b_re, (arJ G 400 k91_re)), (b_pt, (arI G 200 k91_pt)), (b_tr, (arZ G 1536 k91_tr)), (b_ld, (arZ G 1536 k91_ld))], rfl, ⟨k91_6, 0, k91_la, k91_bk, k91_va, k91_su, k91_ce, k91_ho, k91_wy, k91_bt, k91_ps, k91_tg, k91_sn, k91_ro, k91_se, k91_re, k91_pt, k91_tr, k91_ld, i_54, i_47, i_48, i_49, i_50, i_51, i_52, i_53, i_55, i_56, rfl, rfl⟩, by rw [ht]; exact hP.sub [0, 1, 2, 3, 4, 5, 6] rfl, hD.sub [0, 1, 2, 3, 4, 5, 6] (by decide +kernel) rfl⟩, hS.F ht⟩) hS.2.2 dX12_sooner_274
                            ·
                              have i_60 : k91_7.toInt = (-1) := g5_neN (a := k91_7.toInt) (b := (-1)) rfl (by decide +kernel) c_60
                              refine lv_iconst (v := (-1)) hx hb dX12_sooner_241 (by decide +kernel) ?_
                              refine lv_goto (tgt := 274) hx hb dX12_sooner_242 (by decide +kernel) ?_
                              exact W.iret (v := (-1)) hx hb hr (fun t ht hW => ⟨⟨(-1), [(b_o, (oc12 0 u_sa b_rf b_ro b_im b_ke u_fd b_tp u_td u_fr u_to u_so u_wo u_fa u_bd u_nc b_nl u_co b_op b_ar u_le b_pi b_pa u_pd u_od b_ws b_hw k91_la b_se b_re k91_bk k91_va k91_su k91_ce k91_ho k91_wy k91_bt k91_ps b_pt k91_tg k91_sn b_ip u_ic b_ah b_be b_me u_wd b_tr b_ld u_st b_wn u_id)), (b_ro, (arI G 5740 k91_ro)), (b_se, (arJ G 13 k91_se)), (b_re, (arJ G 400 k91_re)), (b_pt, (arI G 200 k91_pt)), (b_tr, (arZ G 1536 k91_tr)), (b_ld, (arZ G 1536 k91_ld))], rfl, ⟨(-1), 0, k91_la, k91_bk, k91_va, k91_su, k91_ce, k91_ho, k91_wy, k91_bt, k91_ps, k91_tg, k91_sn, k91_ro, k91_se, k91_re, k91_pt, k91_tr, k91_ld, i_54, i_47, i_48, i_49, i_50, i_51, i_52, i_53, i_55, i_56, rfl, rfl⟩, by rw [ht]; exact hP.sub [0, 1, 2, 3, 4, 5, 6] rfl, hD.sub [0, 1, 2, 3, 4, 5, 6] (by decide +kernel) rfl⟩, hS.F ht⟩) hS.2.2 dX12_sooner_274
                          ·
                            have i_59 : k91_8.toInt < (k91_ro 0).toInt := g5_geN (a := k91_8.toInt) (b := (k91_ro 0).toInt) rfl rfl c_59
                            refine lv_aload_n hx hb dX12_sooner_102 rfl (lv_at hl 4 rfl) ?_
                            refine lv_iload hx hb dX12_sooner_103 (lv_at hl 2 rfl) ?_
                            refine lv_iconst (v := 1) hx hb dX12_sooner_105 (by decide +kernel) ?_
                            obtain ⟨hPc, hDc, hFc⟩ := g5_sub3 (wc := [(b_o, (oc12 0 u_sa b_rf b_ro b_im b_ke u_fd b_tp u_td u_fr u_to u_so u_wo u_fa u_bd u_nc b_nl u_co b_op b_ar u_le b_pi b_pa u_pd u_od b_ws b_hw k91_la b_se b_re k91_bk k91_va k91_su k91_ce k91_ho k91_wy k91_bt k91_ps b_pt k91_tg k91_sn b_ip u_ic b_ah b_be b_me u_wd b_tr b_ld u_st b_wn u_id)), (b_ro, (arI G 5740 k91_ro))]) hP hD hS hA [0, 1] (by decide +kernel) rfl
                            refine va_calli (va_runV (As := [.int k91_8, .int 1]) (rest := []) ⟨hx, hb, hml, hown, hts⟩ (n_ofGlass1S l G b_o b_ro b_rf b_im b_ke b_tp b_nl b_op b_ar b_pi b_pa b_ws b_hw b_se b_re b_pt b_ip b_ah b_be b_me b_tr b_ld b_wn H.size 0 u_sa u_fd u_td u_fr u_to u_so u_fa u_bd u_nc u_co u_le u_pd u_od k91_la k91_bk k91_ce k91_ho k91_wy k91_bt k91_ps k91_tg k91_sn u_ic u_wd u_id k91_8 u_wo k91_va k91_su u_st k91_ro h_u_td h_u_fr h_u_to h_u_bd h_u_nc h_u_co h_u_pd i_47 i_48 i_49 i_50 i_51 i_52 i_53 h_u_ic h_u_id ⟨by omega, by omega⟩ (i_54)) (cwV 2 hts gV_X12_134 rfl rfl rfl hv_X12_ofGlass ⟨Nat.le_of_ble_eq_true rfl, Nat.le_of_ble_eq_true rfl⟩) (g5_preV hPc hK hDc hN hT hS hFc (ci := 12) (q0 := 0) rfl rfl) rfl rfl hl.1 rfl (lv_room (Nat.le_of_ble_eq_true rfl)) dX12_sooner_106 ⟨Nat.le_of_ble_eq_true rfl, Nat.le_of_ble_eq_true rfl⟩) hS (fun q _ h => hFc q h) hFc (fun r u t H locs ht hvm hw hB hz1 hk1 hS => ?_)
                            obtain ⟨hP1, hD1⟩ := hB
                            have hP1 := g5_ht ht hP1
                            obtain ⟨z65, (i_63 : 0 ≤ z65.toInt ∧ z65.toInt ≤ 5), (i_64 : z65 = k91_ro (80 + 5 * k91_8.toInt.toNat + 1)), y66, rfl⟩ := hw
                            have hJ9 := va_join (wr := [(b_se, (arJ G 13 k91_se)), (b_re, (arJ G 400 k91_re)), (b_pt, (arI G 200 k91_pt)), (b_tr, (arZ G 1536 k91_tr)), (b_ld, (arZ G 1536 k91_ld))]) hP hD [0, 1] [2, 3, 4, 5, 6] rfl rfl (by decide +kernel) (by decide +kernel) hk1 hFc hP1 hD1
                            clear hP hD hPc hDc hFc ht hvm hz1 hk1 hP1 hD1
                            obtain ⟨hP, hD⟩ := hJ9
                            refine g5_rs [(b_se, (arJ G 13 k91_se)), (b_re, (arJ G 400 k91_re)), (b_pt, (arI G 200 k91_pt)), (b_tr, (arZ G 1536 k91_tr)), (b_ld, (arZ G 1536 k91_ld)), (b_o, (oc12 0 u_sa b_rf b_ro b_im b_ke u_fd b_tp u_td u_fr u_to u_so u_wo u_fa u_bd u_nc b_nl u_co b_op b_ar u_le b_pi b_pa u_pd u_od b_ws b_hw k91_la b_se b_re k91_bk k91_va k91_su k91_ce k91_ho k91_wy k91_bt k91_ps b_pt k91_tg k91_sn b_ip u_ic b_ah b_be b_me u_wd b_tr b_ld u_st b_wn u_id)), (b_ro, (arI G 5740 k91_ro))] hP hD ?_
                            clear hP hD
                            intro hP hD
                            refine g5_ti (v := z65) y66 ?_
                            refine W.eq (g2 := F0 m 109 ls [.int z65]) rfl ?_
                            refine lv_istore (lv' := [(9, .int z65), (6, .int k91_6), (7, .int k91_7), (8, .int k91_8), (5, .int z26), (0, .ref b_o), (1, .int p_1), (2, .int p_2), (3, .int p_3), (4, .int p_4)]) hx hb dX12_sooner_109 hl (by decide +kernel) rfl ?_
                            clear hl
                            intro ls hl
                            refine lv_iconst (v := 0) hx hb dX12_sooner_111 (by decide +kernel) ?_
                            refine lv_istore (lv' := [(10, .int 0), (9, .int z65), (6, .int k91_6), (7, .int k91_7), (8, .int k91_8), (5, .int z26), (0, .ref b_o), (1, .int p_1), (2, .int p_2), (3, .int p_3), (4, .int p_4)]) hx hb dX12_sooner_112 hl (by decide +kernel) rfl ?_
                            clear hl
                            intro ls hl
                            refine g5_loop (α := (Int32) × (Int32) × (Int32) × (Int32) × (Int32) × (Int64) × (Int64) × (Int32) × (Int32) × (Int32) × (Int32) × (Int32) × (Int32) × (Int32) × (Nat → Int32) × (Nat → Int64) × (Nat → Int64) × (Nat → Int32) × (Nat → Int32) × (Nat → Int32)) (fun (q : (Int32) × (Int32) × (Int32) × (Int32) × (Int32) × (Int64) × (Int64) × (Int32) × (Int32) × (Int32) × (Int32) × (Int32) × (Int32) × (Int32) × (Nat → Int32) × (Nat → Int64) × (Nat → Int64) × (Nat → Int32) × (Nat → Int32) × (Nat → Int32)) (ls : Array Slot) (H : Heap) (locs : List Loc) => match q with | (k114_10, k114_6, k114_7, k114_la, k114_bk, k114_va, k114_su, k114_ce, k114_ho, k114_wy, k114_bt, k114_ps, k114_tg, k114_sn, k114_ro, k114_se, k114_re, k114_pt, k114_tr, k114_ld) => lv_has ls 12 [(6, .int k114_6), (7, .int k114_7), (10, .int k114_10), (9, .int z65), (8, .int k91_8), (5, .int z26), (0, .ref b_o), (1, .int p_1), (2, .int p_2), (3, .int p_3), (4, .int p_4)] ∧ va_P G.1 vwCl [(b_se, (arJ G 13 k114_se)), (b_re, (arJ G 400 k114_re)), (b_pt, (arI G 200 k114_pt)), (b_tr, (arZ G 1536 k114_tr)), (b_ld, (arZ G 1536 k114_ld)), (b_o, (oc12 0 u_sa b_rf b_ro b_im b_ke u_fd b_tp u_td u_fr u_to u_so u_wo u_fa u_bd u_nc b_nl u_co b_op b_ar u_le b_pi b_pa u_pd u_od b_ws b_hw k114_la b_se b_re k114_bk k114_va k114_su k114_ce k114_ho k114_wy k114_bt k114_ps b_pt k114_tg k114_sn b_ip u_ic b_ah b_be b_me u_wd b_tr b_ld u_st b_wn u_id)), (b_ro, (arI G 5740 k114_ro))] H ∧ va_D A [(b_se, (arJ G 13 k114_se)), (b_re, (arJ G 400 k114_re)), (b_pt, (arI G 200 k114_pt)), (b_tr, (arZ G 1536 k114_tr)), (b_ld, (arZ G 1536 k114_ld)), (b_o, (oc12 0 u_sa b_rf b_ro b_im b_ke u_fd b_tp u_td u_fr u_to u_so u_wo u_fa u_bd u_nc b_nl u_co b_op b_ar u_le b_pi b_pa u_pd u_od b_ws b_hw k114_la b_se b_re k114_bk k114_va k114_su k114_ce k114_ho k114_wy k114_bt k114_ps b_pt k114_tg k114_sn b_ip u_ic b_ah b_be b_me u_wd b_tr b_ld u_st b_wn u_id)), (b_ro, (arI G 5740 k114_ro))] ∧ va_S A s.heap H locs ∧ (0 ≤ k114_10.toInt ∧ k114_10.toInt ≤ 6) ∧ (0 ≤ k114_6.toInt ∧ k114_6.toInt ≤ 24) ∧ (0 ≤ k114_la.toInt ∧ k114_la.toInt ≤ 4840) ∧ (0 ≤ k114_bk.toInt ∧ k114_bk.toInt ≤ 1) ∧ (0 ≤ k114_ce.toInt ∧ k114_ce.toInt ≤ 63) ∧ (0 ≤ k114_ho.toInt ∧ k114_ho.toInt ≤ 23) ∧ (0 ≤ k114_wy.toInt ∧ k114_wy.toInt ≤ 3) ∧ (0 ≤ k114_bt.toInt ∧ k114_bt.toInt ≤ 1000000) ∧ (0 ≤ k114_ps.toInt ∧ k114_ps.toInt ≤ 200) ∧ (MI k114_ro) ∧ (PTI k114_pt) ∧ (∀ j : Nat, j ≠ (81 + 5 * k91_8.toInt.toNat) → k114_ro j = v_ro j)) (fun (q : (Int32) × (Int32) × (Int32) × (Int32) × (Int32) × (Int64) × (Int64) × (Int32) × (Int32) × (Int32) × (Int32) × (Int32) × (Int32) × (Int32) × (Nat → Int32) × (Nat → Int64) × (Nat → Int64) × (Nat → Int32) × (Nat → Int32) × (Nat → Int32)) => match q with | (k114_10, k114_6, k114_7, k114_la, k114_bk, k114_va, k114_su, k114_ce, k114_ho, k114_wy, k114_bt, k114_ps, k114_tg, k114_sn, k114_ro, k114_se, k114_re, k114_pt, k114_tr, k114_ld) => Int.toNat (6 - k114_10.toInt)) (0, k91_6, k91_7, k91_la, k91_bk, k91_va, k91_su, k91_ce, k91_ho, k91_wy, k91_bt, k91_ps, k91_tg, k91_sn, k91_ro, k91_se, k91_re, k91_pt, k91_tr, k91_ld) ⟨lv_sub hl [2, 3, 0, 1, 4, 5, 6, 7, 8, 9, 10] rfl, hP, hD, hS, ⟨by decide, by decide⟩, i_46, i_47, i_48, i_49, i_50, i_51, i_52, i_53, i_54, i_55, fun j _ => by rw [i_56]⟩ ?_
                            rintro ⟨k114_10, k114_6, k114_7, k114_la, k114_bk, k114_va, k114_su, k114_ce, k114_ho, k114_wy, k114_bt, k114_ps, k114_tg, k114_sn, k114_ro, k114_se, k114_re, k114_pt, k114_tr, k114_ld⟩ ls H locs ⟨hl, hP, hD, hS, (i_67 : 0 ≤ k114_10.toInt ∧ k114_10.toInt ≤ 6), (i_68 : 0 ≤ k114_6.toInt ∧ k114_6.toInt ≤ 24), (i_69 : 0 ≤ k114_la.toInt ∧ k114_la.toInt ≤ 4840), (i_70 : 0 ≤ k114_bk.toInt ∧ k114_bk.toInt ≤ 1), (i_71 : 0 ≤ k114_ce.toInt ∧ k114_ce.toInt ≤ 63), (i_72 : 0 ≤ k114_ho.toInt ∧ k114_ho.toInt ≤ 23), (i_73 : 0 ≤ k114_wy.toInt ∧ k114_wy.toInt ≤ 3), (i_74 : 0 ≤ k114_bt.toInt ∧ k114_bt.toInt ≤ 1000000), (i_75 : 0 ≤ k114_ps.toInt ∧ k114_ps.toInt ≤ 200), (i_76 : MI k114_ro), (i_77 : PTI k114_pt), (i_78 : ∀ j : Nat, j ≠ (81 + 5 * k91_8.toInt.toNat) → k114_ro j = v_ro j)⟩ ih_114_79
                            replace hl : lv_has ls 12 [(6, .int k114_6), (7, .int k114_7), (10, .int k114_10), (9, .int z65), (8, .int k91_8), (5, .int z26), (0, .ref b_o), (1, .int p_1), (2, .int p_2), (3, .int p_3), (4, .int p_4)] := hl
                            refine g5_rs [(b_se, (arJ G 13 k114_se)), (b_re, (arJ G 400 k114_re)), (b_pt, (arI G 200 k114_pt)), (b_tr, (arZ G 1536 k114_tr)), (b_ld, (arZ G 1536 k114_ld)), (b_o, (oc12 0 u_sa b_rf b_ro b_im b_ke u_fd b_tp u_td u_fr u_to u_so u_wo u_fa u_bd u_nc b_nl u_co b_op b_ar u_le b_pi b_pa u_pd u_od b_ws b_hw k114_la b_se b_re k114_bk k114_va k114_su k114_ce k114_ho k114_wy k114_bt k114_ps b_pt k114_tg k114_sn b_ip u_ic b_ah b_be b_me u_wd b_tr b_ld u_st b_wn u_id)), (b_ro, (arI G 5740 k114_ro))] hP hD ?_
                            clear hP hD
                            intro hP hD
                            refine lv_iload hx hb dX12_sooner_114 (lv_at hl 2 rfl) ?_
                            refine lv_bipush (v := 6) hx hb dX12_sooner_116 (by decide +kernel) ?_
                            refine lv_icmp_ge (tgt := 213) hx hb dX12_sooner_118 (by decide +kernel) (fun c_80 => ?_) (fun c_80 => ?_)
                            ·
                              have i_80 : k114_10.toInt ≥ 6 := g5_ge (a := k114_10.toInt) (b := 6) rfl (by decide +kernel) c_80
                              refine lv_aload_n hx hb dX12_sooner_213 rfl (lv_at hl 6 rfl) ?_
                              refine va_get (D := G.1) (ci := 12) (v := .ref b_ro) (C := RX12) (T := TX12) (N := 52) hx hb hts inG_X12 hown hK hP 5 rfl rfl 3 (by decide +kernel) (hts _ fl_X12_13) (fun _ h9 => h9) rfl dX12_sooner_214 ?_
                              refine lv_bipush (v := 80) hx hb dX12_sooner_217 (by decide +kernel) ?_
                              refine lv_iconst (v := 5) hx hb dX12_sooner_219 (by decide +kernel) ?_
                              refine W.eq (g2 := F0 m 220 ls [.int 5, .int 80, .ref b_ro]) rfl ?_
                              refine lv_iload hx hb dX12_sooner_220 (lv_at hl 4 rfl) ?_
                              refine lv_imul hx hb dX12_sooner_222 ?_
                              have t_81 : (5 * k91_8).toInt = 5 * k91_8.toInt := g5_imul (a := 5) (b := k91_8.toInt) (by decide +kernel) (by rfl) (by omega) (by omega)
                              refine lv_iadd hx hb dX12_sooner_223 ?_
                              have t_82 : (80 + (5 * k91_8)).toInt = 80 + (5 * k91_8).toInt := g5_iadd (a := 80) (b := (5 * k91_8).toInt) (by decide +kernel) (by rfl) (by omega) (by omega)
                              refine lv_iconst (v := 1) hx hb dX12_sooner_224 (by decide +kernel) ?_
                              refine lv_iadd hx hb dX12_sooner_225 ?_
                              have t_83 : ((80 + (5 * k91_8)) + 1).toInt = (80 + (5 * k91_8)).toInt + 1 := g5_iadd (a := (80 + (5 * k91_8)).toInt) (b := 1) (by rfl) (by decide +kernel) (by omega) (by omega)
                              refine W.eq (g2 := F0 m 226 ls [.int ((80 + (5 * k91_8)) + 1), .ref b_ro]) rfl ?_
                              refine lv_iload hx hb dX12_sooner_226 (lv_at hl 3 rfl) ?_
                              refine va_iast hx hb hK hP hD hS 6 0 rfl rfl (i := ((80 + (5 * k91_8)) + 1)) (x := z65) (vp_in_iff.mpr ⟨by omega, by omega⟩) dX12_sooner_228 ?_
                              clear hP hD hS
                              intro H locs hP hD hS
                              refine g5_rs [(b_se, (arJ G 13 k114_se)), (b_re, (arJ G 400 k114_re)), (b_pt, (arI G 200 k114_pt)), (b_tr, (arZ G 1536 k114_tr)), (b_ld, (arZ G 1536 k114_ld)), (b_o, (oc12 0 u_sa b_rf b_ro b_im b_ke u_fd b_tp u_td u_fr u_to u_so u_wo u_fa u_bd u_nc b_nl u_co b_op b_ar u_le b_pi b_pa u_pd u_od b_ws b_hw k114_la b_se b_re k114_bk k114_va k114_su k114_ce k114_ho k114_wy k114_bt k114_ps b_pt k114_tg k114_sn b_ip u_ic b_ah b_be b_me u_wd b_tr b_ld u_st b_wn u_id)), (b_ro, (arI G 5740 (upd k114_ro ((80 + (5 * k91_8)) + 1).toNatClampNeg z65)))] hP hD ?_
                              clear hP hD
                              intro hP hD
                              refine lv_iinc (v := (k91_8 + 1)) (lv' := [(8, .int (k91_8 + 1)), (6, .int k114_6), (7, .int k114_7), (10, .int k114_10), (9, .int z65), (5, .int z26), (0, .ref b_o), (1, .int p_1), (2, .int p_2), (3, .int p_3), (4, .int p_4)]) hx hb dX12_sooner_229 hl (k := 4) rfl rfl (by decide +kernel) rfl ?_
                              clear hl
                              intro ls hl
                              have t_84 : (k91_8 + 1).toInt = k91_8.toInt + 1 := g5_iadd (a := k91_8.toInt) (b := 1) rfl (by decide +kernel) (by omega) (by omega)
                              refine lv_goto (tgt := 91) hx hb dX12_sooner_232 (by decide +kernel) ?_
                              exact ih_91_57 ((k91_8 + 1), k114_7, k114_6, k114_la, k114_bk, k114_va, k114_su, k114_ce, k114_ho, k114_wy, k114_bt, k114_ps, k114_tg, k114_sn, (upd k114_ro ((80 + (5 * k91_8)) + 1).toNatClampNeg z65), k114_se, k114_re, k114_pt, k114_tr, k114_ld) ls H locs (show Int.toNat (6 - (k91_8 + 1).toInt) < Int.toNat (6 - k91_8.toInt) from g_up (show k91_8.toInt < (k91_8 + 1).toInt by omega) (show k91_8.toInt < 6 by omega)) ⟨lv_sub hl [1, 2, 0, 5, 6, 7, 8, 9, 10] rfl, hP.sub [5, 6, 0, 1, 2, 3, 4] rfl, hD.sub [5, 6, 0, 1, 2, 3, 4] (by decide +kernel) rfl, hS, ⟨by omega, by omega⟩, i_68, i_69, i_70, i_71, i_72, i_73, i_74, i_75, mi_upd i_76 (by have zz := g5_clamp ((80 + (5 * k91_8)) + 1); unfold rOK; refine ⟨?_, ?_, ?_, ?_, ?_, ?_, ?_, ?_, ?_, ?_, ?_, ?_, ?_, ?_, ?_, ?_, ?_, ?_, ?_, ?_, ?_, ?_, ?_⟩ <;> (intros; omega)) (by have zz := g5_clamp ((80 + (5 * k91_8)) + 1); omega) (by have zz := g5_clamp ((80 + (5 * k91_8)) + 1); omega) (by have zz := g5_clamp ((80 + (5 * k91_8)) + 1); omega) (by have zz := g5_clamp ((80 + (5 * k91_8)) + 1); omega) (by have zz := g5_clamp ((80 + (5 * k91_8)) + 1); omega), i_77, by rw [show ((80 + (5 * k91_8)) + 1).toNatClampNeg = (81 + 5 * k91_8.toInt.toNat) by have zz := g5_clamp ((80 + (5 * k91_8)) + 1); omega]; exact upd_but_self i_78 (by rw [i_64, i_56]; congr 1; omega)⟩
                            ·
                              have i_80 : k114_10.toInt < 6 := g5_geN (a := k114_10.toInt) (b := 6) rfl (by decide +kernel) c_80
                              refine lv_aload_n hx hb dX12_sooner_121 rfl (lv_at hl 6 rfl) ?_
                              refine va_get (D := G.1) (ci := 12) (v := .ref b_ro) (C := RX12) (T := TX12) (N := 52) hx hb hts inG_X12 hown hK hP 5 rfl rfl 3 (by decide +kernel) (hts _ fl_X12_13) (fun _ h9 => h9) rfl dX12_sooner_122 ?_
                              refine lv_bipush (v := 80) hx hb dX12_sooner_125 (by decide +kernel) ?_
                              refine lv_iconst (v := 5) hx hb dX12_sooner_127 (by decide +kernel) ?_
                              refine W.eq (g2 := F0 m 128 ls [.int 5, .int 80, .ref b_ro]) rfl ?_
                              refine lv_iload hx hb dX12_sooner_128 (lv_at hl 4 rfl) ?_
                              refine lv_imul hx hb dX12_sooner_130 ?_
                              have t_85 : (5 * k91_8).toInt = 5 * k91_8.toInt := g5_imul (a := 5) (b := k91_8.toInt) (by decide +kernel) (by rfl) (by omega) (by omega)
                              refine lv_iadd hx hb dX12_sooner_131 ?_
                              have t_86 : (80 + (5 * k91_8)).toInt = 80 + (5 * k91_8).toInt := g5_iadd (a := 80) (b := (5 * k91_8).toInt) (by decide +kernel) (by rfl) (by omega) (by omega)
                              refine lv_iconst (v := 1) hx hb dX12_sooner_132 (by decide +kernel) ?_
                              refine lv_iadd hx hb dX12_sooner_133 ?_
                              have t_87 : ((80 + (5 * k91_8)) + 1).toInt = (80 + (5 * k91_8)).toInt + 1 := g5_iadd (a := (80 + (5 * k91_8)).toInt) (b := 1) (by rfl) (by decide +kernel) (by omega) (by omega)
                              refine W.eq (g2 := F0 m 134 ls [.int ((80 + (5 * k91_8)) + 1), .ref b_ro]) rfl ?_
                              refine lv_iload hx hb dX12_sooner_134 (lv_at hl 2 rfl) ?_
                              refine va_iast hx hb hK hP hD hS 6 0 rfl rfl (i := ((80 + (5 * k91_8)) + 1)) (x := k114_10) (vp_in_iff.mpr ⟨by omega, by omega⟩) dX12_sooner_136 ?_
                              clear hP hD hS
                              intro H locs hP hD hS
                              refine g5_rs [(b_se, (arJ G 13 k114_se)), (b_re, (arJ G 400 k114_re)), (b_pt, (arI G 200 k114_pt)), (b_tr, (arZ G 1536 k114_tr)), (b_ld, (arZ G 1536 k114_ld)), (b_o, (oc12 0 u_sa b_rf b_ro b_im b_ke u_fd b_tp u_td u_fr u_to u_so u_wo u_fa u_bd u_nc b_nl u_co b_op b_ar u_le b_pi b_pa u_pd u_od b_ws b_hw k114_la b_se b_re k114_bk k114_va k114_su k114_ce k114_ho k114_wy k114_bt k114_ps b_pt k114_tg k114_sn b_ip u_ic b_ah b_be b_me u_wd b_tr b_ld u_st b_wn u_id)), (b_ro, (arI G 5740 (upd k114_ro ((80 + (5 * k91_8)) + 1).toNatClampNeg k114_10)))] hP hD ?_
                              clear hP hD
                              intro hP hD
                              have hmi_88 : MI (upd k114_ro ((80 + (5 * k91_8)) + 1).toNatClampNeg k114_10) := mi_upd i_76 (by have zz := g5_clamp ((80 + (5 * k91_8)) + 1); unfold rOK; refine ⟨?_, ?_, ?_, ?_, ?_, ?_, ?_, ?_, ?_, ?_, ?_, ?_, ?_, ?_, ?_, ?_, ?_, ?_, ?_, ?_, ?_, ?_, ?_⟩ <;> (intros; omega)) (by have zz := g5_clamp ((80 + (5 * k91_8)) + 1); omega) (by have zz := g5_clamp ((80 + (5 * k91_8)) + 1); omega) (by have zz := g5_clamp ((80 + (5 * k91_8)) + 1); omega) (by have zz := g5_clamp ((80 + (5 * k91_8)) + 1); omega) (by have zz := g5_clamp ((80 + (5 * k91_8)) + 1); omega)
                              refine lv_iload hx hb dX12_sooner_137 (lv_at hl 2 rfl) ?_
                              refine lv_iload hx hb dX12_sooner_139 (lv_at hl 3 rfl) ?_
                              refine lv_icmp_ne (tgt := 148) hx hb dX12_sooner_141 (by decide +kernel) (fun c_89 => ?_) (fun c_89 => ?_)
                              ·
                                have n_89 : gNe (k114_10.toInt) (z65.toInt) := g5_ne (a := k114_10.toInt) (b := z65.toInt) rfl rfl c_89
                                refine lv_aload_n hx hb dX12_sooner_148 rfl (lv_at hl 6 rfl) ?_
                                refine lv_iload_n hx hb dX12_sooner_149 rfl (lv_at hl 7 rfl) ?_
                                refine lv_iload_n hx hb dX12_sooner_150 rfl (lv_at hl 8 rfl) ?_
                                refine lv_iload_n hx hb dX12_sooner_151 rfl (lv_at hl 9 rfl) ?_
                                refine W.eq (g2 := F0 m 152 ls [.int p_3, .int p_2, .int p_1, .ref b_o]) rfl ?_
                                obtain ⟨hPc, hDc, hFc⟩ := g5_sub3 (wc := [(b_o, (oc12 0 u_sa b_rf b_ro b_im b_ke u_fd b_tp u_td u_fr u_to u_so u_wo u_fa u_bd u_nc b_nl u_co b_op b_ar u_le b_pi b_pa u_pd u_od b_ws b_hw k114_la b_se b_re k114_bk k114_va k114_su k114_ce k114_ho k114_wy k114_bt k114_ps b_pt k114_tg k114_sn b_ip u_ic b_ah b_be b_me u_wd b_tr b_ld u_st b_wn u_id)), (b_ro, (arI G 5740 (upd k114_ro ((80 + (5 * k91_8)) + 1).toNatClampNeg k114_10))), (b_se, (arJ G 13 k114_se)), (b_re, (arJ G 400 k114_re)), (b_pt, (arI G 200 k114_pt)), (b_tr, (arZ G 1536 k114_tr)), (b_ld, (arZ G 1536 k114_ld))]) hP hD hS hA [5, 6, 0, 1, 2, 3, 4] (by decide +kernel) rfl
                                refine va_calli (va_runV (As := [.int p_1, .int p_2, .int p_3]) (rest := []) ⟨hx, hb, hml, hown, hts⟩ (n_findSoonest l G b_o b_ro b_se b_re b_pt b_tr b_ld b_rf b_im b_ke b_tp b_nl b_op b_ar b_pi b_pa b_ws b_hw b_ip b_ah b_be b_me b_wn H.size 0 u_sa u_fd u_td u_fr u_to u_so u_fa u_bd u_nc u_co u_le u_pd u_od k114_la k114_bk k114_ce k114_ho k114_wy k114_bt k114_ps k114_tg k114_sn u_ic u_wd u_id p_1 p_2 p_3 u_wo k114_va k114_su u_st (upd k114_ro ((80 + (5 * k91_8)) + 1).toNatClampNeg k114_10) k114_se k114_re k114_pt k114_tr k114_ld h_u_td h_u_fr h_u_to h_u_bd h_u_nc h_u_co h_u_pd i_69 i_70 i_71 i_72 i_73 i_74 i_75 h_u_ic h_u_id i_11 i_5 (hmi_88) (i_77)) (cwV 3 hts gV_X12_466 rfl rfl rfl hv_X12_findSoonest ⟨Nat.le_of_ble_eq_true rfl, Nat.le_of_ble_eq_true rfl⟩) (g5_preV hPc hK hDc hN hT hS hFc (ci := 12) (q0 := 0) rfl rfl) rfl rfl hl.1 rfl (lv_room (Nat.le_of_ble_eq_true rfl)) dX12_sooner_152 ⟨Nat.le_of_ble_eq_true rfl, Nat.le_of_ble_eq_true rfl⟩) hS (fun q _ h => hFc q h) hFc (fun r u t H locs ht hvm hw hB hz1 hk1 hS => ?_)
                                obtain ⟨hP1, hD1⟩ := hB
                                have hP1 := g5_ht ht hP1
                                obtain ⟨z99, z100, z101, z102, z103, z104, z105, z106, z107, z108, z109, z110, z111, z112, z113, z114, z115, (i_90 : (-1) ≤ z99.toInt ∧ z99.toInt ≤ 23), (i_91 : 0 ≤ z100.toInt ∧ z100.toInt ≤ 4840), (i_92 : 0 ≤ z101.toInt ∧ z101.toInt ≤ 1), (i_93 : 0 ≤ z104.toInt ∧ z104.toInt ≤ 63), (i_94 : 0 ≤ z105.toInt ∧ z105.toInt ≤ 23), (i_95 : 0 ≤ z106.toInt ∧ z106.toInt ≤ 3), (i_96 : 0 ≤ z107.toInt ∧ z107.toInt ≤ 1000000), (i_97 : 0 ≤ z108.toInt ∧ z108.toInt ≤ 200), (i_98 : PTI z113), y116, rfl⟩ := hw
                                have hJ9 := va_join (wr := []) hP hD [5, 6, 0, 1, 2, 3, 4] [] rfl rfl (by decide +kernel) (by decide +kernel) hk1 hFc hP1 hD1
                                clear hP hD hPc hDc hFc ht hvm hz1 hk1 hP1 hD1
                                obtain ⟨hP, hD⟩ := hJ9
                                refine g5_rs [(b_o, (oc12 0 u_sa b_rf b_ro b_im b_ke u_fd b_tp u_td u_fr u_to u_so u_wo u_fa u_bd u_nc b_nl u_co b_op b_ar u_le b_pi b_pa u_pd u_od b_ws b_hw z100 b_se b_re z101 z102 z103 z104 z105 z106 z107 z108 b_pt z109 z110 b_ip u_ic b_ah b_be b_me u_wd b_tr b_ld u_st b_wn u_id)), (b_ro, (arI G 5740 (upd k114_ro ((80 + (5 * k91_8)) + 1).toNatClampNeg k114_10))), (b_se, (arJ G 13 z111)), (b_re, (arJ G 400 z112)), (b_pt, (arI G 200 z113)), (b_tr, (arZ G 1536 z114)), (b_ld, (arZ G 1536 z115))] hP hD ?_
                                clear hP hD
                                intro hP hD
                                refine g5_ti (v := z99) y116 ?_
                                refine lv_istore (lv' := [(11, .int z99), (6, .int k114_6), (7, .int k114_7), (10, .int k114_10), (9, .int z65), (8, .int k91_8), (5, .int z26), (0, .ref b_o), (1, .int p_1), (2, .int p_2), (3, .int p_3), (4, .int p_4)]) hx hb dX12_sooner_155 hl (by decide +kernel) rfl ?_
                                clear hl
                                intro ls hl
                                refine lv_iload hx hb dX12_sooner_157 (lv_at hl 0 rfl) ?_
                                refine lv_iconst (v := (-1)) hx hb dX12_sooner_159 (by decide +kernel) ?_
                                refine lv_icmp_eq (tgt := 181) hx hb dX12_sooner_160 (by decide +kernel) (fun c_117 => ?_) (fun c_117 => ?_)
                                ·
                                  have i_117 : z99.toInt = (-1) := g5_eq (a := z99.toInt) (b := (-1)) rfl (by decide +kernel) c_117
                                  refine lv_iload hx hb dX12_sooner_181 (lv_at hl 2 rfl) ?_
                                  refine lv_istore (lv' := [(7, .int k114_7), (11, .int z99), (6, .int k114_6), (10, .int k114_10), (9, .int z65), (8, .int k91_8), (5, .int z26), (0, .ref b_o), (1, .int p_1), (2, .int p_2), (3, .int p_3), (4, .int p_4)]) hx hb dX12_sooner_183 hl (by decide +kernel) rfl ?_
                                  clear hl
                                  intro ls hl
                                  refine lv_iload hx hb dX12_sooner_185 (lv_at hl 1 rfl) ?_
                                  refine lv_iconst (v := (-1)) hx hb dX12_sooner_187 (by decide +kernel) ?_
                                  refine W.eq (g2 := F0 m 188 ls [.int (-1), .int z99]) rfl ?_
                                  refine lv_icmp_eq (tgt := 203) hx hb dX12_sooner_188 (by decide +kernel) (fun c_118 => ?_) (fun c_118 => ?_)
                                  ·
                                    have i_118 : z99.toInt = (-1) := g5_eq (a := z99.toInt) (b := (-1)) rfl (by decide +kernel) c_118
                                    refine lv_iload hx hb dX12_sooner_203 (lv_at hl 2 rfl) ?_
                                    refine lv_istore (lv' := [(6, .int k114_6), (7, .int k114_7), (11, .int z99), (10, .int k114_10), (9, .int z65), (8, .int k91_8), (5, .int z26), (0, .ref b_o), (1, .int p_1), (2, .int p_2), (3, .int p_3), (4, .int p_4)]) hx hb dX12_sooner_205 hl (by decide +kernel) rfl ?_
                                    clear hl
                                    intro ls hl
                                    refine lv_iinc (v := (k114_10 + 1)) (lv' := [(10, .int (k114_10 + 1)), (6, .int k114_6), (7, .int k114_7), (11, .int z99), (9, .int z65), (8, .int k91_8), (5, .int z26), (0, .ref b_o), (1, .int p_1), (2, .int p_2), (3, .int p_3), (4, .int p_4)]) hx hb dX12_sooner_207 hl (k := 3) rfl rfl (by decide +kernel) rfl ?_
                                    clear hl
                                    intro ls hl
                                    have t_119 : (k114_10 + 1).toInt = k114_10.toInt + 1 := g5_iadd (a := k114_10.toInt) (b := 1) rfl (by decide +kernel) (by omega) (by omega)
                                    refine lv_goto (tgt := 114) hx hb dX12_sooner_210 (by decide +kernel) ?_
                                    exact ih_114_79 ((k114_10 + 1), k114_6, k114_7, z100, z101, z102, z103, z104, z105, z106, z107, z108, z109, z110, (upd k114_ro ((80 + (5 * k91_8)) + 1).toNatClampNeg k114_10), z111, z112, z113, z114, z115) ls H locs (show Int.toNat (6 - (k114_10 + 1).toInt) < Int.toNat (6 - k114_10.toInt) from g_up (show k114_10.toInt < (k114_10 + 1).toInt by omega) (show k114_10.toInt < 6 by omega)) ⟨lv_sub hl [1, 2, 0, 4, 5, 6, 7, 8, 9, 10, 11] rfl, hP.sub [2, 3, 4, 5, 6, 0, 1] rfl, hD.sub [2, 3, 4, 5, 6, 0, 1] (by decide +kernel) rfl, hS, ⟨by omega, by omega⟩, i_68, i_91, i_92, i_93, i_94, i_95, i_96, i_97, hmi_88, i_98, fun j hj => by rw [upd_ne (by rw [show ((80 + (5 * k91_8)) + 1).toNatClampNeg = (81 + 5 * k91_8.toInt.toNat) by have zz := g5_clamp ((80 + (5 * k91_8)) + 1); omega]; exact hj)]; exact i_78 j hj⟩
                                  ·
                                    have i_118 : z99.toInt ≠ (-1) := g5_eqN (a := z99.toInt) (b := (-1)) rfl (by decide +kernel) c_118
                                    omega
                                ·
                                  have n_117 : gNe (z99.toInt) ((-1)) := g5_eqN (a := z99.toInt) (b := (-1)) rfl (by decide +kernel) c_117
                                  have i_117 : z99.toInt ≥ 0 := by have z := g5_eqN (a := z99.toInt) (b := (-1)) (by rfl) (by decide +kernel) c_117; omega
                                  refine lv_iload hx hb dX12_sooner_163 (lv_at hl 0 rfl) ?_
                                  refine lv_iload hx hb dX12_sooner_165 (lv_at hl 1 rfl) ?_
                                  refine lv_icmp_ge (tgt := 181) hx hb dX12_sooner_167 (by decide +kernel) (fun c_120 => ?_) (fun c_120 => ?_)
                                  ·
                                    have i_120 : z99.toInt ≥ k114_6.toInt := g5_ge (a := z99.toInt) (b := k114_6.toInt) rfl rfl c_120
                                    refine lv_iload hx hb dX12_sooner_181 (lv_at hl 2 rfl) ?_
                                    refine lv_istore (lv' := [(7, .int k114_7), (11, .int z99), (6, .int k114_6), (10, .int k114_10), (9, .int z65), (8, .int k91_8), (5, .int z26), (0, .ref b_o), (1, .int p_1), (2, .int p_2), (3, .int p_3), (4, .int p_4)]) hx hb dX12_sooner_183 hl (by decide +kernel) rfl ?_
                                    clear hl
                                    intro ls hl
                                    refine lv_iload hx hb dX12_sooner_185 (lv_at hl 1 rfl) ?_
                                    refine lv_iconst (v := (-1)) hx hb dX12_sooner_187 (by decide +kernel) ?_
                                    refine W.eq (g2 := F0 m 188 ls [.int (-1), .int z99]) rfl ?_
                                    refine lv_icmp_eq (tgt := 203) hx hb dX12_sooner_188 (by decide +kernel) (fun c_121 => ?_) (fun c_121 => ?_)
                                    ·
                                      have i_121 : z99.toInt = (-1) := g5_eq (a := z99.toInt) (b := (-1)) rfl (by decide +kernel) c_121
                                      omega
                                    ·
                                      have n_121 : gNe (z99.toInt) ((-1)) := g5_eqN (a := z99.toInt) (b := (-1)) rfl (by decide +kernel) c_121
                                      refine lv_iload hx hb dX12_sooner_191 (lv_at hl 1 rfl) ?_
                                      refine lv_iload hx hb dX12_sooner_193 (lv_at hl 2 rfl) ?_
                                      refine lv_icmp_ge (tgt := 203) hx hb dX12_sooner_195 (by decide +kernel) (fun c_122 => ?_) (fun c_122 => ?_)
                                      ·
                                        have i_122 : z99.toInt ≥ k114_6.toInt := g5_ge (a := z99.toInt) (b := k114_6.toInt) rfl rfl c_122
                                        refine lv_iload hx hb dX12_sooner_203 (lv_at hl 2 rfl) ?_
                                        refine lv_istore (lv' := [(6, .int k114_6), (7, .int k114_7), (11, .int z99), (10, .int k114_10), (9, .int z65), (8, .int k91_8), (5, .int z26), (0, .ref b_o), (1, .int p_1), (2, .int p_2), (3, .int p_3), (4, .int p_4)]) hx hb dX12_sooner_205 hl (by decide +kernel) rfl ?_
                                        clear hl
                                        intro ls hl
                                        refine lv_iinc (v := (k114_10 + 1)) (lv' := [(10, .int (k114_10 + 1)), (6, .int k114_6), (7, .int k114_7), (11, .int z99), (9, .int z65), (8, .int k91_8), (5, .int z26), (0, .ref b_o), (1, .int p_1), (2, .int p_2), (3, .int p_3), (4, .int p_4)]) hx hb dX12_sooner_207 hl (k := 3) rfl rfl (by decide +kernel) rfl ?_
                                        clear hl
                                        intro ls hl
                                        have t_123 : (k114_10 + 1).toInt = k114_10.toInt + 1 := g5_iadd (a := k114_10.toInt) (b := 1) rfl (by decide +kernel) (by omega) (by omega)
                                        refine lv_goto (tgt := 114) hx hb dX12_sooner_210 (by decide +kernel) ?_
                                        exact ih_114_79 ((k114_10 + 1), k114_6, k114_7, z100, z101, z102, z103, z104, z105, z106, z107, z108, z109, z110, (upd k114_ro ((80 + (5 * k91_8)) + 1).toNatClampNeg k114_10), z111, z112, z113, z114, z115) ls H locs (show Int.toNat (6 - (k114_10 + 1).toInt) < Int.toNat (6 - k114_10.toInt) from g_up (show k114_10.toInt < (k114_10 + 1).toInt by omega) (show k114_10.toInt < 6 by omega)) ⟨lv_sub hl [1, 2, 0, 4, 5, 6, 7, 8, 9, 10, 11] rfl, hP.sub [2, 3, 4, 5, 6, 0, 1] rfl, hD.sub [2, 3, 4, 5, 6, 0, 1] (by decide +kernel) rfl, hS, ⟨by omega, by omega⟩, i_68, i_91, i_92, i_93, i_94, i_95, i_96, i_97, hmi_88, i_98, fun j hj => by rw [upd_ne (by rw [show ((80 + (5 * k91_8)) + 1).toNatClampNeg = (81 + 5 * k91_8.toInt.toNat) by have zz := g5_clamp ((80 + (5 * k91_8)) + 1); omega]; exact hj)]; exact i_78 j hj⟩
                                      ·
                                        have i_122 : z99.toInt < k114_6.toInt := g5_geN (a := z99.toInt) (b := k114_6.toInt) rfl rfl c_122
                                        refine lv_iload hx hb dX12_sooner_198 (lv_at hl 1 rfl) ?_
                                        refine lv_goto (tgt := 205) hx hb dX12_sooner_200 (by decide +kernel) ?_
                                        refine lv_istore (lv' := [(6, .int z99), (7, .int k114_7), (11, .int z99), (10, .int k114_10), (9, .int z65), (8, .int k91_8), (5, .int z26), (0, .ref b_o), (1, .int p_1), (2, .int p_2), (3, .int p_3), (4, .int p_4)]) hx hb dX12_sooner_205 hl (by decide +kernel) rfl ?_
                                        clear hl
                                        intro ls hl
                                        refine lv_iinc (v := (k114_10 + 1)) (lv' := [(10, .int (k114_10 + 1)), (6, .int z99), (7, .int k114_7), (11, .int z99), (9, .int z65), (8, .int k91_8), (5, .int z26), (0, .ref b_o), (1, .int p_1), (2, .int p_2), (3, .int p_3), (4, .int p_4)]) hx hb dX12_sooner_207 hl (k := 3) rfl rfl (by decide +kernel) rfl ?_
                                        clear hl
                                        intro ls hl
                                        have t_124 : (k114_10 + 1).toInt = k114_10.toInt + 1 := g5_iadd (a := k114_10.toInt) (b := 1) rfl (by decide +kernel) (by omega) (by omega)
                                        refine W.eq (g2 := F0 m 210 ls []) rfl ?_
                                        refine lv_goto (tgt := 114) hx hb dX12_sooner_210 (by decide +kernel) ?_
                                        exact ih_114_79 ((k114_10 + 1), z99, k114_7, z100, z101, z102, z103, z104, z105, z106, z107, z108, z109, z110, (upd k114_ro ((80 + (5 * k91_8)) + 1).toNatClampNeg k114_10), z111, z112, z113, z114, z115) ls H locs (show Int.toNat (6 - (k114_10 + 1).toInt) < Int.toNat (6 - k114_10.toInt) from g_up (show k114_10.toInt < (k114_10 + 1).toInt by omega) (show k114_10.toInt < 6 by omega)) ⟨lv_sub hl [1, 2, 0, 4, 5, 6, 7, 8, 9, 10, 11] rfl, hP.sub [2, 3, 4, 5, 6, 0, 1] rfl, hD.sub [2, 3, 4, 5, 6, 0, 1] (by decide +kernel) rfl, hS, ⟨by omega, by omega⟩, ⟨by omega, by omega⟩, i_91, i_92, i_93, i_94, i_95, i_96, i_97, hmi_88, i_98, fun j hj => by rw [upd_ne (by rw [show ((80 + (5 * k91_8)) + 1).toNatClampNeg = (81 + 5 * k91_8.toInt.toNat) by have zz := g5_clamp ((80 + (5 * k91_8)) + 1); omega]; exact hj)]; exact i_78 j hj⟩
                                  ·
                                    have i_120 : z99.toInt < k114_6.toInt := g5_geN (a := z99.toInt) (b := k114_6.toInt) rfl rfl c_120
                                    refine lv_bipush (v := 6) hx hb dX12_sooner_170 (by decide +kernel) ?_
                                    refine lv_iload hx hb dX12_sooner_172 (lv_at hl 5 rfl) ?_
                                    refine lv_imul hx hb dX12_sooner_174 ?_
                                    have t_125 : (6 * k91_8).toInt = 6 * k91_8.toInt := g5_imul (a := 6) (b := k91_8.toInt) (by decide +kernel) (by rfl) (by omega) (by omega)
                                    refine lv_iload hx hb dX12_sooner_175 (lv_at hl 3 rfl) ?_
                                    refine W.eq (g2 := F0 m 177 ls [.int k114_10, .int (6 * k91_8)]) rfl ?_
                                    refine lv_iadd hx hb dX12_sooner_177 ?_
                                    have t_126 : ((6 * k91_8) + k114_10).toInt = (6 * k91_8).toInt + k114_10.toInt := g5_iadd (a := (6 * k91_8).toInt) (b := k114_10.toInt) (by rfl) (by rfl) (by omega) (by omega)
                                    refine lv_goto (tgt := 183) hx hb dX12_sooner_178 (by decide +kernel) ?_
                                    refine lv_istore (lv' := [(7, .int ((6 * k91_8) + k114_10)), (11, .int z99), (6, .int k114_6), (10, .int k114_10), (9, .int z65), (8, .int k91_8), (5, .int z26), (0, .ref b_o), (1, .int p_1), (2, .int p_2), (3, .int p_3), (4, .int p_4)]) hx hb dX12_sooner_183 hl (by decide +kernel) rfl ?_
                                    clear hl
                                    intro ls hl
                                    refine lv_iload hx hb dX12_sooner_185 (lv_at hl 1 rfl) ?_
                                    refine lv_iconst (v := (-1)) hx hb dX12_sooner_187 (by decide +kernel) ?_
                                    refine W.eq (g2 := F0 m 188 ls [.int (-1), .int z99]) rfl ?_
                                    refine lv_icmp_eq (tgt := 203) hx hb dX12_sooner_188 (by decide +kernel) (fun c_127 => ?_) (fun c_127 => ?_)
                                    ·
                                      have i_127 : z99.toInt = (-1) := g5_eq (a := z99.toInt) (b := (-1)) rfl (by decide +kernel) c_127
                                      omega
                                    ·
                                      have n_127 : gNe (z99.toInt) ((-1)) := g5_eqN (a := z99.toInt) (b := (-1)) rfl (by decide +kernel) c_127
                                      refine lv_iload hx hb dX12_sooner_191 (lv_at hl 1 rfl) ?_
                                      refine lv_iload hx hb dX12_sooner_193 (lv_at hl 2 rfl) ?_
                                      refine lv_icmp_ge (tgt := 203) hx hb dX12_sooner_195 (by decide +kernel) (fun c_128 => ?_) (fun c_128 => ?_)
                                      ·
                                        have i_128 : z99.toInt ≥ k114_6.toInt := g5_ge (a := z99.toInt) (b := k114_6.toInt) rfl rfl c_128
                                        refine lv_iload hx hb dX12_sooner_203 (lv_at hl 2 rfl) ?_
                                        refine lv_istore (lv' := [(6, .int k114_6), (7, .int ((6 * k91_8) + k114_10)), (11, .int z99), (10, .int k114_10), (9, .int z65), (8, .int k91_8), (5, .int z26), (0, .ref b_o), (1, .int p_1), (2, .int p_2), (3, .int p_3), (4, .int p_4)]) hx hb dX12_sooner_205 hl (by decide +kernel) rfl ?_
                                        clear hl
                                        intro ls hl
                                        refine lv_iinc (v := (k114_10 + 1)) (lv' := [(10, .int (k114_10 + 1)), (6, .int k114_6), (7, .int ((6 * k91_8) + k114_10)), (11, .int z99), (9, .int z65), (8, .int k91_8), (5, .int z26), (0, .ref b_o), (1, .int p_1), (2, .int p_2), (3, .int p_3), (4, .int p_4)]) hx hb dX12_sooner_207 hl (k := 3) rfl rfl (by decide +kernel) rfl ?_
                                        clear hl
                                        intro ls hl
                                        have t_129 : (k114_10 + 1).toInt = k114_10.toInt + 1 := g5_iadd (a := k114_10.toInt) (b := 1) rfl (by decide +kernel) (by omega) (by omega)
                                        refine lv_goto (tgt := 114) hx hb dX12_sooner_210 (by decide +kernel) ?_
                                        exact ih_114_79 ((k114_10 + 1), k114_6, ((6 * k91_8) + k114_10), z100, z101, z102, z103, z104, z105, z106, z107, z108, z109, z110, (upd k114_ro ((80 + (5 * k91_8)) + 1).toNatClampNeg k114_10), z111, z112, z113, z114, z115) ls H locs (show Int.toNat (6 - (k114_10 + 1).toInt) < Int.toNat (6 - k114_10.toInt) from g_up (show k114_10.toInt < (k114_10 + 1).toInt by omega) (show k114_10.toInt < 6 by omega)) ⟨lv_sub hl [1, 2, 0, 4, 5, 6, 7, 8, 9, 10, 11] rfl, hP.sub [2, 3, 4, 5, 6, 0, 1] rfl, hD.sub [2, 3, 4, 5, 6, 0, 1] (by decide +kernel) rfl, hS, ⟨by omega, by omega⟩, i_68, i_91, i_92, i_93, i_94, i_95, i_96, i_97, hmi_88, i_98, fun j hj => by rw [upd_ne (by rw [show ((80 + (5 * k91_8)) + 1).toNatClampNeg = (81 + 5 * k91_8.toInt.toNat) by have zz := g5_clamp ((80 + (5 * k91_8)) + 1); omega]; exact hj)]; exact i_78 j hj⟩
                                      ·
                                        have i_128 : z99.toInt < k114_6.toInt := g5_geN (a := z99.toInt) (b := k114_6.toInt) rfl rfl c_128
                                        refine lv_iload hx hb dX12_sooner_198 (lv_at hl 1 rfl) ?_
                                        refine lv_goto (tgt := 205) hx hb dX12_sooner_200 (by decide +kernel) ?_
                                        refine lv_istore (lv' := [(6, .int z99), (7, .int ((6 * k91_8) + k114_10)), (11, .int z99), (10, .int k114_10), (9, .int z65), (8, .int k91_8), (5, .int z26), (0, .ref b_o), (1, .int p_1), (2, .int p_2), (3, .int p_3), (4, .int p_4)]) hx hb dX12_sooner_205 hl (by decide +kernel) rfl ?_
                                        clear hl
                                        intro ls hl
                                        refine lv_iinc (v := (k114_10 + 1)) (lv' := [(10, .int (k114_10 + 1)), (6, .int z99), (7, .int ((6 * k91_8) + k114_10)), (11, .int z99), (9, .int z65), (8, .int k91_8), (5, .int z26), (0, .ref b_o), (1, .int p_1), (2, .int p_2), (3, .int p_3), (4, .int p_4)]) hx hb dX12_sooner_207 hl (k := 3) rfl rfl (by decide +kernel) rfl ?_
                                        clear hl
                                        intro ls hl
                                        have t_130 : (k114_10 + 1).toInt = k114_10.toInt + 1 := g5_iadd (a := k114_10.toInt) (b := 1) rfl (by decide +kernel) (by omega) (by omega)
                                        refine W.eq (g2 := F0 m 210 ls []) rfl ?_
                                        refine lv_goto (tgt := 114) hx hb dX12_sooner_210 (by decide +kernel) ?_
                                        exact ih_114_79 ((k114_10 + 1), z99, ((6 * k91_8) + k114_10), z100, z101, z102, z103, z104, z105, z106, z107, z108, z109, z110, (upd k114_ro ((80 + (5 * k91_8)) + 1).toNatClampNeg k114_10), z111, z112, z113, z114, z115) ls H locs (show Int.toNat (6 - (k114_10 + 1).toInt) < Int.toNat (6 - k114_10.toInt) from g_up (show k114_10.toInt < (k114_10 + 1).toInt by omega) (show k114_10.toInt < 6 by omega)) ⟨lv_sub hl [1, 2, 0, 4, 5, 6, 7, 8, 9, 10, 11] rfl, hP.sub [2, 3, 4, 5, 6, 0, 1] rfl, hD.sub [2, 3, 4, 5, 6, 0, 1] (by decide +kernel) rfl, hS, ⟨by omega, by omega⟩, ⟨by omega, by omega⟩, i_91, i_92, i_93, i_94, i_95, i_96, i_97, hmi_88, i_98, fun j hj => by rw [upd_ne (by rw [show ((80 + (5 * k91_8)) + 1).toNatClampNeg = (81 + 5 * k91_8.toInt.toNat) by have zz := g5_clamp ((80 + (5 * k91_8)) + 1); omega]; exact hj)]; exact i_78 j hj⟩
                              ·
                                have i_89 : k114_10.toInt = z65.toInt := g5_neN (a := k114_10.toInt) (b := z65.toInt) rfl rfl c_89
                                refine lv_iconst (v := (-1)) hx hb dX12_sooner_144 (by decide +kernel) ?_
                                refine lv_goto (tgt := 155) hx hb dX12_sooner_145 (by decide +kernel) ?_
                                refine lv_istore (lv' := [(11, .int (-1)), (6, .int k114_6), (7, .int k114_7), (10, .int k114_10), (9, .int z65), (8, .int k91_8), (5, .int z26), (0, .ref b_o), (1, .int p_1), (2, .int p_2), (3, .int p_3), (4, .int p_4)]) hx hb dX12_sooner_155 hl (by decide +kernel) rfl ?_
                                clear hl
                                intro ls hl
                                refine lv_iload hx hb dX12_sooner_157 (lv_at hl 0 rfl) ?_
                                refine W.eq (g2 := F0 m 159 ls [.int (-1)]) rfl ?_
                                refine lv_iconst (v := (-1)) hx hb dX12_sooner_159 (by decide +kernel) ?_
                                refine lv_icmp_eq (tgt := 181) hx hb dX12_sooner_160 (by decide +kernel) (fun c_131 => ?_) (fun c_131 => ?_)
                                ·
                                  refine lv_iload hx hb dX12_sooner_181 (lv_at hl 2 rfl) ?_
                                  refine lv_istore (lv' := [(7, .int k114_7), (11, .int (-1)), (6, .int k114_6), (10, .int k114_10), (9, .int z65), (8, .int k91_8), (5, .int z26), (0, .ref b_o), (1, .int p_1), (2, .int p_2), (3, .int p_3), (4, .int p_4)]) hx hb dX12_sooner_183 hl (by decide +kernel) rfl ?_
                                  clear hl
                                  intro ls hl
                                  refine lv_iload hx hb dX12_sooner_185 (lv_at hl 1 rfl) ?_
                                  refine lv_iconst (v := (-1)) hx hb dX12_sooner_187 (by decide +kernel) ?_
                                  refine W.eq (g2 := F0 m 188 ls [.int (-1), .int (-1)]) rfl ?_
                                  refine lv_icmp_eq (tgt := 203) hx hb dX12_sooner_188 (by decide +kernel) (fun c_132 => ?_) (fun c_132 => ?_)
                                  ·
                                    refine lv_iload hx hb dX12_sooner_203 (lv_at hl 2 rfl) ?_
                                    refine lv_istore (lv' := [(6, .int k114_6), (7, .int k114_7), (11, .int (-1)), (10, .int k114_10), (9, .int z65), (8, .int k91_8), (5, .int z26), (0, .ref b_o), (1, .int p_1), (2, .int p_2), (3, .int p_3), (4, .int p_4)]) hx hb dX12_sooner_205 hl (by decide +kernel) rfl ?_
                                    clear hl
                                    intro ls hl
                                    refine lv_iinc (v := (k114_10 + 1)) (lv' := [(10, .int (k114_10 + 1)), (6, .int k114_6), (7, .int k114_7), (11, .int (-1)), (9, .int z65), (8, .int k91_8), (5, .int z26), (0, .ref b_o), (1, .int p_1), (2, .int p_2), (3, .int p_3), (4, .int p_4)]) hx hb dX12_sooner_207 hl (k := 3) rfl rfl (by decide +kernel) rfl ?_
                                    clear hl
                                    intro ls hl
                                    have t_133 : (k114_10 + 1).toInt = k114_10.toInt + 1 := g5_iadd (a := k114_10.toInt) (b := 1) rfl (by decide +kernel) (by omega) (by omega)
                                    refine lv_goto (tgt := 114) hx hb dX12_sooner_210 (by decide +kernel) ?_
                                    exact ih_114_79 ((k114_10 + 1), k114_6, k114_7, k114_la, k114_bk, k114_va, k114_su, k114_ce, k114_ho, k114_wy, k114_bt, k114_ps, k114_tg, k114_sn, (upd k114_ro ((80 + (5 * k91_8)) + 1).toNatClampNeg k114_10), k114_se, k114_re, k114_pt, k114_tr, k114_ld) ls H locs (show Int.toNat (6 - (k114_10 + 1).toInt) < Int.toNat (6 - k114_10.toInt) from g_up (show k114_10.toInt < (k114_10 + 1).toInt by omega) (show k114_10.toInt < 6 by omega)) ⟨lv_sub hl [1, 2, 0, 4, 5, 6, 7, 8, 9, 10, 11] rfl, hP, hD, hS, ⟨by omega, by omega⟩, i_68, i_69, i_70, i_71, i_72, i_73, i_74, i_75, hmi_88, i_77, fun j hj => by rw [upd_ne (by rw [show ((80 + (5 * k91_8)) + 1).toNatClampNeg = (81 + 5 * k91_8.toInt.toNat) by have zz := g5_clamp ((80 + (5 * k91_8)) + 1); omega]; exact hj)]; exact i_78 j hj⟩
                                  ·
                                    exact absurd c_132 (by decide +kernel)
                                ·
                                  exact absurd c_131 (by decide +kernel)
                        ·
                          have i_44 : z26.toInt = (-1) := g5_neN (a := z26.toInt) (b := (-1)) rfl (by decide +kernel) c_44
                          refine lv_bipush (v := 24) hx hb dX12_sooner_76 (by decide +kernel) ?_
                          refine lv_goto (tgt := 83) hx hb dX12_sooner_78 (by decide +kernel) ?_
                          refine lv_istore (lv' := [(6, .int 24), (5, .int z26), (0, .ref b_o), (1, .int p_1), (2, .int p_2), (3, .int p_3), (4, .int p_4)]) hx hb dX12_sooner_83 hl (by decide +kernel) rfl ?_
                          clear hl
                          intro ls hl
                          refine lv_iconst (v := (-1)) hx hb dX12_sooner_85 (by decide +kernel) ?_
                          refine W.eq (g2 := F0 m 86 ls [.int (-1)]) rfl ?_
                          refine lv_istore (lv' := [(7, .int (-1)), (6, .int 24), (5, .int z26), (0, .ref b_o), (1, .int p_1), (2, .int p_2), (3, .int p_3), (4, .int p_4)]) hx hb dX12_sooner_86 hl (by decide +kernel) rfl ?_
                          clear hl
                          intro ls hl
                          refine lv_iconst (v := 0) hx hb dX12_sooner_88 (by decide +kernel) ?_
                          refine lv_istore (lv' := [(8, .int 0), (7, .int (-1)), (6, .int 24), (5, .int z26), (0, .ref b_o), (1, .int p_1), (2, .int p_2), (3, .int p_3), (4, .int p_4)]) hx hb dX12_sooner_89 hl (by decide +kernel) rfl ?_
                          clear hl
                          intro ls hl
                          refine g5_loop (α := (Int32) × (Int32) × (Int32) × (Int32) × (Int32) × (Int64) × (Int64) × (Int32) × (Int32) × (Int32) × (Int32) × (Int32) × (Int32) × (Int32) × (Nat → Int32) × (Nat → Int64) × (Nat → Int64) × (Nat → Int32) × (Nat → Int32) × (Nat → Int32)) (fun (q : (Int32) × (Int32) × (Int32) × (Int32) × (Int32) × (Int64) × (Int64) × (Int32) × (Int32) × (Int32) × (Int32) × (Int32) × (Int32) × (Int32) × (Nat → Int32) × (Nat → Int64) × (Nat → Int64) × (Nat → Int32) × (Nat → Int32) × (Nat → Int32)) (ls : Array Slot) (H : Heap) (locs : List Loc) => match q with | (k91_8, k91_7, k91_6, k91_la, k91_bk, k91_va, k91_su, k91_ce, k91_ho, k91_wy, k91_bt, k91_ps, k91_tg, k91_sn, k91_ro, k91_se, k91_re, k91_pt, k91_tr, k91_ld) => lv_has ls 12 [(6, .int k91_6), (7, .int k91_7), (8, .int k91_8), (5, .int z26), (0, .ref b_o), (1, .int p_1), (2, .int p_2), (3, .int p_3), (4, .int p_4)] ∧ va_P G.1 vwCl [(b_o, (oc12 0 u_sa b_rf b_ro b_im b_ke u_fd b_tp u_td u_fr u_to u_so u_wo u_fa u_bd u_nc b_nl u_co b_op b_ar u_le b_pi b_pa u_pd u_od b_ws b_hw k91_la b_se b_re k91_bk k91_va k91_su k91_ce k91_ho k91_wy k91_bt k91_ps b_pt k91_tg k91_sn b_ip u_ic b_ah b_be b_me u_wd b_tr b_ld u_st b_wn u_id)), (b_ro, (arI G 5740 k91_ro)), (b_se, (arJ G 13 k91_se)), (b_re, (arJ G 400 k91_re)), (b_pt, (arI G 200 k91_pt)), (b_tr, (arZ G 1536 k91_tr)), (b_ld, (arZ G 1536 k91_ld))] H ∧ va_D A [(b_o, (oc12 0 u_sa b_rf b_ro b_im b_ke u_fd b_tp u_td u_fr u_to u_so u_wo u_fa u_bd u_nc b_nl u_co b_op b_ar u_le b_pi b_pa u_pd u_od b_ws b_hw k91_la b_se b_re k91_bk k91_va k91_su k91_ce k91_ho k91_wy k91_bt k91_ps b_pt k91_tg k91_sn b_ip u_ic b_ah b_be b_me u_wd b_tr b_ld u_st b_wn u_id)), (b_ro, (arI G 5740 k91_ro)), (b_se, (arJ G 13 k91_se)), (b_re, (arJ G 400 k91_re)), (b_pt, (arI G 200 k91_pt)), (b_tr, (arZ G 1536 k91_tr)), (b_ld, (arZ G 1536 k91_ld))] ∧ va_S A s.heap H locs ∧ (0 ≤ k91_8.toInt ∧ k91_8.toInt ≤ 6) ∧ (0 ≤ k91_6.toInt ∧ k91_6.toInt ≤ 24) ∧ (0 ≤ k91_la.toInt ∧ k91_la.toInt ≤ 4840) ∧ (0 ≤ k91_bk.toInt ∧ k91_bk.toInt ≤ 1) ∧ (0 ≤ k91_ce.toInt ∧ k91_ce.toInt ≤ 63) ∧ (0 ≤ k91_ho.toInt ∧ k91_ho.toInt ≤ 23) ∧ (0 ≤ k91_wy.toInt ∧ k91_wy.toInt ≤ 3) ∧ (0 ≤ k91_bt.toInt ∧ k91_bt.toInt ≤ 1000000) ∧ (0 ≤ k91_ps.toInt ∧ k91_ps.toInt ≤ 200) ∧ (MI k91_ro) ∧ (PTI k91_pt) ∧ (k91_ro = v_ro)) (fun (q : (Int32) × (Int32) × (Int32) × (Int32) × (Int32) × (Int64) × (Int64) × (Int32) × (Int32) × (Int32) × (Int32) × (Int32) × (Int32) × (Int32) × (Nat → Int32) × (Nat → Int64) × (Nat → Int64) × (Nat → Int32) × (Nat → Int32) × (Nat → Int32)) => match q with | (k91_8, k91_7, k91_6, k91_la, k91_bk, k91_va, k91_su, k91_ce, k91_ho, k91_wy, k91_bt, k91_ps, k91_tg, k91_sn, k91_ro, k91_se, k91_re, k91_pt, k91_tr, k91_ld) => Int.toNat (6 - k91_8.toInt)) (0, (-1), 24, z27, z28, z29, z30, z31, z32, z33, z34, z35, z36, z37, v_ro, z38, z39, z40, z41, z42) ⟨lv_sub hl [2, 1, 0, 3, 4, 5, 6, 7, 8] rfl, hP, hD, hS, ⟨by decide, by decide⟩, ⟨by decide, by decide⟩, i_18, i_19, i_20, i_21, i_22, i_23, i_24, r_ro, i_25, rfl⟩ ?_
                          rintro ⟨k91_8, k91_7, k91_6, k91_la, k91_bk, k91_va, k91_su, k91_ce, k91_ho, k91_wy, k91_bt, k91_ps, k91_tg, k91_sn, k91_ro, k91_se, k91_re, k91_pt, k91_tr, k91_ld⟩ ls H locs ⟨hl, hP, hD, hS, (i_134 : 0 ≤ k91_8.toInt ∧ k91_8.toInt ≤ 6), (i_135 : 0 ≤ k91_6.toInt ∧ k91_6.toInt ≤ 24), (i_136 : 0 ≤ k91_la.toInt ∧ k91_la.toInt ≤ 4840), (i_137 : 0 ≤ k91_bk.toInt ∧ k91_bk.toInt ≤ 1), (i_138 : 0 ≤ k91_ce.toInt ∧ k91_ce.toInt ≤ 63), (i_139 : 0 ≤ k91_ho.toInt ∧ k91_ho.toInt ≤ 23), (i_140 : 0 ≤ k91_wy.toInt ∧ k91_wy.toInt ≤ 3), (i_141 : 0 ≤ k91_bt.toInt ∧ k91_bt.toInt ≤ 1000000), (i_142 : 0 ≤ k91_ps.toInt ∧ k91_ps.toInt ≤ 200), (i_143 : MI k91_ro), (i_144 : PTI k91_pt), (i_145 : k91_ro = v_ro)⟩ ih_91_146
                          replace hl : lv_has ls 12 [(6, .int k91_6), (7, .int k91_7), (8, .int k91_8), (5, .int z26), (0, .ref b_o), (1, .int p_1), (2, .int p_2), (3, .int p_3), (4, .int p_4)] := hl
                          refine g5_rs [(b_o, (oc12 0 u_sa b_rf b_ro b_im b_ke u_fd b_tp u_td u_fr u_to u_so u_wo u_fa u_bd u_nc b_nl u_co b_op b_ar u_le b_pi b_pa u_pd u_od b_ws b_hw k91_la b_se b_re k91_bk k91_va k91_su k91_ce k91_ho k91_wy k91_bt k91_ps b_pt k91_tg k91_sn b_ip u_ic b_ah b_be b_me u_wd b_tr b_ld u_st b_wn u_id)), (b_ro, (arI G 5740 k91_ro)), (b_se, (arJ G 13 k91_se)), (b_re, (arJ G 400 k91_re)), (b_pt, (arI G 200 k91_pt)), (b_tr, (arZ G 1536 k91_tr)), (b_ld, (arZ G 1536 k91_ld))] hP hD ?_
                          clear hP hD
                          intro hP hD
                          refine lv_iload hx hb dX12_sooner_91 (lv_at hl 2 rfl) ?_
                          refine lv_aload_n hx hb dX12_sooner_93 rfl (lv_at hl 4 rfl) ?_
                          refine va_get (D := G.1) (ci := 12) (v := .ref b_ro) (C := RX12) (T := TX12) (N := 52) hx hb hts inG_X12 hown hK hP 0 rfl rfl 3 (by decide +kernel) (hts _ fl_X12_13) (fun _ h9 => h9) rfl dX12_sooner_94 ?_
                          refine lv_iconst (v := 0) hx hb dX12_sooner_97 (by decide +kernel) ?_
                          refine W.eq (g2 := F0 m 98 ls [.int 0, .ref b_ro, .int k91_8]) rfl ?_
                          refine va_iald hx hb hK hP 1 0 rfl rfl (i := 0) (by unfold vp_in; decide) dX12_sooner_98 ?_
                          refine g5_ti (v := (k91_ro 0)) rfl ?_
                          have hr_147 : 0 ≤ (k91_ro 0).toInt ∧ (k91_ro 0).toInt ≤ 6 := mi_0 i_143
                          refine lv_icmp_ge (tgt := 235) hx hb dX12_sooner_99 (by decide +kernel) (fun c_148 => ?_) (fun c_148 => ?_)
                          ·
                            have i_148 : k91_8.toInt ≥ (k91_ro 0).toInt := g5_ge (a := k91_8.toInt) (b := (k91_ro 0).toInt) rfl rfl c_148
                            refine lv_iload hx hb dX12_sooner_235 (lv_at hl 1 rfl) ?_
                            refine lv_iconst (v := (-1)) hx hb dX12_sooner_237 (by decide +kernel) ?_
                            refine lv_icmp_ne (tgt := 245) hx hb dX12_sooner_238 (by decide +kernel) (fun c_149 => ?_) (fun c_149 => ?_)
                            ·
                              have n_149 : gNe (k91_7.toInt) ((-1)) := g5_ne (a := k91_7.toInt) (b := (-1)) rfl (by decide +kernel) c_149
                              refine lv_iload hx hb dX12_sooner_245 (lv_at hl 8 rfl) ?_
                              refine lv_if_ne (tgt := 255) hx hb dX12_sooner_247 (by decide +kernel) (fun c_150 => ?_) (fun c_150 => ?_)
                              ·
                                have n_150 : gNe (p_4.toInt) (0) := g5_ne (a := p_4.toInt) (b := 0) rfl (by decide +kernel) c_150
                                have i_150 : p_4.toInt ≥ 1 := by have z := g5_ne (a := p_4.toInt) (b := 0) (by rfl) (by decide +kernel) c_150; omega
                                refine lv_iload hx hb dX12_sooner_255 (lv_at hl 8 rfl) ?_
                                refine lv_iconst (v := 1) hx hb dX12_sooner_257 (by decide +kernel) ?_
                                refine lv_icmp_ne (tgt := 269) hx hb dX12_sooner_258 (by decide +kernel) (fun c_151 => ?_) (fun c_151 => ?_)
                                ·
                                  have n_151 : gNe (p_4.toInt) (1) := g5_ne (a := p_4.toInt) (b := 1) rfl (by decide +kernel) c_151
                                  have i_151 : p_4.toInt ≥ 2 := by have z := g5_ne (a := p_4.toInt) (b := 1) (by rfl) (by decide +kernel) c_151; omega
                                  refine lv_iload hx hb dX12_sooner_269 (lv_at hl 1 rfl) ?_
                                  refine lv_bipush (v := 6) hx hb dX12_sooner_271 (by decide +kernel) ?_
                                  refine lv_irem hx hb dX12_sooner_273 (by decide +kernel) ?_
                                  exact W.iret (v := (k91_7 - k91_7 / 6 * 6)) hx hb hr (fun t ht hW => ⟨⟨(k91_7 - k91_7 / 6 * 6), [(b_o, (oc12 0 u_sa b_rf b_ro b_im b_ke u_fd b_tp u_td u_fr u_to u_so u_wo u_fa u_bd u_nc b_nl u_co b_op b_ar u_le b_pi b_pa u_pd u_od b_ws b_hw k91_la b_se b_re k91_bk k91_va k91_su k91_ce k91_ho k91_wy k91_bt k91_ps b_pt k91_tg k91_sn b_ip u_ic b_ah b_be b_me u_wd b_tr b_ld u_st b_wn u_id)), (b_ro, (arI G 5740 k91_ro)), (b_se, (arJ G 13 k91_se)), (b_re, (arJ G 400 k91_re)), (b_pt, (arI G 200 k91_pt)), (b_tr, (arZ G 1536 k91_tr)), (b_ld, (arZ G 1536 k91_ld))], rfl, ⟨(k91_7 - k91_7 / 6 * 6), 0, k91_la, k91_bk, k91_va, k91_su, k91_ce, k91_ho, k91_wy, k91_bt, k91_ps, k91_tg, k91_sn, k91_ro, k91_se, k91_re, k91_pt, k91_tr, k91_ld, i_143, i_136, i_137, i_138, i_139, i_140, i_141, i_142, i_144, i_145, rfl, rfl⟩, by rw [ht]; exact hP.sub [0, 1, 2, 3, 4, 5, 6] rfl, hD.sub [0, 1, 2, 3, 4, 5, 6] (by decide +kernel) rfl⟩, hS.F ht⟩) hS.2.2 dX12_sooner_274
                                ·
                                  have i_151 : p_4.toInt = 1 := g5_neN (a := p_4.toInt) (b := 1) rfl (by decide +kernel) c_151
                                  refine lv_iload hx hb dX12_sooner_261 (lv_at hl 1 rfl) ?_
                                  refine lv_bipush (v := 6) hx hb dX12_sooner_263 (by decide +kernel) ?_
                                  refine lv_idiv hx hb dX12_sooner_265 (by decide +kernel) ?_
                                  refine lv_goto (tgt := 274) hx hb dX12_sooner_266 (by decide +kernel) ?_
                                  refine W.eq (g2 := F0 m 274 ls [.int (k91_7 / 6)]) rfl ?_
                                  exact W.iret (v := (k91_7 / 6)) hx hb hr (fun t ht hW => ⟨⟨(k91_7 / 6), [(b_o, (oc12 0 u_sa b_rf b_ro b_im b_ke u_fd b_tp u_td u_fr u_to u_so u_wo u_fa u_bd u_nc b_nl u_co b_op b_ar u_le b_pi b_pa u_pd u_od b_ws b_hw k91_la b_se b_re k91_bk k91_va k91_su k91_ce k91_ho k91_wy k91_bt k91_ps b_pt k91_tg k91_sn b_ip u_ic b_ah b_be b_me u_wd b_tr b_ld u_st b_wn u_id)), (b_ro, (arI G 5740 k91_ro)), (b_se, (arJ G 13 k91_se)), (b_re, (arJ G 400 k91_re)), (b_pt, (arI G 200 k91_pt)), (b_tr, (arZ G 1536 k91_tr)), (b_ld, (arZ G 1536 k91_ld))], rfl, ⟨(k91_7 / 6), 0, k91_la, k91_bk, k91_va, k91_su, k91_ce, k91_ho, k91_wy, k91_bt, k91_ps, k91_tg, k91_sn, k91_ro, k91_se, k91_re, k91_pt, k91_tr, k91_ld, i_143, i_136, i_137, i_138, i_139, i_140, i_141, i_142, i_144, i_145, rfl, rfl⟩, by rw [ht]; exact hP.sub [0, 1, 2, 3, 4, 5, 6] rfl, hD.sub [0, 1, 2, 3, 4, 5, 6] (by decide +kernel) rfl⟩, hS.F ht⟩) hS.2.2 dX12_sooner_274
                              ·
                                have i_150 : p_4.toInt = 0 := g5_neN (a := p_4.toInt) (b := 0) rfl (by decide +kernel) c_150
                                refine lv_iload hx hb dX12_sooner_250 (lv_at hl 0 rfl) ?_
                                refine lv_goto (tgt := 274) hx hb dX12_sooner_252 (by decide +kernel) ?_
                                exact W.iret (v := k91_6) hx hb hr (fun t ht hW => ⟨⟨k91_6, [(b_o, (oc12 0 u_sa b_rf b_ro b_im b_ke u_fd b_tp u_td u_fr u_to u_so u_wo u_fa u_bd u_nc b_nl u_co b_op b_ar u_le b_pi b_pa u_pd u_od b_ws b_hw k91_la b_se b_re k91_bk k91_va k91_su k91_ce k91_ho k91_wy k91_bt k91_ps b_pt k91_tg k91_sn b_ip u_ic b_ah b_be b_me u_wd b_tr b_ld u_st b_wn u_id)), (b_ro, (arI G 5740 k91_ro)), (b_se, (arJ G 13 k91_se)), (b_re, (arJ G 400 k91_re)), (b_pt, (arI G 200 k91_pt)), (b_tr, (arZ G 1536 k91_tr)), (b_ld, (arZ G 1536 k91_ld))], rfl, ⟨k91_6, 0, k91_la, k91_bk, k91_va, k91_su, k91_ce, k91_ho, k91_wy, k91_bt, k91_ps, k91_tg, k91_sn, k91_ro, k91_se, k91_re, k91_pt, k91_tr, k91_ld, i_143, i_136, i_137, i_138, i_139, i_140, i_141, i_142, i_144, i_145, rfl, rfl⟩, by rw [ht]; exact hP.sub [0, 1, 2, 3, 4, 5, 6] rfl, hD.sub [0, 1, 2, 3, 4, 5, 6] (by decide +kernel) rfl⟩, hS.F ht⟩) hS.2.2 dX12_sooner_274
                            ·
                              have i_149 : k91_7.toInt = (-1) := g5_neN (a := k91_7.toInt) (b := (-1)) rfl (by decide +kernel) c_149
                              refine lv_iconst (v := (-1)) hx hb dX12_sooner_241 (by decide +kernel) ?_
                              refine lv_goto (tgt := 274) hx hb dX12_sooner_242 (by decide +kernel) ?_
                              exact W.iret (v := (-1)) hx hb hr (fun t ht hW => ⟨⟨(-1), [(b_o, (oc12 0 u_sa b_rf b_ro b_im b_ke u_fd b_tp u_td u_fr u_to u_so u_wo u_fa u_bd u_nc b_nl u_co b_op b_ar u_le b_pi b_pa u_pd u_od b_ws b_hw k91_la b_se b_re k91_bk k91_va k91_su k91_ce k91_ho k91_wy k91_bt k91_ps b_pt k91_tg k91_sn b_ip u_ic b_ah b_be b_me u_wd b_tr b_ld u_st b_wn u_id)), (b_ro, (arI G 5740 k91_ro)), (b_se, (arJ G 13 k91_se)), (b_re, (arJ G 400 k91_re)), (b_pt, (arI G 200 k91_pt)), (b_tr, (arZ G 1536 k91_tr)), (b_ld, (arZ G 1536 k91_ld))], rfl, ⟨(-1), 0, k91_la, k91_bk, k91_va, k91_su, k91_ce, k91_ho, k91_wy, k91_bt, k91_ps, k91_tg, k91_sn, k91_ro, k91_se, k91_re, k91_pt, k91_tr, k91_ld, i_143, i_136, i_137, i_138, i_139, i_140, i_141, i_142, i_144, i_145, rfl, rfl⟩, by rw [ht]; exact hP.sub [0, 1, 2, 3, 4, 5, 6] rfl, hD.sub [0, 1, 2, 3, 4, 5, 6] (by decide +kernel) rfl⟩, hS.F ht⟩) hS.2.2 dX12_sooner_274
                          ·
                            have i_148 : k91_8.toInt < (k91_ro 0).toInt := g5_geN (a := k91_8.toInt) (b := (k91_ro 0).toInt) rfl rfl c_148
                            refine lv_aload_n hx hb dX12_sooner_102 rfl (lv_at hl 4 rfl) ?_
                            refine lv_iload hx hb dX12_sooner_103 (lv_at hl 2 rfl) ?_
                            refine lv_iconst (v := 1) hx hb dX12_sooner_105 (by decide +kernel) ?_
                            obtain ⟨hPc, hDc, hFc⟩ := g5_sub3 (wc := [(b_o, (oc12 0 u_sa b_rf b_ro b_im b_ke u_fd b_tp u_td u_fr u_to u_so u_wo u_fa u_bd u_nc b_nl u_co b_op b_ar u_le b_pi b_pa u_pd u_od b_ws b_hw k91_la b_se b_re k91_bk k91_va k91_su k91_ce k91_ho k91_wy k91_bt k91_ps b_pt k91_tg k91_sn b_ip u_ic b_ah b_be b_me u_wd b_tr b_ld u_st b_wn u_id)), (b_ro, (arI G 5740 k91_ro))]) hP hD hS hA [0, 1] (by decide +kernel) rfl
                            refine va_calli (va_runV (As := [.int k91_8, .int 1]) (rest := []) ⟨hx, hb, hml, hown, hts⟩ (n_ofGlass1S l G b_o b_ro b_rf b_im b_ke b_tp b_nl b_op b_ar b_pi b_pa b_ws b_hw b_se b_re b_pt b_ip b_ah b_be b_me b_tr b_ld b_wn H.size 0 u_sa u_fd u_td u_fr u_to u_so u_fa u_bd u_nc u_co u_le u_pd u_od k91_la k91_bk k91_ce k91_ho k91_wy k91_bt k91_ps k91_tg k91_sn u_ic u_wd u_id k91_8 u_wo k91_va k91_su u_st k91_ro h_u_td h_u_fr h_u_to h_u_bd h_u_nc h_u_co h_u_pd i_136 i_137 i_138 i_139 i_140 i_141 i_142 h_u_ic h_u_id ⟨by omega, by omega⟩ (i_143)) (cwV 2 hts gV_X12_134 rfl rfl rfl hv_X12_ofGlass ⟨Nat.le_of_ble_eq_true rfl, Nat.le_of_ble_eq_true rfl⟩) (g5_preV hPc hK hDc hN hT hS hFc (ci := 12) (q0 := 0) rfl rfl) rfl rfl hl.1 rfl (lv_room (Nat.le_of_ble_eq_true rfl)) dX12_sooner_106 ⟨Nat.le_of_ble_eq_true rfl, Nat.le_of_ble_eq_true rfl⟩) hS (fun q _ h => hFc q h) hFc (fun r u t H locs ht hvm hw hB hz1 hk1 hS => ?_)
                            obtain ⟨hP1, hD1⟩ := hB
                            have hP1 := g5_ht ht hP1
                            obtain ⟨z154, (i_152 : 0 ≤ z154.toInt ∧ z154.toInt ≤ 5), (i_153 : z154 = k91_ro (80 + 5 * k91_8.toInt.toNat + 1)), y155, rfl⟩ := hw
                            have hJ9 := va_join (wr := [(b_se, (arJ G 13 k91_se)), (b_re, (arJ G 400 k91_re)), (b_pt, (arI G 200 k91_pt)), (b_tr, (arZ G 1536 k91_tr)), (b_ld, (arZ G 1536 k91_ld))]) hP hD [0, 1] [2, 3, 4, 5, 6] rfl rfl (by decide +kernel) (by decide +kernel) hk1 hFc hP1 hD1
                            clear hP hD hPc hDc hFc ht hvm hz1 hk1 hP1 hD1
                            obtain ⟨hP, hD⟩ := hJ9
                            refine g5_rs [(b_se, (arJ G 13 k91_se)), (b_re, (arJ G 400 k91_re)), (b_pt, (arI G 200 k91_pt)), (b_tr, (arZ G 1536 k91_tr)), (b_ld, (arZ G 1536 k91_ld)), (b_o, (oc12 0 u_sa b_rf b_ro b_im b_ke u_fd b_tp u_td u_fr u_to u_so u_wo u_fa u_bd u_nc b_nl u_co b_op b_ar u_le b_pi b_pa u_pd u_od b_ws b_hw k91_la b_se b_re k91_bk k91_va k91_su k91_ce k91_ho k91_wy k91_bt k91_ps b_pt k91_tg k91_sn b_ip u_ic b_ah b_be b_me u_wd b_tr b_ld u_st b_wn u_id)), (b_ro, (arI G 5740 k91_ro))] hP hD ?_
                            clear hP hD
                            intro hP hD
                            refine g5_ti (v := z154) y155 ?_
                            refine W.eq (g2 := F0 m 109 ls [.int z154]) rfl ?_
                            refine lv_istore (lv' := [(9, .int z154), (6, .int k91_6), (7, .int k91_7), (8, .int k91_8), (5, .int z26), (0, .ref b_o), (1, .int p_1), (2, .int p_2), (3, .int p_3), (4, .int p_4)]) hx hb dX12_sooner_109 hl (by decide +kernel) rfl ?_
                            clear hl
                            intro ls hl
                            refine lv_iconst (v := 0) hx hb dX12_sooner_111 (by decide +kernel) ?_
                            refine lv_istore (lv' := [(10, .int 0), (9, .int z154), (6, .int k91_6), (7, .int k91_7), (8, .int k91_8), (5, .int z26), (0, .ref b_o), (1, .int p_1), (2, .int p_2), (3, .int p_3), (4, .int p_4)]) hx hb dX12_sooner_112 hl (by decide +kernel) rfl ?_
                            clear hl
                            intro ls hl
                            refine g5_loop (α := (Int32) × (Int32) × (Int32) × (Int32) × (Int32) × (Int64) × (Int64) × (Int32) × (Int32) × (Int32) × (Int32) × (Int32) × (Int32) × (Int32) × (Nat → Int32) × (Nat → Int64) × (Nat → Int64) × (Nat → Int32) × (Nat → Int32) × (Nat → Int32)) (fun (q : (Int32) × (Int32) × (Int32) × (Int32) × (Int32) × (Int64) × (Int64) × (Int32) × (Int32) × (Int32) × (Int32) × (Int32) × (Int32) × (Int32) × (Nat → Int32) × (Nat → Int64) × (Nat → Int64) × (Nat → Int32) × (Nat → Int32) × (Nat → Int32)) (ls : Array Slot) (H : Heap) (locs : List Loc) => match q with | (k114_10, k114_6, k114_7, k114_la, k114_bk, k114_va, k114_su, k114_ce, k114_ho, k114_wy, k114_bt, k114_ps, k114_tg, k114_sn, k114_ro, k114_se, k114_re, k114_pt, k114_tr, k114_ld) => lv_has ls 12 [(6, .int k114_6), (7, .int k114_7), (10, .int k114_10), (9, .int z154), (8, .int k91_8), (5, .int z26), (0, .ref b_o), (1, .int p_1), (2, .int p_2), (3, .int p_3), (4, .int p_4)] ∧ va_P G.1 vwCl [(b_se, (arJ G 13 k114_se)), (b_re, (arJ G 400 k114_re)), (b_pt, (arI G 200 k114_pt)), (b_tr, (arZ G 1536 k114_tr)), (b_ld, (arZ G 1536 k114_ld)), (b_o, (oc12 0 u_sa b_rf b_ro b_im b_ke u_fd b_tp u_td u_fr u_to u_so u_wo u_fa u_bd u_nc b_nl u_co b_op b_ar u_le b_pi b_pa u_pd u_od b_ws b_hw k114_la b_se b_re k114_bk k114_va k114_su k114_ce k114_ho k114_wy k114_bt k114_ps b_pt k114_tg k114_sn b_ip u_ic b_ah b_be b_me u_wd b_tr b_ld u_st b_wn u_id)), (b_ro, (arI G 5740 k114_ro))] H ∧ va_D A [(b_se, (arJ G 13 k114_se)), (b_re, (arJ G 400 k114_re)), (b_pt, (arI G 200 k114_pt)), (b_tr, (arZ G 1536 k114_tr)), (b_ld, (arZ G 1536 k114_ld)), (b_o, (oc12 0 u_sa b_rf b_ro b_im b_ke u_fd b_tp u_td u_fr u_to u_so u_wo u_fa u_bd u_nc b_nl u_co b_op b_ar u_le b_pi b_pa u_pd u_od b_ws b_hw k114_la b_se b_re k114_bk k114_va k114_su k114_ce k114_ho k114_wy k114_bt k114_ps b_pt k114_tg k114_sn b_ip u_ic b_ah b_be b_me u_wd b_tr b_ld u_st b_wn u_id)), (b_ro, (arI G 5740 k114_ro))] ∧ va_S A s.heap H locs ∧ (0 ≤ k114_10.toInt ∧ k114_10.toInt ≤ 6) ∧ (0 ≤ k114_6.toInt ∧ k114_6.toInt ≤ 24) ∧ (0 ≤ k114_la.toInt ∧ k114_la.toInt ≤ 4840) ∧ (0 ≤ k114_bk.toInt ∧ k114_bk.toInt ≤ 1) ∧ (0 ≤ k114_ce.toInt ∧ k114_ce.toInt ≤ 63) ∧ (0 ≤ k114_ho.toInt ∧ k114_ho.toInt ≤ 23) ∧ (0 ≤ k114_wy.toInt ∧ k114_wy.toInt ≤ 3) ∧ (0 ≤ k114_bt.toInt ∧ k114_bt.toInt ≤ 1000000) ∧ (0 ≤ k114_ps.toInt ∧ k114_ps.toInt ≤ 200) ∧ (MI k114_ro) ∧ (PTI k114_pt) ∧ (∀ j : Nat, j ≠ (81 + 5 * k91_8.toInt.toNat) → k114_ro j = v_ro j)) (fun (q : (Int32) × (Int32) × (Int32) × (Int32) × (Int32) × (Int64) × (Int64) × (Int32) × (Int32) × (Int32) × (Int32) × (Int32) × (Int32) × (Int32) × (Nat → Int32) × (Nat → Int64) × (Nat → Int64) × (Nat → Int32) × (Nat → Int32) × (Nat → Int32)) => match q with | (k114_10, k114_6, k114_7, k114_la, k114_bk, k114_va, k114_su, k114_ce, k114_ho, k114_wy, k114_bt, k114_ps, k114_tg, k114_sn, k114_ro, k114_se, k114_re, k114_pt, k114_tr, k114_ld) => Int.toNat (6 - k114_10.toInt)) (0, k91_6, k91_7, k91_la, k91_bk, k91_va, k91_su, k91_ce, k91_ho, k91_wy, k91_bt, k91_ps, k91_tg, k91_sn, k91_ro, k91_se, k91_re, k91_pt, k91_tr, k91_ld) ⟨lv_sub hl [2, 3, 0, 1, 4, 5, 6, 7, 8, 9, 10] rfl, hP, hD, hS, ⟨by decide, by decide⟩, i_135, i_136, i_137, i_138, i_139, i_140, i_141, i_142, i_143, i_144, fun j _ => by rw [i_145]⟩ ?_
                            rintro ⟨k114_10, k114_6, k114_7, k114_la, k114_bk, k114_va, k114_su, k114_ce, k114_ho, k114_wy, k114_bt, k114_ps, k114_tg, k114_sn, k114_ro, k114_se, k114_re, k114_pt, k114_tr, k114_ld⟩ ls H locs ⟨hl, hP, hD, hS, (i_156 : 0 ≤ k114_10.toInt ∧ k114_10.toInt ≤ 6), (i_157 : 0 ≤ k114_6.toInt ∧ k114_6.toInt ≤ 24), (i_158 : 0 ≤ k114_la.toInt ∧ k114_la.toInt ≤ 4840), (i_159 : 0 ≤ k114_bk.toInt ∧ k114_bk.toInt ≤ 1), (i_160 : 0 ≤ k114_ce.toInt ∧ k114_ce.toInt ≤ 63), (i_161 : 0 ≤ k114_ho.toInt ∧ k114_ho.toInt ≤ 23), (i_162 : 0 ≤ k114_wy.toInt ∧ k114_wy.toInt ≤ 3), (i_163 : 0 ≤ k114_bt.toInt ∧ k114_bt.toInt ≤ 1000000), (i_164 : 0 ≤ k114_ps.toInt ∧ k114_ps.toInt ≤ 200), (i_165 : MI k114_ro), (i_166 : PTI k114_pt), (i_167 : ∀ j : Nat, j ≠ (81 + 5 * k91_8.toInt.toNat) → k114_ro j = v_ro j)⟩ ih_114_168
                            replace hl : lv_has ls 12 [(6, .int k114_6), (7, .int k114_7), (10, .int k114_10), (9, .int z154), (8, .int k91_8), (5, .int z26), (0, .ref b_o), (1, .int p_1), (2, .int p_2), (3, .int p_3), (4, .int p_4)] := hl
                            refine g5_rs [(b_se, (arJ G 13 k114_se)), (b_re, (arJ G 400 k114_re)), (b_pt, (arI G 200 k114_pt)), (b_tr, (arZ G 1536 k114_tr)), (b_ld, (arZ G 1536 k114_ld)), (b_o, (oc12 0 u_sa b_rf b_ro b_im b_ke u_fd b_tp u_td u_fr u_to u_so u_wo u_fa u_bd u_nc b_nl u_co b_op b_ar u_le b_pi b_pa u_pd u_od b_ws b_hw k114_la b_se b_re k114_bk k114_va k114_su k114_ce k114_ho k114_wy k114_bt k114_ps b_pt k114_tg k114_sn b_ip u_ic b_ah b_be b_me u_wd b_tr b_ld u_st b_wn u_id)), (b_ro, (arI G 5740 k114_ro))] hP hD ?_
                            clear hP hD
                            intro hP hD
                            refine lv_iload hx hb dX12_sooner_114 (lv_at hl 2 rfl) ?_
                            refine lv_bipush (v := 6) hx hb dX12_sooner_116 (by decide +kernel) ?_
                            refine lv_icmp_ge (tgt := 213) hx hb dX12_sooner_118 (by decide +kernel) (fun c_169 => ?_) (fun c_169 => ?_)
                            ·
                              have i_169 : k114_10.toInt ≥ 6 := g5_ge (a := k114_10.toInt) (b := 6) rfl (by decide +kernel) c_169
                              refine lv_aload_n hx hb dX12_sooner_213 rfl (lv_at hl 6 rfl) ?_
                              refine va_get (D := G.1) (ci := 12) (v := .ref b_ro) (C := RX12) (T := TX12) (N := 52) hx hb hts inG_X12 hown hK hP 5 rfl rfl 3 (by decide +kernel) (hts _ fl_X12_13) (fun _ h9 => h9) rfl dX12_sooner_214 ?_
                              refine lv_bipush (v := 80) hx hb dX12_sooner_217 (by decide +kernel) ?_
                              refine lv_iconst (v := 5) hx hb dX12_sooner_219 (by decide +kernel) ?_
                              refine W.eq (g2 := F0 m 220 ls [.int 5, .int 80, .ref b_ro]) rfl ?_
                              refine lv_iload hx hb dX12_sooner_220 (lv_at hl 4 rfl) ?_
                              refine lv_imul hx hb dX12_sooner_222 ?_
                              have t_170 : (5 * k91_8).toInt = 5 * k91_8.toInt := g5_imul (a := 5) (b := k91_8.toInt) (by decide +kernel) (by rfl) (by omega) (by omega)
                              refine lv_iadd hx hb dX12_sooner_223 ?_
                              have t_171 : (80 + (5 * k91_8)).toInt = 80 + (5 * k91_8).toInt := g5_iadd (a := 80) (b := (5 * k91_8).toInt) (by decide +kernel) (by rfl) (by omega) (by omega)
                              refine lv_iconst (v := 1) hx hb dX12_sooner_224 (by decide +kernel) ?_
                              refine lv_iadd hx hb dX12_sooner_225 ?_
                              have t_172 : ((80 + (5 * k91_8)) + 1).toInt = (80 + (5 * k91_8)).toInt + 1 := g5_iadd (a := (80 + (5 * k91_8)).toInt) (b := 1) (by rfl) (by decide +kernel) (by omega) (by omega)
                              refine W.eq (g2 := F0 m 226 ls [.int ((80 + (5 * k91_8)) + 1), .ref b_ro]) rfl ?_
                              refine lv_iload hx hb dX12_sooner_226 (lv_at hl 3 rfl) ?_
                              refine va_iast hx hb hK hP hD hS 6 0 rfl rfl (i := ((80 + (5 * k91_8)) + 1)) (x := z154) (vp_in_iff.mpr ⟨by omega, by omega⟩) dX12_sooner_228 ?_
                              clear hP hD hS
                              intro H locs hP hD hS
                              refine g5_rs [(b_se, (arJ G 13 k114_se)), (b_re, (arJ G 400 k114_re)), (b_pt, (arI G 200 k114_pt)), (b_tr, (arZ G 1536 k114_tr)), (b_ld, (arZ G 1536 k114_ld)), (b_o, (oc12 0 u_sa b_rf b_ro b_im b_ke u_fd b_tp u_td u_fr u_to u_so u_wo u_fa u_bd u_nc b_nl u_co b_op b_ar u_le b_pi b_pa u_pd u_od b_ws b_hw k114_la b_se b_re k114_bk k114_va k114_su k114_ce k114_ho k114_wy k114_bt k114_ps b_pt k114_tg k114_sn b_ip u_ic b_ah b_be b_me u_wd b_tr b_ld u_st b_wn u_id)), (b_ro, (arI G 5740 (upd k114_ro ((80 + (5 * k91_8)) + 1).toNatClampNeg z154)))] hP hD ?_
                              clear hP hD
                              intro hP hD
                              refine lv_iinc (v := (k91_8 + 1)) (lv' := [(8, .int (k91_8 + 1)), (6, .int k114_6), (7, .int k114_7), (10, .int k114_10), (9, .int z154), (5, .int z26), (0, .ref b_o), (1, .int p_1), (2, .int p_2), (3, .int p_3), (4, .int p_4)]) hx hb dX12_sooner_229 hl (k := 4) rfl rfl (by decide +kernel) rfl ?_
                              clear hl
                              intro ls hl
                              have t_173 : (k91_8 + 1).toInt = k91_8.toInt + 1 := g5_iadd (a := k91_8.toInt) (b := 1) rfl (by decide +kernel) (by omega) (by omega)
                              refine lv_goto (tgt := 91) hx hb dX12_sooner_232 (by decide +kernel) ?_
                              exact ih_91_146 ((k91_8 + 1), k114_7, k114_6, k114_la, k114_bk, k114_va, k114_su, k114_ce, k114_ho, k114_wy, k114_bt, k114_ps, k114_tg, k114_sn, (upd k114_ro ((80 + (5 * k91_8)) + 1).toNatClampNeg z154), k114_se, k114_re, k114_pt, k114_tr, k114_ld) ls H locs (show Int.toNat (6 - (k91_8 + 1).toInt) < Int.toNat (6 - k91_8.toInt) from g_up (show k91_8.toInt < (k91_8 + 1).toInt by omega) (show k91_8.toInt < 6 by omega)) ⟨lv_sub hl [1, 2, 0, 5, 6, 7, 8, 9, 10] rfl, hP.sub [5, 6, 0, 1, 2, 3, 4] rfl, hD.sub [5, 6, 0, 1, 2, 3, 4] (by decide +kernel) rfl, hS, ⟨by omega, by omega⟩, i_157, i_158, i_159, i_160, i_161, i_162, i_163, i_164, mi_upd i_165 (by have zz := g5_clamp ((80 + (5 * k91_8)) + 1); unfold rOK; refine ⟨?_, ?_, ?_, ?_, ?_, ?_, ?_, ?_, ?_, ?_, ?_, ?_, ?_, ?_, ?_, ?_, ?_, ?_, ?_, ?_, ?_, ?_, ?_⟩ <;> (intros; omega)) (by have zz := g5_clamp ((80 + (5 * k91_8)) + 1); omega) (by have zz := g5_clamp ((80 + (5 * k91_8)) + 1); omega) (by have zz := g5_clamp ((80 + (5 * k91_8)) + 1); omega) (by have zz := g5_clamp ((80 + (5 * k91_8)) + 1); omega) (by have zz := g5_clamp ((80 + (5 * k91_8)) + 1); omega), i_166, by rw [show ((80 + (5 * k91_8)) + 1).toNatClampNeg = (81 + 5 * k91_8.toInt.toNat) by have zz := g5_clamp ((80 + (5 * k91_8)) + 1); omega]; exact upd_but_self i_167 (by rw [i_153, i_145]; congr 1; omega)⟩
                            ·
                              have i_169 : k114_10.toInt < 6 := g5_geN (a := k114_10.toInt) (b := 6) rfl (by decide +kernel) c_169
                              refine lv_aload_n hx hb dX12_sooner_121 rfl (lv_at hl 6 rfl) ?_
                              refine va_get (D := G.1) (ci := 12) (v := .ref b_ro) (C := RX12) (T := TX12) (N := 52) hx hb hts inG_X12 hown hK hP 5 rfl rfl 3 (by decide +kernel) (hts _ fl_X12_13) (fun _ h9 => h9) rfl dX12_sooner_122 ?_
                              refine lv_bipush (v := 80) hx hb dX12_sooner_125 (by decide +kernel) ?_
                              refine lv_iconst (v := 5) hx hb dX12_sooner_127 (by decide +kernel) ?_
                              refine W.eq (g2 := F0 m 128 ls [.int 5, .int 80, .ref b_ro]) rfl ?_
                              refine lv_iload hx hb dX12_sooner_128 (lv_at hl 4 rfl) ?_
                              refine lv_imul hx hb dX12_sooner_130 ?_
                              have t_174 : (5 * k91_8).toInt = 5 * k91_8.toInt := g5_imul (a := 5) (b := k91_8.toInt) (by decide +kernel) (by rfl) (by omega) (by omega)
                              refine lv_iadd hx hb dX12_sooner_131 ?_
                              have t_175 : (80 + (5 * k91_8)).toInt = 80 + (5 * k91_8).toInt := g5_iadd (a := 80) (b := (5 * k91_8).toInt) (by decide +kernel) (by rfl) (by omega) (by omega)
                              refine lv_iconst (v := 1) hx hb dX12_sooner_132 (by decide +kernel) ?_
                              refine lv_iadd hx hb dX12_sooner_133 ?_
                              have t_176 : ((80 + (5 * k91_8)) + 1).toInt = (80 + (5 * k91_8)).toInt + 1 := g5_iadd (a := (80 + (5 * k91_8)).toInt) (b := 1) (by rfl) (by decide +kernel) (by omega) (by omega)
                              refine W.eq (g2 := F0 m 134 ls [.int ((80 + (5 * k91_8)) + 1), .ref b_ro]) rfl ?_
                              refine lv_iload hx hb dX12_sooner_134 (lv_at hl 2 rfl) ?_
                              refine va_iast hx hb hK hP hD hS 6 0 rfl rfl (i := ((80 + (5 * k91_8)) + 1)) (x := k114_10) (vp_in_iff.mpr ⟨by omega, by omega⟩) dX12_sooner_136 ?_
                              clear hP hD hS
                              intro H locs hP hD hS
                              refine g5_rs [(b_se, (arJ G 13 k114_se)), (b_re, (arJ G 400 k114_re)), (b_pt, (arI G 200 k114_pt)), (b_tr, (arZ G 1536 k114_tr)), (b_ld, (arZ G 1536 k114_ld)), (b_o, (oc12 0 u_sa b_rf b_ro b_im b_ke u_fd b_tp u_td u_fr u_to u_so u_wo u_fa u_bd u_nc b_nl u_co b_op b_ar u_le b_pi b_pa u_pd u_od b_ws b_hw k114_la b_se b_re k114_bk k114_va k114_su k114_ce k114_ho k114_wy k114_bt k114_ps b_pt k114_tg k114_sn b_ip u_ic b_ah b_be b_me u_wd b_tr b_ld u_st b_wn u_id)), (b_ro, (arI G 5740 (upd k114_ro ((80 + (5 * k91_8)) + 1).toNatClampNeg k114_10)))] hP hD ?_
                              clear hP hD
                              intro hP hD
                              have hmi_177 : MI (upd k114_ro ((80 + (5 * k91_8)) + 1).toNatClampNeg k114_10) := mi_upd i_165 (by have zz := g5_clamp ((80 + (5 * k91_8)) + 1); unfold rOK; refine ⟨?_, ?_, ?_, ?_, ?_, ?_, ?_, ?_, ?_, ?_, ?_, ?_, ?_, ?_, ?_, ?_, ?_, ?_, ?_, ?_, ?_, ?_, ?_⟩ <;> (intros; omega)) (by have zz := g5_clamp ((80 + (5 * k91_8)) + 1); omega) (by have zz := g5_clamp ((80 + (5 * k91_8)) + 1); omega) (by have zz := g5_clamp ((80 + (5 * k91_8)) + 1); omega) (by have zz := g5_clamp ((80 + (5 * k91_8)) + 1); omega) (by have zz := g5_clamp ((80 + (5 * k91_8)) + 1); omega)
                              refine lv_iload hx hb dX12_sooner_137 (lv_at hl 2 rfl) ?_
                              refine lv_iload hx hb dX12_sooner_139 (lv_at hl 3 rfl) ?_
                              refine lv_icmp_ne (tgt := 148) hx hb dX12_sooner_141 (by decide +kernel) (fun c_178 => ?_) (fun c_178 => ?_)
                              ·
                                have n_178 : gNe (k114_10.toInt) (z154.toInt) := g5_ne (a := k114_10.toInt) (b := z154.toInt) rfl rfl c_178
                                refine lv_aload_n hx hb dX12_sooner_148 rfl (lv_at hl 6 rfl) ?_
                                refine lv_iload_n hx hb dX12_sooner_149 rfl (lv_at hl 7 rfl) ?_
                                refine lv_iload_n hx hb dX12_sooner_150 rfl (lv_at hl 8 rfl) ?_
                                refine lv_iload_n hx hb dX12_sooner_151 rfl (lv_at hl 9 rfl) ?_
                                refine W.eq (g2 := F0 m 152 ls [.int p_3, .int p_2, .int p_1, .ref b_o]) rfl ?_
                                obtain ⟨hPc, hDc, hFc⟩ := g5_sub3 (wc := [(b_o, (oc12 0 u_sa b_rf b_ro b_im b_ke u_fd b_tp u_td u_fr u_to u_so u_wo u_fa u_bd u_nc b_nl u_co b_op b_ar u_le b_pi b_pa u_pd u_od b_ws b_hw k114_la b_se b_re k114_bk k114_va k114_su k114_ce k114_ho k114_wy k114_bt k114_ps b_pt k114_tg k114_sn b_ip u_ic b_ah b_be b_me u_wd b_tr b_ld u_st b_wn u_id)), (b_ro, (arI G 5740 (upd k114_ro ((80 + (5 * k91_8)) + 1).toNatClampNeg k114_10))), (b_se, (arJ G 13 k114_se)), (b_re, (arJ G 400 k114_re)), (b_pt, (arI G 200 k114_pt)), (b_tr, (arZ G 1536 k114_tr)), (b_ld, (arZ G 1536 k114_ld))]) hP hD hS hA [5, 6, 0, 1, 2, 3, 4] (by decide +kernel) rfl
                                refine va_calli (va_runV (As := [.int p_1, .int p_2, .int p_3]) (rest := []) ⟨hx, hb, hml, hown, hts⟩ (n_findSoonest l G b_o b_ro b_se b_re b_pt b_tr b_ld b_rf b_im b_ke b_tp b_nl b_op b_ar b_pi b_pa b_ws b_hw b_ip b_ah b_be b_me b_wn H.size 0 u_sa u_fd u_td u_fr u_to u_so u_fa u_bd u_nc u_co u_le u_pd u_od k114_la k114_bk k114_ce k114_ho k114_wy k114_bt k114_ps k114_tg k114_sn u_ic u_wd u_id p_1 p_2 p_3 u_wo k114_va k114_su u_st (upd k114_ro ((80 + (5 * k91_8)) + 1).toNatClampNeg k114_10) k114_se k114_re k114_pt k114_tr k114_ld h_u_td h_u_fr h_u_to h_u_bd h_u_nc h_u_co h_u_pd i_158 i_159 i_160 i_161 i_162 i_163 i_164 h_u_ic h_u_id i_11 i_5 (hmi_177) (i_166)) (cwV 3 hts gV_X12_466 rfl rfl rfl hv_X12_findSoonest ⟨Nat.le_of_ble_eq_true rfl, Nat.le_of_ble_eq_true rfl⟩) (g5_preV hPc hK hDc hN hT hS hFc (ci := 12) (q0 := 0) rfl rfl) rfl rfl hl.1 rfl (lv_room (Nat.le_of_ble_eq_true rfl)) dX12_sooner_152 ⟨Nat.le_of_ble_eq_true rfl, Nat.le_of_ble_eq_true rfl⟩) hS (fun q _ h => hFc q h) hFc (fun r u t H locs ht hvm hw hB hz1 hk1 hS => ?_)
                                obtain ⟨hP1, hD1⟩ := hB
                                have hP1 := g5_ht ht hP1
                                obtain ⟨z188, z189, z190, z191, z192, z193, z194, z195, z196, z197, z198, z199, z200, z201, z202, z203, z204, (i_179 : (-1) ≤ z188.toInt ∧ z188.toInt ≤ 23), (i_180 : 0 ≤ z189.toInt ∧ z189.toInt ≤ 4840), (i_181 : 0 ≤ z190.toInt ∧ z190.toInt ≤ 1), (i_182 : 0 ≤ z193.toInt ∧ z193.toInt ≤ 63), (i_183 : 0 ≤ z194.toInt ∧ z194.toInt ≤ 23), (i_184 : 0 ≤ z195.toInt ∧ z195.toInt ≤ 3), (i_185 : 0 ≤ z196.toInt ∧ z196.toInt ≤ 1000000), (i_186 : 0 ≤ z197.toInt ∧ z197.toInt ≤ 200), (i_187 : PTI z202), y205, rfl⟩ := hw
                                have hJ9 := va_join (wr := []) hP hD [5, 6, 0, 1, 2, 3, 4] [] rfl rfl (by decide +kernel) (by decide +kernel) hk1 hFc hP1 hD1
                                clear hP hD hPc hDc hFc ht hvm hz1 hk1 hP1 hD1
                                obtain ⟨hP, hD⟩ := hJ9
                                refine g5_rs [(b_o, (oc12 0 u_sa b_rf b_ro b_im b_ke u_fd b_tp u_td u_fr u_to u_so u_wo u_fa u_bd u_nc b_nl u_co b_op b_ar u_le b_pi b_pa u_pd u_od b_ws b_hw z189 b_se b_re z190 z191 z192 z193 z194 z195 z196 z197 b_pt z198 z199 b_ip u_ic b_ah b_be b_me u_wd b_tr b_ld u_st b_wn u_id)), (b_ro, (arI G 5740 (upd k114_ro ((80 + (5 * k91_8)) + 1).toNatClampNeg k114_10))), (b_se, (arJ G 13 z200)), (b_re, (arJ G 400 z201)), (b_pt, (arI G 200 z202)), (b_tr, (arZ G 1536 z203)), (b_ld, (arZ G 1536 z204))] hP hD ?_
                                clear hP hD
                                intro hP hD
                                refine g5_ti (v := z188) y205 ?_
                                refine lv_istore (lv' := [(11, .int z188), (6, .int k114_6), (7, .int k114_7), (10, .int k114_10), (9, .int z154), (8, .int k91_8), (5, .int z26), (0, .ref b_o), (1, .int p_1), (2, .int p_2), (3, .int p_3), (4, .int p_4)]) hx hb dX12_sooner_155 hl (by decide +kernel) rfl ?_
                                clear hl
                                intro ls hl
                                refine lv_iload hx hb dX12_sooner_157 (lv_at hl 0 rfl) ?_
                                refine lv_iconst (v := (-1)) hx hb dX12_sooner_159 (by decide +kernel) ?_
                                refine lv_icmp_eq (tgt := 181) hx hb dX12_sooner_160 (by decide +kernel) (fun c_206 => ?_) (fun c_206 => ?_)
                                ·
                                  have i_206 : z188.toInt = (-1) := g5_eq (a := z188.toInt) (b := (-1)) rfl (by decide +kernel) c_206
                                  refine lv_iload hx hb dX12_sooner_181 (lv_at hl 2 rfl) ?_
                                  refine lv_istore (lv' := [(7, .int k114_7), (11, .int z188), (6, .int k114_6), (10, .int k114_10), (9, .int z154), (8, .int k91_8), (5, .int z26), (0, .ref b_o), (1, .int p_1), (2, .int p_2), (3, .int p_3), (4, .int p_4)]) hx hb dX12_sooner_183 hl (by decide +kernel) rfl ?_
                                  clear hl
                                  intro ls hl
                                  refine lv_iload hx hb dX12_sooner_185 (lv_at hl 1 rfl) ?_
                                  refine lv_iconst (v := (-1)) hx hb dX12_sooner_187 (by decide +kernel) ?_
                                  refine W.eq (g2 := F0 m 188 ls [.int (-1), .int z188]) rfl ?_
                                  refine lv_icmp_eq (tgt := 203) hx hb dX12_sooner_188 (by decide +kernel) (fun c_207 => ?_) (fun c_207 => ?_)
                                  ·
                                    have i_207 : z188.toInt = (-1) := g5_eq (a := z188.toInt) (b := (-1)) rfl (by decide +kernel) c_207
                                    refine lv_iload hx hb dX12_sooner_203 (lv_at hl 2 rfl) ?_
                                    refine lv_istore (lv' := [(6, .int k114_6), (7, .int k114_7), (11, .int z188), (10, .int k114_10), (9, .int z154), (8, .int k91_8), (5, .int z26), (0, .ref b_o), (1, .int p_1), (2, .int p_2), (3, .int p_3), (4, .int p_4)]) hx hb dX12_sooner_205 hl (by decide +kernel) rfl ?_
                                    clear hl
                                    intro ls hl
                                    refine lv_iinc (v := (k114_10 + 1)) (lv' := [(10, .int (k114_10 + 1)), (6, .int k114_6), (7, .int k114_7), (11, .int z188), (9, .int z154), (8, .int k91_8), (5, .int z26), (0, .ref b_o), (1, .int p_1), (2, .int p_2), (3, .int p_3), (4, .int p_4)]) hx hb dX12_sooner_207 hl (k := 3) rfl rfl (by decide +kernel) rfl ?_
                                    clear hl
                                    intro ls hl
                                    have t_208 : (k114_10 + 1).toInt = k114_10.toInt + 1 := g5_iadd (a := k114_10.toInt) (b := 1) rfl (by decide +kernel) (by omega) (by omega)
                                    refine lv_goto (tgt := 114) hx hb dX12_sooner_210 (by decide +kernel) ?_
                                    exact ih_114_168 ((k114_10 + 1), k114_6, k114_7, z189, z190, z191, z192, z193, z194, z195, z196, z197, z198, z199, (upd k114_ro ((80 + (5 * k91_8)) + 1).toNatClampNeg k114_10), z200, z201, z202, z203, z204) ls H locs (show Int.toNat (6 - (k114_10 + 1).toInt) < Int.toNat (6 - k114_10.toInt) from g_up (show k114_10.toInt < (k114_10 + 1).toInt by omega) (show k114_10.toInt < 6 by omega)) ⟨lv_sub hl [1, 2, 0, 4, 5, 6, 7, 8, 9, 10, 11] rfl, hP.sub [2, 3, 4, 5, 6, 0, 1] rfl, hD.sub [2, 3, 4, 5, 6, 0, 1] (by decide +kernel) rfl, hS, ⟨by omega, by omega⟩, i_157, i_180, i_181, i_182, i_183, i_184, i_185, i_186, hmi_177, i_187, fun j hj => by rw [upd_ne (by rw [show ((80 + (5 * k91_8)) + 1).toNatClampNeg = (81 + 5 * k91_8.toInt.toNat) by have zz := g5_clamp ((80 + (5 * k91_8)) + 1); omega]; exact hj)]; exact i_167 j hj⟩
                                  ·
                                    have i_207 : z188.toInt ≠ (-1) := g5_eqN (a := z188.toInt) (b := (-1)) rfl (by decide +kernel) c_207
                                    omega
                                ·
                                  have n_206 : gNe (z188.toInt) ((-1)) := g5_eqN (a := z188.toInt) (b := (-1)) rfl (by decide +kernel) c_206
                                  have i_206 : z188.toInt ≥ 0 := by have z := g5_eqN (a := z188.toInt) (b := (-1)) (by rfl) (by decide +kernel) c_206; omega
                                  refine lv_iload hx hb dX12_sooner_163 (lv_at hl 0 rfl) ?_
                                  refine lv_iload hx hb dX12_sooner_165 (lv_at hl 1 rfl) ?_
                                  refine lv_icmp_ge (tgt := 181) hx hb dX12_sooner_167 (by decide +kernel) (fun c_209 => ?_) (fun c_209 => ?_)
                                  ·
                                    have i_209 : z188.toInt ≥ k114_6.toInt := g5_ge (a := z188.toInt) (b := k114_6.toInt) rfl rfl c_209
                                    refine lv_iload hx hb dX12_sooner_181 (lv_at hl 2 rfl) ?_
                                    refine lv_istore (lv' := [(7, .int k114_7), (11, .int z188), (6, .int k114_6), (10, .int k114_10), (9, .int z154), (8, .int k91_8), (5, .int z26), (0, .ref b_o), (1, .int p_1), (2, .int p_2), (3, .int p_3), (4, .int p_4)]) hx hb dX12_sooner_183 hl (by decide +kernel) rfl ?_
                                    clear hl
                                    intro ls hl
                                    refine lv_iload hx hb dX12_sooner_185 (lv_at hl 1 rfl) ?_
                                    refine lv_iconst (v := (-1)) hx hb dX12_sooner_187 (by decide +kernel) ?_
                                    refine W.eq (g2 := F0 m 188 ls [.int (-1), .int z188]) rfl ?_
                                    refine lv_icmp_eq (tgt := 203) hx hb dX12_sooner_188 (by decide +kernel) (fun c_210 => ?_) (fun c_210 => ?_)
                                    ·
                                      have i_210 : z188.toInt = (-1) := g5_eq (a := z188.toInt) (b := (-1)) rfl (by decide +kernel) c_210
                                      omega
                                    ·
                                      have n_210 : gNe (z188.toInt) ((-1)) := g5_eqN (a := z188.toInt) (b := (-1)) rfl (by decide +kernel) c_210
                                      refine lv_iload hx hb dX12_sooner_191 (lv_at hl 1 rfl) ?_
                                      refine lv_iload hx hb dX12_sooner_193 (lv_at hl 2 rfl) ?_
                                      refine lv_icmp_ge (tgt := 203) hx hb dX12_sooner_195 (by decide +kernel) (fun c_211 => ?_) (fun c_211 => ?_)
                                      ·
                                        have i_211 : z188.toInt ≥ k114_6.toInt := g5_ge (a := z188.toInt) (b := k114_6.toInt) rfl rfl c_211
                                        refine lv_iload hx hb dX12_sooner_203 (lv_at hl 2 rfl) ?_
                                        refine lv_istore (lv' := [(6, .int k114_6), (7, .int k114_7), (11, .int z188), (10, .int k114_10), (9, .int z154), (8, .int k91_8), (5, .int z26), (0, .ref b_o), (1, .int p_1), (2, .int p_2), (3, .int p_3), (4, .int p_4)]) hx hb dX12_sooner_205 hl (by decide +kernel) rfl ?_
                                        clear hl
                                        intro ls hl
                                        refine lv_iinc (v := (k114_10 + 1)) (lv' := [(10, .int (k114_10 + 1)), (6, .int k114_6), (7, .int k114_7), (11, .int z188), (9, .int z154), (8, .int k91_8), (5, .int z26), (0, .ref b_o), (1, .int p_1), (2, .int p_2), (3, .int p_3), (4, .int p_4)]) hx hb dX12_sooner_207 hl (k := 3) rfl rfl (by decide +kernel) rfl ?_
                                        clear hl
                                        intro ls hl
                                        have t_212 : (k114_10 + 1).toInt = k114_10.toInt + 1 := g5_iadd (a := k114_10.toInt) (b := 1) rfl (by decide +kernel) (by omega) (by omega)
                                        refine lv_goto (tgt := 114) hx hb dX12_sooner_210 (by decide +kernel) ?_
                                        exact ih_114_168 ((k114_10 + 1), k114_6, k114_7, z189, z190, z191, z192, z193, z194, z195, z196, z197, z198, z199, (upd k114_ro ((80 + (5 * k91_8)) + 1).toNatClampNeg k114_10), z200, z201, z202, z203, z204) ls H locs (show Int.toNat (6 - (k114_10 + 1).toInt) < Int.toNat (6 - k114_10.toInt) from g_up (show k114_10.toInt < (k114_10 + 1).toInt by omega) (show k114_10.toInt < 6 by omega)) ⟨lv_sub hl [1, 2, 0, 4, 5, 6, 7, 8, 9, 10, 11] rfl, hP.sub [2, 3, 4, 5, 6, 0, 1] rfl, hD.sub [2, 3, 4, 5, 6, 0, 1] (by decide +kernel) rfl, hS, ⟨by omega, by omega⟩, i_157, i_180, i_181, i_182, i_183, i_184, i_185, i_186, hmi_177, i_187, fun j hj => by rw [upd_ne (by rw [show ((80 + (5 * k91_8)) + 1).toNatClampNeg = (81 + 5 * k91_8.toInt.toNat) by have zz := g5_clamp ((80 + (5 * k91_8)) + 1); omega]; exact hj)]; exact i_167 j hj⟩
                                      ·
                                        have i_211 : z188.toInt < k114_6.toInt := g5_geN (a := z188.toInt) (b := k114_6.toInt) rfl rfl c_211
                                        refine lv_iload hx hb dX12_sooner_198 (lv_at hl 1 rfl) ?_
                                        refine lv_goto (tgt := 205) hx hb dX12_sooner_200 (by decide +kernel) ?_
                                        refine lv_istore (lv' := [(6, .int z188), (7, .int k114_7), (11, .int z188), (10, .int k114_10), (9, .int z154), (8, .int k91_8), (5, .int z26), (0, .ref b_o), (1, .int p_1), (2, .int p_2), (3, .int p_3), (4, .int p_4)]) hx hb dX12_sooner_205 hl (by decide +kernel) rfl ?_
                                        clear hl
                                        intro ls hl
                                        refine lv_iinc (v := (k114_10 + 1)) (lv' := [(10, .int (k114_10 + 1)), (6, .int z188), (7, .int k114_7), (11, .int z188), (9, .int z154), (8, .int k91_8), (5, .int z26), (0, .ref b_o), (1, .int p_1), (2, .int p_2), (3, .int p_3), (4, .int p_4)]) hx hb dX12_sooner_207 hl (k := 3) rfl rfl (by decide +kernel) rfl ?_
                                        clear hl
                                        intro ls hl
                                        have t_213 : (k114_10 + 1).toInt = k114_10.toInt + 1 := g5_iadd (a := k114_10.toInt) (b := 1) rfl (by decide +kernel) (by omega) (by omega)
                                        refine W.eq (g2 := F0 m 210 ls []) rfl ?_
                                        refine lv_goto (tgt := 114) hx hb dX12_sooner_210 (by decide +kernel) ?_
                                        exact ih_114_168 ((k114_10 + 1), z188, k114_7, z189, z190, z191, z192, z193, z194, z195, z196, z197, z198, z199, (upd k114_ro ((80 + (5 * k91_8)) + 1).toNatClampNeg k114_10), z200, z201, z202, z203, z204) ls H locs (show Int.toNat (6 - (k114_10 + 1).toInt) < Int.toNat (6 - k114_10.toInt) from g_up (show k114_10.toInt < (k114_10 + 1).toInt by omega) (show k114_10.toInt < 6 by omega)) ⟨lv_sub hl [1, 2, 0, 4, 5, 6, 7, 8, 9, 10, 11] rfl, hP.sub [2, 3, 4, 5, 6, 0, 1] rfl, hD.sub [2, 3, 4, 5, 6, 0, 1] (by decide +kernel) rfl, hS, ⟨by omega, by omega⟩, ⟨by omega, by omega⟩, i_180, i_181, i_182, i_183, i_184, i_185, i_186, hmi_177, i_187, fun j hj => by rw [upd_ne (by rw [show ((80 + (5 * k91_8)) + 1).toNatClampNeg = (81 + 5 * k91_8.toInt.toNat) by have zz := g5_clamp ((80 + (5 * k91_8)) + 1); omega]; exact hj)]; exact i_167 j hj⟩
                                  ·
                                    have i_209 : z188.toInt < k114_6.toInt := g5_geN (a := z188.toInt) (b := k114_6.toInt) rfl rfl c_209
                                    refine lv_bipush (v := 6) hx hb dX12_sooner_170 (by decide +kernel) ?_
                                    refine lv_iload hx hb dX12_sooner_172 (lv_at hl 5 rfl) ?_
                                    refine lv_imul hx hb dX12_sooner_174 ?_
                                    have t_214 : (6 * k91_8).toInt = 6 * k91_8.toInt := g5_imul (a := 6) (b := k91_8.toInt) (by decide +kernel) (by rfl) (by omega) (by omega)
                                    refine lv_iload hx hb dX12_sooner_175 (lv_at hl 3 rfl) ?_
                                    refine W.eq (g2 := F0 m 177 ls [.int k114_10, .int (6 * k91_8)]) rfl ?_
                                    refine lv_iadd hx hb dX12_sooner_177 ?_
                                    have t_215 : ((6 * k91_8) + k114_10).toInt = (6 * k91_8).toInt + k114_10.toInt := g5_iadd (a := (6 * k91_8).toInt) (b := k114_10.toInt) (by rfl) (by rfl) (by omega) (by omega)
                                    refine lv_goto (tgt := 183) hx hb dX12_sooner_178 (by decide +kernel) ?_
                                    refine lv_istore (lv' := [(7, .int ((6 * k91_8) + k114_10)), (11, .int z188), (6, .int k114_6), (10, .int k114_10), (9, .int z154), (8, .int k91_8), (5, .int z26), (0, .ref b_o), (1, .int p_1), (2, .int p_2), (3, .int p_3), (4, .int p_4)]) hx hb dX12_sooner_183 hl (by decide +kernel) rfl ?_
                                    clear hl
                                    intro ls hl
                                    refine lv_iload hx hb dX12_sooner_185 (lv_at hl 1 rfl) ?_
                                    refine lv_iconst (v := (-1)) hx hb dX12_sooner_187 (by decide +kernel) ?_
                                    refine W.eq (g2 := F0 m 188 ls [.int (-1), .int z188]) rfl ?_
                                    refine lv_icmp_eq (tgt := 203) hx hb dX12_sooner_188 (by decide +kernel) (fun c_216 => ?_) (fun c_216 => ?_)
                                    ·
                                      have i_216 : z188.toInt = (-1) := g5_eq (a := z188.toInt) (b := (-1)) rfl (by decide +kernel) c_216
                                      omega
                                    ·
                                      have n_216 : gNe (z188.toInt) ((-1)) := g5_eqN (a := z188.toInt) (b := (-1)) rfl (by decide +kernel) c_216
                                      refine lv_iload hx hb dX12_sooner_191 (lv_at hl 1 rfl) ?_
                                      refine lv_iload hx hb dX12_sooner_193 (lv_at hl 2 rfl) ?_
                                      refine lv_icmp_ge (tgt := 203) hx hb dX12_sooner_195 (by decide +kernel) (fun c_217 => ?_) (fun c_217 => ?_)
                                      ·
                                        have i_217 : z188.toInt ≥ k114_6.toInt := g5_ge (a := z188.toInt) (b := k114_6.toInt) rfl rfl c_217
                                        refine lv_iload hx hb dX12_sooner_203 (lv_at hl 2 rfl) ?_
                                        refine lv_istore (lv' := [(6, .int k114_6), (7, .int ((6 * k91_8) + k114_10)), (11, .int z188), (10, .int k114_10), (9, .int z154), (8, .int k91_8), (5, .int z26), (0, .ref b_o), (1, .int p_1), (2, .int p_2), (3, .int p_3), (4, .int p_4)]) hx hb dX12_sooner_205 hl (by decide +kernel) rfl ?_
                                        clear hl
                                        intro ls hl
                                        refine lv_iinc (v := (k114_10 + 1)) (lv' := [(10, .int (k114_10 + 1)), (6, .int k114_6), (7, .int ((6 * k91_8) + k114_10)), (11, .int z188), (9, .int z154), (8, .int k91_8), (5, .int z26), (0, .ref b_o), (1, .int p_1), (2, .int p_2), (3, .int p_3), (4, .int p_4)]) hx hb dX12_sooner_207 hl (k := 3) rfl rfl (by decide +kernel) rfl ?_
                                        clear hl
                                        intro ls hl
                                        have t_218 : (k114_10 + 1).toInt = k114_10.toInt + 1 := g5_iadd (a := k114_10.toInt) (b := 1) rfl (by decide +kernel) (by omega) (by omega)
                                        refine lv_goto (tgt := 114) hx hb dX12_sooner_210 (by decide +kernel) ?_
                                        exact ih_114_168 ((k114_10 + 1), k114_6, ((6 * k91_8) + k114_10), z189, z190, z191, z192, z193, z194, z195, z196, z197, z198, z199, (upd k114_ro ((80 + (5 * k91_8)) + 1).toNatClampNeg k114_10), z200, z201, z202, z203, z204) ls H locs (show Int.toNat (6 - (k114_10 + 1).toInt) < Int.toNat (6 - k114_10.toInt) from g_up (show k114_10.toInt < (k114_10 + 1).toInt by omega) (show k114_10.toInt < 6 by omega)) ⟨lv_sub hl [1, 2, 0, 4, 5, 6, 7, 8, 9, 10, 11] rfl, hP.sub [2, 3, 4, 5, 6, 0, 1] rfl, hD.sub [2, 3, 4, 5, 6, 0, 1] (by decide +kernel) rfl, hS, ⟨by omega, by omega⟩, i_157, i_180, i_181, i_182, i_183, i_184, i_185, i_186, hmi_177, i_187, fun j hj => by rw [upd_ne (by rw [show ((80 + (5 * k91_8)) + 1).toNatClampNeg = (81 + 5 * k91_8.toInt.toNat) by have zz := g5_clamp ((80 + (5 * k91_8)) + 1); omega]; exact hj)]; exact i_167 j hj⟩
                                      ·
                                        have i_217 : z188.toInt < k114_6.toInt := g5_geN (a := z188.toInt) (b := k114_6.toInt) rfl rfl c_217
                                        refine lv_iload hx hb dX12_sooner_198 (lv_at hl 1 rfl) ?_
                                        refine lv_goto (tgt := 205) hx hb dX12_sooner_200 (by decide +kernel) ?_
                                        refine lv_istore (lv' := [(6, .int z188), (7, .int ((6 * k91_8) + k114_10)), (11, .int z188), (10, .int k114_10), (9, .int z154), (8, .int k91_8), (5, .int z26), (0, .ref b_o), (1, .int p_1), (2, .int p_2), (3, .int p_3), (4, .int p_4)]) hx hb dX12_sooner_205 hl (by decide +kernel) rfl ?_
                                        clear hl
                                        intro ls hl
                                        refine lv_iinc (v := (k114_10 + 1)) (lv' := [(10, .int (k114_10 + 1)), (6, .int z188), (7, .int ((6 * k91_8) + k114_10)), (11, .int z188), (9, .int z154), (8, .int k91_8), (5, .int z26), (0, .ref b_o), (1, .int p_1), (2, .int p_2), (3, .int p_3), (4, .int p_4)]) hx hb dX12_sooner_207 hl (k := 3) rfl rfl (by decide +kernel) rfl ?_
                                        clear hl
                                        intro ls hl
                                        have t_219 : (k114_10 + 1).toInt = k114_10.toInt + 1 := g5_iadd (a := k114_10.toInt) (b := 1) rfl (by decide +kernel) (by omega) (by omega)
                                        refine W.eq (g2 := F0 m 210 ls []) rfl ?_
                                        refine lv_goto (tgt := 114) hx hb dX12_sooner_210 (by decide +kernel) ?_
                                        exact ih_114_168 ((k114_10 + 1), z188, ((6 * k91_8) + k114_10), z189, z190, z191, z192, z193, z194, z195, z196, z197, z198, z199, (upd k114_ro ((80 + (5 * k91_8)) + 1).toNatClampNeg k114_10), z200, z201, z202, z203, z204) ls H locs (show Int.toNat (6 - (k114_10 + 1).toInt) < Int.toNat (6 - k114_10.toInt) from g_up (show k114_10.toInt < (k114_10 + 1).toInt by omega) (show k114_10.toInt < 6 by omega)) ⟨lv_sub hl [1, 2, 0, 4, 5, 6, 7, 8, 9, 10, 11] rfl, hP.sub [2, 3, 4, 5, 6, 0, 1] rfl, hD.sub [2, 3, 4, 5, 6, 0, 1] (by decide +kernel) rfl, hS, ⟨by omega, by omega⟩, ⟨by omega, by omega⟩, i_180, i_181, i_182, i_183, i_184, i_185, i_186, hmi_177, i_187, fun j hj => by rw [upd_ne (by rw [show ((80 + (5 * k91_8)) + 1).toNatClampNeg = (81 + 5 * k91_8.toInt.toNat) by have zz := g5_clamp ((80 + (5 * k91_8)) + 1); omega]; exact hj)]; exact i_167 j hj⟩
                              ·
                                have i_178 : k114_10.toInt = z154.toInt := g5_neN (a := k114_10.toInt) (b := z154.toInt) rfl rfl c_178
                                refine lv_iconst (v := (-1)) hx hb dX12_sooner_144 (by decide +kernel) ?_
                                refine lv_goto (tgt := 155) hx hb dX12_sooner_145 (by decide +kernel) ?_
                                refine lv_istore (lv' := [(11, .int (-1)), (6, .int k114_6), (7, .int k114_7), (10, .int k114_10), (9, .int z154), (8, .int k91_8), (5, .int z26), (0, .ref b_o), (1, .int p_1), (2, .int p_2), (3, .int p_3), (4, .int p_4)]) hx hb dX12_sooner_155 hl (by decide +kernel) rfl ?_
                                clear hl
                                intro ls hl
                                refine lv_iload hx hb dX12_sooner_157 (lv_at hl 0 rfl) ?_
                                refine W.eq (g2 := F0 m 159 ls [.int (-1)]) rfl ?_
                                refine lv_iconst (v := (-1)) hx hb dX12_sooner_159 (by decide +kernel) ?_
                                refine lv_icmp_eq (tgt := 181) hx hb dX12_sooner_160 (by decide +kernel) (fun c_220 => ?_) (fun c_220 => ?_)
                                ·
                                  refine lv_iload hx hb dX12_sooner_181 (lv_at hl 2 rfl) ?_
                                  refine lv_istore (lv' := [(7, .int k114_7), (11, .int (-1)), (6, .int k114_6), (10, .int k114_10), (9, .int z154), (8, .int k91_8), (5, .int z26), (0, .ref b_o), (1, .int p_1), (2, .int p_2), (3, .int p_3), (4, .int p_4)]) hx hb dX12_sooner_183 hl (by decide +kernel) rfl ?_
                                  clear hl
                                  intro ls hl
                                  refine lv_iload hx hb dX12_sooner_185 (lv_at hl 1 rfl) ?_
                                  refine lv_iconst (v := (-1)) hx hb dX12_sooner_187 (by decide +kernel) ?_
                                  refine W.eq (g2 := F0 m 188 ls [.int (-1), .int (-1)]) rfl ?_
                                  refine lv_icmp_eq (tgt := 203) hx hb dX12_sooner_188 (by decide +kernel) (fun c_221 => ?_) (fun c_221 => ?_)
                                  ·
                                    refine lv_iload hx hb dX12_sooner_203 (lv_at hl 2 rfl) ?_
                                    refine lv_istore (lv' := [(6, .int k114_6), (7, .int k114_7), (11, .int (-1)), (10, .int k114_10), (9, .int z154), (8, .int k91_8), (5, .int z26), (0, .ref b_o), (1, .int p_1), (2, .int p_2), (3, .int p_3), (4, .int p_4)]) hx hb dX12_sooner_205 hl (by decide +kernel) rfl ?_
                                    clear hl
                                    intro ls hl
                                    refine lv_iinc (v := (k114_10 + 1)) (lv' := [(10, .int (k114_10 + 1)), (6, .int k114_6), (7, .int k114_7), (11, .int (-1)), (9, .int z154), (8, .int k91_8), (5, .int z26), (0, .ref b_o), (1, .int p_1), (2, .int p_2), (3, .int p_3), (4, .int p_4)]) hx hb dX12_sooner_207 hl (k := 3) rfl rfl (by decide +kernel) rfl ?_
                                    clear hl
                                    intro ls hl
                                    have t_222 : (k114_10 + 1).toInt = k114_10.toInt + 1 := g5_iadd (a := k114_10.toInt) (b := 1) rfl (by decide +kernel) (by omega) (by omega)
                                    refine lv_goto (tgt := 114) hx hb dX12_sooner_210 (by decide +kernel) ?_
                                    exact ih_114_168 ((k114_10 + 1), k114_6, k114_7, k114_la, k114_bk, k114_va, k114_su, k114_ce, k114_ho, k114_wy, k114_bt, k114_ps, k114_tg, k114_sn, (upd k114_ro ((80 + (5 * k91_8)) + 1).toNatClampNeg k114_10), k114_se, k114_re, k114_pt, k114_tr, k114_ld) ls H locs (show Int.toNat (6 - (k114_10 + 1).toInt) < Int.toNat (6 - k114_10.toInt) from g_up (show k114_10.toInt < (k114_10 + 1).toInt by omega) (show k114_10.toInt < 6 by omega)) ⟨lv_sub hl [1, 2, 0, 4, 5, 6, 7, 8, 9, 10, 11] rfl, hP, hD, hS, ⟨by omega, by omega⟩, i_157, i_158, i_159, i_160, i_161, i_162, i_163, i_164, hmi_177, i_166, fun j hj => by rw [upd_ne (by rw [show ((80 + (5 * k91_8)) + 1).toNatClampNeg = (81 + 5 * k91_8.toInt.toNat) by have zz := g5_clamp ((80 + (5 * k91_8)) + 1); omega]; exact hj)]; exact i_167 j hj⟩
                                  ·
                                    exact absurd c_221 (by decide +kernel)
                                ·
                                  exact absurd c_220 (by decide +kernel)
                      ·
                        have n_16 : gNe (z14.toInt) (0) := g5_eqN (a := z14.toInt) (b := 0) rfl (by decide +kernel) c_16
                        have i_16 : z14.toInt ≥ 1 := by have z := g5_eqN (a := z14.toInt) (b := 0) (by rfl) (by decide +kernel) c_16; omega
                        refine lv_iconst (v := (-1)) hx hb dX12_sooner_59 (by decide +kernel) ?_
                        exact W.iret (v := (-1)) hx hb hr (fun t ht hW => ⟨⟨(-1), [(b_o, (oc12 0 u_sa b_rf b_ro b_im b_ke u_fd b_tp u_td u_fr u_to u_so u_wo u_fa u_bd u_nc b_nl u_co b_op b_ar u_le b_pi b_pa u_pd u_od b_ws b_hw u_la b_se b_re u_bk u_va u_su u_ce u_ho u_wy u_bt u_ps b_pt u_tg u_sn b_ip u_ic b_ah b_be b_me u_wd b_tr b_ld u_st b_wn u_id)), (b_ro, (arI G 5740 v_ro)), (b_se, (arJ G 13 v_se)), (b_re, (arJ G 400 v_re)), (b_pt, (arI G 200 v_pt)), (b_tr, (arZ G 1536 v_tr)), (b_ld, (arZ G 1536 v_ld))], rfl, ⟨(-1), 0, u_la, u_bk, u_va, u_su, u_ce, u_ho, u_wy, u_bt, u_ps, u_tg, u_sn, v_ro, v_se, v_re, v_pt, v_tr, v_ld, r_ro, h_u_la, h_u_bk, h_u_ce, h_u_ho, h_u_wy, h_u_bt, h_u_ps, r_pt, rfl, rfl, rfl⟩, by rw [ht]; exact hP.sub [5, 6, 0, 1, 2, 3, 4] rfl, hD.sub [5, 6, 0, 1, 2, 3, 4] (by decide +kernel) rfl⟩, hS.F ht⟩) hS.2.2 dX12_sooner_60
                  ·
                    have hJ9 := g5_same hP hk1
                    clear hP hPc hDc hFc ht hvm hz1 hk1 hP1 hD1
                    have hP := hJ9
                    clear hJ9
                    refine lv_if_eq (tgt := 52) hx hb dX12_sooner_45 (by decide +kernel) (fun c_223 => ?_) (fun c_223 => ?_)
                    ·
                      refine lv_iconst (v := 0) hx hb dX12_sooner_52 (by decide +kernel) ?_
                      obtain ⟨hPc, hDc, hFc⟩ := g5_sub3 (wc := [(b_o, (oc12 0 u_sa b_rf b_ro b_im b_ke u_fd b_tp u_td u_fr u_to u_so u_wo u_fa u_bd u_nc b_nl u_co b_op b_ar u_le b_pi b_pa u_pd u_od b_ws b_hw u_la b_se b_re u_bk u_va u_su u_ce u_ho u_wy u_bt u_ps b_pt u_tg u_sn b_ip u_ic b_ah b_be b_me u_wd b_tr b_ld u_st b_wn u_id)), (b_ro, (arI G 5740 v_ro))]) hP hD hS hA [5, 6] (by decide +kernel) rfl
                      refine va_calli (va_runV (As := [.int 0]) (rest := []) ⟨hx, hb, hml, hown, hts⟩ (n_isWall l G b_o b_ro b_rf b_im b_ke b_tp b_nl b_op b_ar b_pi b_pa b_ws b_hw b_se b_re b_pt b_ip b_ah b_be b_me b_tr b_ld b_wn H.size 0 u_sa u_fd u_td u_fr u_to u_so u_fa u_bd u_nc u_co u_le u_pd u_od u_la u_bk u_ce u_ho u_wy u_bt u_ps u_tg u_sn u_ic u_wd u_id 0 u_wo u_va u_su u_st v_ro h_u_td h_u_fr h_u_to h_u_bd h_u_nc h_u_co h_u_pd h_u_la h_u_bk h_u_ce h_u_ho h_u_wy h_u_bt h_u_ps h_u_ic h_u_id ⟨by decide, by decide⟩ (r_ro)) (cwV 1 hts gV_X12_160 rfl rfl rfl hv_X12_isWall ⟨Nat.le_of_ble_eq_true rfl, Nat.le_of_ble_eq_true rfl⟩) (g5_preV hPc hK hDc hN hT hS hFc (ci := 12) (q0 := 0) rfl rfl) rfl rfl hl.1 rfl (lv_room (Nat.le_of_ble_eq_true rfl)) dX12_sooner_53 ⟨Nat.le_of_ble_eq_true rfl, Nat.le_of_ble_eq_true rfl⟩) hS (fun q _ h => hFc q h) hFc (fun r u t H locs ht hvm hw hB hz1 hk1 hS => ?_)
                      obtain ⟨hP1, hD1⟩ := hB
                      have hP1 := g5_ht ht hP1
                      obtain ⟨z225, (i_224 : 0 ≤ z225.toInt ∧ z225.toInt ≤ 1), y226, rfl⟩ := hw
                      have hJ9 := va_join (wr := [(b_se, (arJ G 13 v_se)), (b_re, (arJ G 400 v_re)), (b_pt, (arI G 200 v_pt)), (b_tr, (arZ G 1536 v_tr)), (b_ld, (arZ G 1536 v_ld))]) hP hD [5, 6] [0, 1, 2, 3, 4] rfl rfl (by decide +kernel) (by decide +kernel) hk1 hFc hP1 hD1
                      clear hP hD hPc hDc hFc ht hvm hz1 hk1 hP1 hD1
                      obtain ⟨hP, hD⟩ := hJ9
                      refine g5_rs [(b_se, (arJ G 13 v_se)), (b_re, (arJ G 400 v_re)), (b_pt, (arI G 200 v_pt)), (b_tr, (arZ G 1536 v_tr)), (b_ld, (arZ G 1536 v_ld)), (b_o, (oc12 0 u_sa b_rf b_ro b_im b_ke u_fd b_tp u_td u_fr u_to u_so u_wo u_fa u_bd u_nc b_nl u_co b_op b_ar u_le b_pi b_pa u_pd u_od b_ws b_hw u_la b_se b_re u_bk u_va u_su u_ce u_ho u_wy u_bt u_ps b_pt u_tg u_sn b_ip u_ic b_ah b_be b_me u_wd b_tr b_ld u_st b_wn u_id)), (b_ro, (arI G 5740 v_ro))] hP hD ?_
                      clear hP hD
                      intro hP hD
                      refine g5_ti (v := z225) y226 ?_
                      refine lv_if_eq (tgt := 61) hx hb dX12_sooner_56 (by decide +kernel) (fun c_227 => ?_) (fun c_227 => ?_)
                      ·
                        have i_227 : z225.toInt = 0 := g5_eq (a := z225.toInt) (b := 0) rfl (by decide +kernel) c_227
                        refine lv_aload_n hx hb dX12_sooner_61 rfl (lv_at hl 0 rfl) ?_
                        refine lv_iload_n hx hb dX12_sooner_62 rfl (lv_at hl 1 rfl) ?_
                        refine lv_iload_n hx hb dX12_sooner_63 rfl (lv_at hl 2 rfl) ?_
                        refine lv_iload_n hx hb dX12_sooner_64 rfl (lv_at hl 3 rfl) ?_
                        refine W.eq (g2 := F0 m 65 ls [.int p_3, .int p_2, .int p_1, .ref b_o]) rfl ?_
                        obtain ⟨hPc, hDc, hFc⟩ := g5_sub3 (wc := [(b_o, (oc12 0 u_sa b_rf b_ro b_im b_ke u_fd b_tp u_td u_fr u_to u_so u_wo u_fa u_bd u_nc b_nl u_co b_op b_ar u_le b_pi b_pa u_pd u_od b_ws b_hw u_la b_se b_re u_bk u_va u_su u_ce u_ho u_wy u_bt u_ps b_pt u_tg u_sn b_ip u_ic b_ah b_be b_me u_wd b_tr b_ld u_st b_wn u_id)), (b_ro, (arI G 5740 v_ro)), (b_se, (arJ G 13 v_se)), (b_re, (arJ G 400 v_re)), (b_pt, (arI G 200 v_pt)), (b_tr, (arZ G 1536 v_tr)), (b_ld, (arZ G 1536 v_ld))]) hP hD hS hA [5, 6, 0, 1, 2, 3, 4] (by decide +kernel) rfl
                        refine va_calli (va_runV (As := [.int p_1, .int p_2, .int p_3]) (rest := []) ⟨hx, hb, hml, hown, hts⟩ (n_findSoonest l G b_o b_ro b_se b_re b_pt b_tr b_ld b_rf b_im b_ke b_tp b_nl b_op b_ar b_pi b_pa b_ws b_hw b_ip b_ah b_be b_me b_wn H.size 0 u_sa u_fd u_td u_fr u_to u_so u_fa u_bd u_nc u_co u_le u_pd u_od u_la u_bk u_ce u_ho u_wy u_bt u_ps u_tg u_sn u_ic u_wd u_id p_1 p_2 p_3 u_wo u_va u_su u_st v_ro v_se v_re v_pt v_tr v_ld h_u_td h_u_fr h_u_to h_u_bd h_u_nc h_u_co h_u_pd h_u_la h_u_bk h_u_ce h_u_ho h_u_wy h_u_bt h_u_ps h_u_ic h_u_id i_3 i_5 (r_ro) (r_pt)) (cwV 3 hts gV_X12_466 rfl rfl rfl hv_X12_findSoonest ⟨Nat.le_of_ble_eq_true rfl, Nat.le_of_ble_eq_true rfl⟩) (g5_preV hPc hK hDc hN hT hS hFc (ci := 12) (q0 := 0) rfl rfl) rfl rfl hl.1 rfl (lv_room (Nat.le_of_ble_eq_true rfl)) dX12_sooner_65 ⟨Nat.le_of_ble_eq_true rfl, Nat.le_of_ble_eq_true rfl⟩) hS (fun q _ h => hFc q h) hFc (fun r u t H locs ht hvm hw hB hz1 hk1 hS => ?_)
                        obtain ⟨hP1, hD1⟩ := hB
                        have hP1 := g5_ht ht hP1
                        obtain ⟨z237, z238, z239, z240, z241, z242, z243, z244, z245, z246, z247, z248, z249, z250, z251, z252, z253, (i_228 : (-1) ≤ z237.toInt ∧ z237.toInt ≤ 23), (i_229 : 0 ≤ z238.toInt ∧ z238.toInt ≤ 4840), (i_230 : 0 ≤ z239.toInt ∧ z239.toInt ≤ 1), (i_231 : 0 ≤ z242.toInt ∧ z242.toInt ≤ 63), (i_232 : 0 ≤ z243.toInt ∧ z243.toInt ≤ 23), (i_233 : 0 ≤ z244.toInt ∧ z244.toInt ≤ 3), (i_234 : 0 ≤ z245.toInt ∧ z245.toInt ≤ 1000000), (i_235 : 0 ≤ z246.toInt ∧ z246.toInt ≤ 200), (i_236 : PTI z251), y254, rfl⟩ := hw
                        have hJ9 := va_join (wr := []) hP hD [5, 6, 0, 1, 2, 3, 4] [] rfl rfl (by decide +kernel) (by decide +kernel) hk1 hFc hP1 hD1
                        clear hP hD hPc hDc hFc ht hvm hz1 hk1 hP1 hD1
                        obtain ⟨hP, hD⟩ := hJ9
                        refine g5_rs [(b_o, (oc12 0 u_sa b_rf b_ro b_im b_ke u_fd b_tp u_td u_fr u_to u_so u_wo u_fa u_bd u_nc b_nl u_co b_op b_ar u_le b_pi b_pa u_pd u_od b_ws b_hw z238 b_se b_re z239 z240 z241 z242 z243 z244 z245 z246 b_pt z247 z248 b_ip u_ic b_ah b_be b_me u_wd b_tr b_ld u_st b_wn u_id)), (b_ro, (arI G 5740 v_ro)), (b_se, (arJ G 13 z249)), (b_re, (arJ G 400 z250)), (b_pt, (arI G 200 z251)), (b_tr, (arZ G 1536 z252)), (b_ld, (arZ G 1536 z253))] hP hD ?_
                        clear hP hD
                        intro hP hD
                        refine g5_ti (v := z237) y254 ?_
                        refine lv_istore (lv' := [(5, .int z237), (0, .ref b_o), (1, .int p_1), (2, .int p_2), (3, .int p_3), (4, .int p_4)]) hx hb dX12_sooner_68 hl (by decide +kernel) rfl ?_
                        clear hl
                        intro ls hl
                        refine lv_iload hx hb dX12_sooner_70 (lv_at hl 0 rfl) ?_
                        refine lv_iconst (v := (-1)) hx hb dX12_sooner_72 (by decide +kernel) ?_
                        refine lv_icmp_ne (tgt := 81) hx hb dX12_sooner_73 (by decide +kernel) (fun c_255 => ?_) (fun c_255 => ?_)
                        ·
                          have n_255 : gNe (z237.toInt) ((-1)) := g5_ne (a := z237.toInt) (b := (-1)) rfl (by decide +kernel) c_255
                          have i_255 : z237.toInt ≥ 0 := by have z := g5_ne (a := z237.toInt) (b := (-1)) (by rfl) (by decide +kernel) c_255; omega
                          refine lv_iload hx hb dX12_sooner_81 (lv_at hl 0 rfl) ?_
                          refine lv_istore (lv' := [(6, .int z237), (5, .int z237), (0, .ref b_o), (1, .int p_1), (2, .int p_2), (3, .int p_3), (4, .int p_4)]) hx hb dX12_sooner_83 hl (by decide +kernel) rfl ?_
                          clear hl
                          intro ls hl
                          refine lv_iconst (v := (-1)) hx hb dX12_sooner_85 (by decide +kernel) ?_
                          refine lv_istore (lv' := [(7, .int (-1)), (6, .int z237), (5, .int z237), (0, .ref b_o), (1, .int p_1), (2, .int p_2), (3, .int p_3), (4, .int p_4)]) hx hb dX12_sooner_86 hl (by decide +kernel) rfl ?_
                          clear hl
                          intro ls hl
                          refine W.eq (g2 := F0 m 88 ls []) rfl ?_
                          refine lv_iconst (v := 0) hx hb dX12_sooner_88 (by decide +kernel) ?_
                          refine lv_istore (lv' := [(8, .int 0), (7, .int (-1)), (6, .int z237), (5, .int z237), (0, .ref b_o), (1, .int p_1), (2, .int p_2), (3, .int p_3), (4, .int p_4)]) hx hb dX12_sooner_89 hl (by decide +kernel) rfl ?_
                          clear hl
                          intro ls hl
                          refine g5_loop (α := (Int32) × (Int32) × (Int32) × (Int32) × (Int32) × (Int64) × (Int64) × (Int32) × (Int32) × (Int32) × (Int32) × (Int32) × (Int32) × (Int32) × (Nat → Int32) × (Nat → Int64) × (Nat → Int64) × (Nat → Int32) × (Nat → Int32) × (Nat → Int32)) (fun (q : (Int32) × (Int32) × (Int32) × (Int32) × (Int32) × (Int64) × (Int64) × (Int32) × (Int32) × (Int32) × (Int32) × (Int32) × (Int32) × (Int32) × (Nat → Int32) × (Nat → Int64) × (Nat → Int64) × (Nat → Int32) × (Nat → Int32) × (Nat → Int32)) (ls : Array Slot) (H : Heap) (locs : List Loc) => match q with | (k91_8, k91_7, k91_6, k91_la, k91_bk, k91_va, k91_su, k91_ce, k91_ho, k91_wy, k91_bt, k91_ps, k91_tg, k91_sn, k91_ro, k91_se, k91_re, k91_pt, k91_tr, k91_ld) => lv_has ls 12 [(6, .int k91_6), (7, .int k91_7), (8, .int k91_8), (5, .int z237), (0, .ref b_o), (1, .int p_1), (2, .int p_2), (3, .int p_3), (4, .int p_4)] ∧ va_P G.1 vwCl [(b_o, (oc12 0 u_sa b_rf b_ro b_im b_ke u_fd b_tp u_td u_fr u_to u_so u_wo u_fa u_bd u_nc b_nl u_co b_op b_ar u_le b_pi b_pa u_pd u_od b_ws b_hw k91_la b_se b_re k91_bk k91_va k91_su k91_ce k91_ho k91_wy k91_bt k91_ps b_pt k91_tg k91_sn b_ip u_ic b_ah b_be b_me u_wd b_tr b_ld u_st b_wn u_id)), (b_ro, (arI G 5740 k91_ro)), (b_se, (arJ G 13 k91_se)), (b_re, (arJ G 400 k91_re)), (b_pt, (arI G 200 k91_pt)), (b_tr, (arZ G 1536 k91_tr)), (b_ld, (arZ G 1536 k91_ld))] H ∧ va_D A [(b_o, (oc12 0 u_sa b_rf b_ro b_im b_ke u_fd b_tp u_td u_fr u_to u_so u_wo u_fa u_bd u_nc b_nl u_co b_op b_ar u_le b_pi b_pa u_pd u_od b_ws b_hw k91_la b_se b_re k91_bk k91_va k91_su k91_ce k91_ho k91_wy k91_bt k91_ps b_pt k91_tg k91_sn b_ip u_ic b_ah b_be b_me u_wd b_tr b_ld u_st b_wn u_id)), (b_ro, (arI G 5740 k91_ro)), (b_se, (arJ G 13 k91_se)), (b_re, (arJ G 400 k91_re)), (b_pt, (arI G 200 k91_pt)), (b_tr, (arZ G 1536 k91_tr)), (b_ld, (arZ G 1536 k91_ld))] ∧ va_S A s.heap H locs ∧ (0 ≤ k91_8.toInt ∧ k91_8.toInt ≤ 6) ∧ (0 ≤ k91_6.toInt ∧ k91_6.toInt ≤ 24) ∧ (0 ≤ k91_la.toInt ∧ k91_la.toInt ≤ 4840) ∧ (0 ≤ k91_bk.toInt ∧ k91_bk.toInt ≤ 1) ∧ (0 ≤ k91_ce.toInt ∧ k91_ce.toInt ≤ 63) ∧ (0 ≤ k91_ho.toInt ∧ k91_ho.toInt ≤ 23) ∧ (0 ≤ k91_wy.toInt ∧ k91_wy.toInt ≤ 3) ∧ (0 ≤ k91_bt.toInt ∧ k91_bt.toInt ≤ 1000000) ∧ (0 ≤ k91_ps.toInt ∧ k91_ps.toInt ≤ 200) ∧ (MI k91_ro) ∧ (PTI k91_pt) ∧ (k91_ro = v_ro)) (fun (q : (Int32) × (Int32) × (Int32) × (Int32) × (Int32) × (Int64) × (Int64) × (Int32) × (Int32) × (Int32) × (Int32) × (Int32) × (Int32) × (Int32) × (Nat → Int32) × (Nat → Int64) × (Nat → Int64) × (Nat → Int32) × (Nat → Int32) × (Nat → Int32)) => match q with | (k91_8, k91_7, k91_6, k91_la, k91_bk, k91_va, k91_su, k91_ce, k91_ho, k91_wy, k91_bt, k91_ps, k91_tg, k91_sn, k91_ro, k91_se, k91_re, k91_pt, k91_tr, k91_ld) => Int.toNat (6 - k91_8.toInt)) (0, (-1), z237, z238, z239, z240, z241, z242, z243, z244, z245, z246, z247, z248, v_ro, z249, z250, z251, z252, z253) ⟨lv_sub hl [2, 1, 0, 3, 4, 5, 6, 7, 8] rfl, hP, hD, hS, ⟨by decide, by decide⟩, ⟨by omega, by omega⟩, i_229, i_230, i_231, i_232, i_233, i_234, i_235, r_ro, i_236, rfl⟩ ?_
                          rintro ⟨k91_8, k91_7, k91_6, k91_la, k91_bk, k91_va, k91_su, k91_ce, k91_ho, k91_wy, k91_bt, k91_ps, k91_tg, k91_sn, k91_ro, k91_se, k91_re, k91_pt, k91_tr, k91_ld⟩ ls H locs ⟨hl, hP, hD, hS, (i_256 : 0 ≤ k91_8.toInt ∧ k91_8.toInt ≤ 6), (i_257 : 0 ≤ k91_6.toInt ∧ k91_6.toInt ≤ 24), (i_258 : 0 ≤ k91_la.toInt ∧ k91_la.toInt ≤ 4840), (i_259 : 0 ≤ k91_bk.toInt ∧ k91_bk.toInt ≤ 1), (i_260 : 0 ≤ k91_ce.toInt ∧ k91_ce.toInt ≤ 63), (i_261 : 0 ≤ k91_ho.toInt ∧ k91_ho.toInt ≤ 23), (i_262 : 0 ≤ k91_wy.toInt ∧ k91_wy.toInt ≤ 3), (i_263 : 0 ≤ k91_bt.toInt ∧ k91_bt.toInt ≤ 1000000), (i_264 : 0 ≤ k91_ps.toInt ∧ k91_ps.toInt ≤ 200), (i_265 : MI k91_ro), (i_266 : PTI k91_pt), (i_267 : k91_ro = v_ro)⟩ ih_91_268
                          replace hl : lv_has ls 12 [(6, .int k91_6), (7, .int k91_7), (8, .int k91_8), (5, .int z237), (0, .ref b_o), (1, .int p_1), (2, .int p_2), (3, .int p_3), (4, .int p_4)] := hl
                          refine g5_rs [(b_o, (oc12 0 u_sa b_rf b_ro b_im b_ke u_fd b_tp u_td u_fr u_to u_so u_wo u_fa u_bd u_nc b_nl u_co b_op b_ar u_le b_pi b_pa u_pd u_od b_ws b_hw k91_la b_se b_re k91_bk k91_va k91_su k91_ce k91_ho k91_wy k91_bt k91_ps b_pt k91_tg k91_sn b_ip u_ic b_ah b_be b_me u_wd b_tr b_ld u_st b_wn u_id)), (b_ro, (arI G 5740 k91_ro)), (b_se, (arJ G 13 k91_se)), (b_re, (arJ G 400 k91_re)), (b_pt, (arI G 200 k91_pt)), (b_tr, (arZ G 1536 k91_tr)), (b_ld, (arZ G 1536 k91_ld))] hP hD ?_
                          clear hP hD
                          intro hP hD
                          refine lv_iload hx hb dX12_sooner_91 (lv_at hl 2 rfl) ?_
                          refine lv_aload_n hx hb dX12_sooner_93 rfl (lv_at hl 4 rfl) ?_
                          refine va_get (D := G.1) (ci := 12) (v := .ref b_ro) (C := RX12) (T := TX12) (N := 52) hx hb hts inG_X12 hown hK hP 0 rfl rfl 3 (by decide +kernel) (hts _ fl_X12_13) (fun _ h9 => h9) rfl dX12_sooner_94 ?_
                          refine lv_iconst (v := 0) hx hb dX12_sooner_97 (by decide +kernel) ?_
                          refine W.eq (g2 := F0 m 98 ls [.int 0, .ref b_ro, .int k91_8]) rfl ?_
                          refine va_iald hx hb hK hP 1 0 rfl rfl (i := 0) (by unfold vp_in; decide) dX12_sooner_98 ?_
                          refine g5_ti (v := (k91_ro 0)) rfl ?_
                          have hr_269 : 0 ≤ (k91_ro 0).toInt ∧ (k91_ro 0).toInt ≤ 6 := mi_0 i_265
                          refine lv_icmp_ge (tgt := 235) hx hb dX12_sooner_99 (by decide +kernel) (fun c_270 => ?_) (fun c_270 => ?_)
                          ·
                            have i_270 : k91_8.toInt ≥ (k91_ro 0).toInt := g5_ge (a := k91_8.toInt) (b := (k91_ro 0).toInt) rfl rfl c_270
                            refine lv_iload hx hb dX12_sooner_235 (lv_at hl 1 rfl) ?_
                            refine lv_iconst (v := (-1)) hx hb dX12_sooner_237 (by decide +kernel) ?_
                            refine lv_icmp_ne (tgt := 245) hx hb dX12_sooner_238 (by decide +kernel) (fun c_271 => ?_) (fun c_271 => ?_)
                            ·
                              have n_271 : gNe (k91_7.toInt) ((-1)) := g5_ne (a := k91_7.toInt) (b := (-1)) rfl (by decide +kernel) c_271
                              refine lv_iload hx hb dX12_sooner_245 (lv_at hl 8 rfl) ?_
                              refine lv_if_ne (tgt := 255) hx hb dX12_sooner_247 (by decide +kernel) (fun c_272 => ?_) (fun c_272 => ?_)
                              ·
                                have n_272 : gNe (p_4.toInt) (0) := g5_ne (a := p_4.toInt) (b := 0) rfl (by decide +kernel) c_272
                                have i_272 : p_4.toInt ≥ 1 := by have z := g5_ne (a := p_4.toInt) (b := 0) (by rfl) (by decide +kernel) c_272; omega
                                refine lv_iload hx hb dX12_sooner_255 (lv_at hl 8 rfl) ?_
                                refine lv_iconst (v := 1) hx hb dX12_sooner_257 (by decide +kernel) ?_
                                refine lv_icmp_ne (tgt := 269) hx hb dX12_sooner_258 (by decide +kernel) (fun c_273 => ?_) (fun c_273 => ?_)
                                ·
                                  have n_273 : gNe (p_4.toInt) (1) := g5_ne (a := p_4.toInt) (b := 1) rfl (by decide +kernel) c_273
                                  have i_273 : p_4.toInt ≥ 2 := by have z := g5_ne (a := p_4.toInt) (b := 1) (by rfl) (by decide +kernel) c_273; omega
                                  refine lv_iload hx hb dX12_sooner_269 (lv_at hl 1 rfl) ?_
                                  refine lv_bipush (v := 6) hx hb dX12_sooner_271 (by decide +kernel) ?_
                                  refine lv_irem hx hb dX12_sooner_273 (by decide +kernel) ?_
                                  exact W.iret (v := (k91_7 - k91_7 / 6 * 6)) hx hb hr (fun t ht hW => ⟨⟨(k91_7 - k91_7 / 6 * 6), [(b_o, (oc12 0 u_sa b_rf b_ro b_im b_ke u_fd b_tp u_td u_fr u_to u_so u_wo u_fa u_bd u_nc b_nl u_co b_op b_ar u_le b_pi b_pa u_pd u_od b_ws b_hw k91_la b_se b_re k91_bk k91_va k91_su k91_ce k91_ho k91_wy k91_bt k91_ps b_pt k91_tg k91_sn b_ip u_ic b_ah b_be b_me u_wd b_tr b_ld u_st b_wn u_id)), (b_ro, (arI G 5740 k91_ro)), (b_se, (arJ G 13 k91_se)), (b_re, (arJ G 400 k91_re)), (b_pt, (arI G 200 k91_pt)), (b_tr, (arZ G 1536 k91_tr)), (b_ld, (arZ G 1536 k91_ld))], rfl, ⟨(k91_7 - k91_7 / 6 * 6), 0, k91_la, k91_bk, k91_va, k91_su, k91_ce, k91_ho, k91_wy, k91_bt, k91_ps, k91_tg, k91_sn, k91_ro, k91_se, k91_re, k91_pt, k91_tr, k91_ld, i_265, i_258, i_259, i_260, i_261, i_262, i_263, i_264, i_266, i_267, rfl, rfl⟩, by rw [ht]; exact hP.sub [0, 1, 2, 3, 4, 5, 6] rfl, hD.sub [0, 1, 2, 3, 4, 5, 6] (by decide +kernel) rfl⟩, hS.F ht⟩) hS.2.2 dX12_sooner_274
                                ·
                                  have i_273 : p_4.toInt = 1 := g5_neN (a := p_4.toInt) (b := 1) rfl (by decide +kernel) c_273
                                  refine lv_iload hx hb dX12_sooner_261 (lv_at hl 1 rfl) ?_
                                  refine lv_bipush (v := 6) hx hb dX12_sooner_263 (by decide +kernel) ?_
                                  refine lv_idiv hx hb dX12_sooner_265 (by decide +kernel) ?_
                                  refine lv_goto (tgt := 274) hx hb dX12_sooner_266 (by decide +kernel) ?_
                                  refine W.eq (g2 := F0 m 274 ls [.int (k91_7 / 6)]) rfl ?_
                                  exact W.iret (v := (k91_7 / 6)) hx hb hr (fun t ht hW => ⟨⟨(k91_7 / 6), [(b_o, (oc12 0 u_sa b_rf b_ro b_im b_ke u_fd b_tp u_td u_fr u_to u_so u_wo u_fa u_bd u_nc b_nl u_co b_op b_ar u_le b_pi b_pa u_pd u_od b_ws b_hw k91_la b_se b_re k91_bk k91_va k91_su k91_ce k91_ho k91_wy k91_bt k91_ps b_pt k91_tg k91_sn b_ip u_ic b_ah b_be b_me u_wd b_tr b_ld u_st b_wn u_id)), (b_ro, (arI G 5740 k91_ro)), (b_se, (arJ G 13 k91_se)), (b_re, (arJ G 400 k91_re)), (b_pt, (arI G 200 k91_pt)), (b_tr, (arZ G 1536 k91_tr)), (b_ld, (arZ G 1536 k91_ld))], rfl, ⟨(k91_7 / 6), 0, k91_la, k91_bk, k91_va, k91_su, k91_ce, k91_ho, k91_wy, k91_bt, k91_ps, k91_tg, k91_sn, k91_ro, k91_se, k91_re, k91_pt, k91_tr, k91_ld, i_265, i_258, i_259, i_260, i_261, i_262, i_263, i_264, i_266, i_267, rfl, rfl⟩, by rw [ht]; exact hP.sub [0, 1, 2, 3, 4, 5, 6] rfl, hD.sub [0, 1, 2, 3, 4, 5, 6] (by decide +kernel) rfl⟩, hS.F ht⟩) hS.2.2 dX12_sooner_274
                              ·
                                have i_272 : p_4.toInt = 0 := g5_neN (a := p_4.toInt) (b := 0) rfl (by decide +kernel) c_272
                                refine lv_iload hx hb dX12_sooner_250 (lv_at hl 0 rfl) ?_
                                refine lv_goto (tgt := 274) hx hb dX12_sooner_252 (by decide +kernel) ?_
                                exact W.iret (v := k91_6) hx hb hr (fun t ht hW => ⟨⟨k91_6, [(b_o, (oc12 0 u_sa b_rf b_ro b_im b_ke u_fd b_tp u_td u_fr u_to u_so u_wo u_fa u_bd u_nc b_nl u_co b_op b_ar u_le b_pi b_pa u_pd u_od b_ws b_hw k91_la b_se b_re k91_bk k91_va k91_su k91_ce k91_ho k91_wy k91_bt k91_ps b_pt k91_tg k91_sn b_ip u_ic b_ah b_be b_me u_wd b_tr b_ld u_st b_wn u_id)), (b_ro, (arI G 5740 k91_ro)), (b_se, (arJ G 13 k91_se)), (b_re, (arJ G 400 k91_re)), (b_pt, (arI G 200 k91_pt)), (b_tr, (arZ G 1536 k91_tr)), (b_ld, (arZ G 1536 k91_ld))], rfl, ⟨k91_6, 0, k91_la, k91_bk, k91_va, k91_su, k91_ce, k91_ho, k91_wy, k91_bt, k91_ps, k91_tg, k91_sn, k91_ro, k91_se, k91_re, k91_pt, k91_tr, k91_ld, i_265, i_258, i_259, i_260, i_261, i_262, i_263, i_264, i_266, i_267, rfl, rfl⟩, by rw [ht]; exact hP.sub [0, 1, 2, 3, 4, 5, 6] rfl, hD.sub [0, 1, 2, 3, 4, 5, 6] (by decide +kernel) rfl⟩, hS.F ht⟩) hS.2.2 dX12_sooner_274
                            ·
                              have i_271 : k91_7.toInt = (-1) := g5_neN (a := k91_7.toInt) (b := (-1)) rfl (by decide +kernel) c_271
                              refine lv_iconst (v := (-1)) hx hb dX12_sooner_241 (by decide +kernel) ?_
                              refine lv_goto (tgt := 274) hx hb dX12_sooner_242 (by decide +kernel) ?_
                              exact W.iret (v := (-1)) hx hb hr (fun t ht hW => ⟨⟨(-1), [(b_o, (oc12 0 u_sa b_rf b_ro b_im b_ke u_fd b_tp u_td u_fr u_to u_so u_wo u_fa u_bd u_nc b_nl u_co b_op b_ar u_le b_pi b_pa u_pd u_od b_ws b_hw k91_la b_se b_re k91_bk k91_va k91_su k91_ce k91_ho k91_wy k91_bt k91_ps b_pt k91_tg k91_sn b_ip u_ic b_ah b_be b_me u_wd b_tr b_ld u_st b_wn u_id)), (b_ro, (arI G 5740 k91_ro)), (b_se, (arJ G 13 k91_se)), (b_re, (arJ G 400 k91_re)), (b_pt, (arI G 200 k91_pt)), (b_tr, (arZ G 1536 k91_tr)), (b_ld, (arZ G 1536 k91_ld))], rfl, ⟨(-1), 0, k91_la, k91_bk, k91_va, k91_su, k91_ce, k91_ho, k91_wy, k91_bt, k91_ps, k91_tg, k91_sn, k91_ro, k91_se, k91_re, k91_pt, k91_tr, k91_ld, i_265, i_258, i_259, i_260, i_261, i_262, i_263, i_264, i_266, i_267, rfl, rfl⟩, by rw [ht]; exact hP.sub [0, 1, 2, 3, 4, 5, 6] rfl, hD.sub [0, 1, 2, 3, 4, 5, 6] (by decide +kernel) rfl⟩, hS.F ht⟩) hS.2.2 dX12_sooner_274
                          ·
                            have i_270 : k91_8.toInt < (k91_ro 0).toInt := g5_geN (a := k91_8.toInt) (b := (k91_ro 0).toInt) rfl rfl c_270
                            refine lv_aload_n hx hb dX12_sooner_102 rfl (lv_at hl 4 rfl) ?_
                            refine lv_iload hx hb dX12_sooner_103 (lv_at hl 2 rfl) ?_
                            refine lv_iconst (v := 1) hx hb dX12_sooner_105 (by decide +kernel) ?_
                            obtain ⟨hPc, hDc, hFc⟩ := g5_sub3 (wc := [(b_o, (oc12 0 u_sa b_rf b_ro b_im b_ke u_fd b_tp u_td u_fr u_to u_so u_wo u_fa u_bd u_nc b_nl u_co b_op b_ar u_le b_pi b_pa u_pd u_od b_ws b_hw k91_la b_se b_re k91_bk k91_va k91_su k91_ce k91_ho k91_wy k91_bt k91_ps b_pt k91_tg k91_sn b_ip u_ic b_ah b_be b_me u_wd b_tr b_ld u_st b_wn u_id)), (b_ro, (arI G 5740 k91_ro))]) hP hD hS hA [0, 1] (by decide +kernel) rfl
                            refine va_calli (va_runV (As := [.int k91_8, .int 1]) (rest := []) ⟨hx, hb, hml, hown, hts⟩ (n_ofGlass1S l G b_o b_ro b_rf b_im b_ke b_tp b_nl b_op b_ar b_pi b_pa b_ws b_hw b_se b_re b_pt b_ip b_ah b_be b_me b_tr b_ld b_wn H.size 0 u_sa u_fd u_td u_fr u_to u_so u_fa u_bd u_nc u_co u_le u_pd u_od k91_la k91_bk k91_ce k91_ho k91_wy k91_bt k91_ps k91_tg k91_sn u_ic u_wd u_id k91_8 u_wo k91_va k91_su u_st k91_ro h_u_td h_u_fr h_u_to h_u_bd h_u_nc h_u_co h_u_pd i_258 i_259 i_260 i_261 i_262 i_263 i_264 h_u_ic h_u_id ⟨by omega, by omega⟩ (i_265)) (cwV 2 hts gV_X12_134 rfl rfl rfl hv_X12_ofGlass ⟨Nat.le_of_ble_eq_true rfl, Nat.le_of_ble_eq_true rfl⟩) (g5_preV hPc hK hDc hN hT hS hFc (ci := 12) (q0 := 0) rfl rfl) rfl rfl hl.1 rfl (lv_room (Nat.le_of_ble_eq_true rfl)) dX12_sooner_106 ⟨Nat.le_of_ble_eq_true rfl, Nat.le_of_ble_eq_true rfl⟩) hS (fun q _ h => hFc q h) hFc (fun r u t H locs ht hvm hw hB hz1 hk1 hS => ?_)
                            obtain ⟨hP1, hD1⟩ := hB
                            have hP1 := g5_ht ht hP1
                            obtain ⟨z276, (i_274 : 0 ≤ z276.toInt ∧ z276.toInt ≤ 5), (i_275 : z276 = k91_ro (80 + 5 * k91_8.toInt.toNat + 1)), y277, rfl⟩ := hw
                            have hJ9 := va_join (wr := [(b_se, (arJ G 13 k91_se)), (b_re, (arJ G 400 k91_re)), (b_pt, (arI G 200 k91_pt)), (b_tr, (arZ G 1536 k91_tr)), (b_ld, (arZ G 1536 k91_ld))]) hP hD [0, 1] [2, 3, 4, 5, 6] rfl rfl (by decide +kernel) (by decide +kernel) hk1 hFc hP1 hD1
                            clear hP hD hPc hDc hFc ht hvm hz1 hk1 hP1 hD1
                            obtain ⟨hP, hD⟩ := hJ9
                            refine g5_rs [(b_se, (arJ G 13 k91_se)), (b_re, (arJ G 400 k91_re)), (b_pt, (arI G 200 k91_pt)), (b_tr, (arZ G 1536 k91_tr)), (b_ld, (arZ G 1536 k91_ld)), (b_o, (oc12 0 u_sa b_rf b_ro b_im b_ke u_fd b_tp u_td u_fr u_to u_so u_wo u_fa u_bd u_nc b_nl u_co b_op b_ar u_le b_pi b_pa u_pd u_od b_ws b_hw k91_la b_se b_re k91_bk k91_va k91_su k91_ce k91_ho k91_wy k91_bt k91_ps b_pt k91_tg k91_sn b_ip u_ic b_ah b_be b_me u_wd b_tr b_ld u_st b_wn u_id)), (b_ro, (arI G 5740 k91_ro))] hP hD ?_
                            clear hP hD
                            intro hP hD
                            refine g5_ti (v := z276) y277 ?_
                            refine W.eq (g2 := F0 m 109 ls [.int z276]) rfl ?_
                            refine lv_istore (lv' := [(9, .int z276), (6, .int k91_6), (7, .int k91_7), (8, .int k91_8), (5, .int z237), (0, .ref b_o), (1, .int p_1), (2, .int p_2), (3, .int p_3), (4, .int p_4)]) hx hb dX12_sooner_109 hl (by decide +kernel) rfl ?_
                            clear hl
                            intro ls hl
                            refine lv_iconst (v := 0) hx hb dX12_sooner_111 (by decide +kernel) ?_
                            refine lv_istore (lv' := [(10, .int 0), (9, .int z276), (6, .int k91_6), (7, .int k91_7), (8, .int k91_8), (5, .int z237), (0, .ref b_o), (1, .int p_1), (2, .int p_2), (3, .int p_3), (4, .int p_4)]) hx hb dX12_sooner_112 hl (by decide +kernel) rfl ?_
                            clear hl
                            intro ls hl
                            refine g5_loop (α := (Int32) × (Int32) × (Int32) × (Int32) × (Int32) × (Int64) × (Int64) × (Int32) × (Int32) × (Int32) × (Int32) × (Int32) × (Int32) × (Int32) × (Nat → Int32) × (Nat → Int64) × (Nat → Int64) × (Nat → Int32) × (Nat → Int32) × (Nat → Int32)) (fun (q : (Int32) × (Int32) × (Int32) × (Int32) × (Int32) × (Int64) × (Int64) × (Int32) × (Int32) × (Int32) × (Int32) × (Int32) × (Int32) × (Int32) × (Nat → Int32) × (Nat → Int64) × (Nat → Int64) × (Nat → Int32) × (Nat → Int32) × (Nat → Int32)) (ls : Array Slot) (H : Heap) (locs : List Loc) => match q with | (k114_10, k114_6, k114_7, k114_la, k114_bk, k114_va, k114_su, k114_ce, k114_ho, k114_wy, k114_bt, k114_ps, k114_tg, k114_sn, k114_ro, k114_se, k114_re, k114_pt, k114_tr, k114_ld) => lv_has ls 12 [(6, .int k114_6), (7, .int k114_7), (10, .int k114_10), (9, .int z276), (8, .int k91_8), (5, .int z237), (0, .ref b_o), (1, .int p_1), (2, .int p_2), (3, .int p_3), (4, .int p_4)] ∧ va_P G.1 vwCl [(b_se, (arJ G 13 k114_se)), (b_re, (arJ G 400 k114_re)), (b_pt, (arI G 200 k114_pt)), (b_tr, (arZ G 1536 k114_tr)), (b_ld, (arZ G 1536 k114_ld)), (b_o, (oc12 0 u_sa b_rf b_ro b_im b_ke u_fd b_tp u_td u_fr u_to u_so u_wo u_fa u_bd u_nc b_nl u_co b_op b_ar u_le b_pi b_pa u_pd u_od b_ws b_hw k114_la b_se b_re k114_bk k114_va k114_su k114_ce k114_ho k114_wy k114_bt k114_ps b_pt k114_tg k114_sn b_ip u_ic b_ah b_be b_me u_wd b_tr b_ld u_st b_wn u_id)), (b_ro, (arI G 5740 k114_ro))] H ∧ va_D A [(b_se, (arJ G 13 k114_se)), (b_re, (arJ G 400 k114_re)), (b_pt, (arI G 200 k114_pt)), (b_tr, (arZ G 1536 k114_tr)), (b_ld, (arZ G 1536 k114_ld)), (b_o, (oc12 0 u_sa b_rf b_ro b_im b_ke u_fd b_tp u_td u_fr u_to u_so u_wo u_fa u_bd u_nc b_nl u_co b_op b_ar u_le b_pi b_pa u_pd u_od b_ws b_hw k114_la b_se b_re k114_bk k114_va k114_su k114_ce k114_ho k114_wy k114_bt k114_ps b_pt k114_tg k114_sn b_ip u_ic b_ah b_be b_me u_wd b_tr b_ld u_st b_wn u_id)), (b_ro, (arI G 5740 k114_ro))] ∧ va_S A s.heap H locs ∧ (0 ≤ k114_10.toInt ∧ k114_10.toInt ≤ 6) ∧ (0 ≤ k114_6.toInt ∧ k114_6.toInt ≤ 24) ∧ (0 ≤ k114_la.toInt ∧ k114_la.toInt ≤ 4840) ∧ (0 ≤ k114_bk.toInt ∧ k114_bk.toInt ≤ 1) ∧ (0 ≤ k114_ce.toInt ∧ k114_ce.toInt ≤ 63) ∧ (0 ≤ k114_ho.toInt ∧ k114_ho.toInt ≤ 23) ∧ (0 ≤ k114_wy.toInt ∧ k114_wy.toInt ≤ 3) ∧ (0 ≤ k114_bt.toInt ∧ k114_bt.toInt ≤ 1000000) ∧ (0 ≤ k114_ps.toInt ∧ k114_ps.toInt ≤ 200) ∧ (MI k114_ro) ∧ (PTI k114_pt) ∧ (∀ j : Nat, j ≠ (81 + 5 * k91_8.toInt.toNat) → k114_ro j = v_ro j)) (fun (q : (Int32) × (Int32) × (Int32) × (Int32) × (Int32) × (Int64) × (Int64) × (Int32) × (Int32) × (Int32) × (Int32) × (Int32) × (Int32) × (Int32) × (Nat → Int32) × (Nat → Int64) × (Nat → Int64) × (Nat → Int32) × (Nat → Int32) × (Nat → Int32)) => match q with | (k114_10, k114_6, k114_7, k114_la, k114_bk, k114_va, k114_su, k114_ce, k114_ho, k114_wy, k114_bt, k114_ps, k114_tg, k114_sn, k114_ro, k114_se, k114_re, k114_pt, k114_tr, k114_ld) => Int.toNat (6 - k114_10.toInt)) (0, k91_6, k91_7, k91_la, k91_bk, k91_va, k91_su, k91_ce, k91_ho, k91_wy, k91_bt, k91_ps, k91_tg, k91_sn, k91_ro, k91_se, k91_re, k91_pt, k91_tr, k91_ld) ⟨lv_sub hl [2, 3, 0, 1, 4, 5, 6, 7, 8, 9, 10] rfl, hP, hD, hS, ⟨by decide, by decide⟩, i_257, i_258, i_259, i_260, i_261, i_262, i_263, i_264, i_265, i_266, fun j _ => by rw [i_267]⟩ ?_
                            rintro ⟨k114_10, k114_6, k114_7, k114_la, k114_bk, k114_va, k114_su, k114_ce, k114_ho, k114_wy, k114_bt, k114_ps, k114_tg, k114_sn, k114_ro, k114_se, k114_re, k114_pt, k114_tr, k114_ld⟩ ls H locs ⟨hl, hP, hD, hS, (i_278 : 0 ≤ k114_10.toInt ∧ k114_10.toInt ≤ 6), (i_279 : 0 ≤ k114_6.toInt ∧ k114_6.toInt ≤ 24), (i_280 : 0 ≤ k114_la.toInt ∧ k114_la.toInt ≤ 4840), (i_281 : 0 ≤ k114_bk.toInt ∧ k114_bk.toInt ≤ 1), (i_282 : 0 ≤ k114_ce.toInt ∧ k114_ce.toInt ≤ 63), (i_283 : 0 ≤ k114_ho.toInt ∧ k114_ho.toInt ≤ 23), (i_284 : 0 ≤ k114_wy.toInt ∧ k114_wy.toInt ≤ 3), (i_285 : 0 ≤ k114_bt.toInt ∧ k114_bt.toInt ≤ 1000000), (i_286 : 0 ≤ k114_ps.toInt ∧ k114_ps.toInt ≤ 200), (i_287 : MI k114_ro), (i_288 : PTI k114_pt), (i_289 : ∀ j : Nat, j ≠ (81 + 5 * k91_8.toInt.toNat) → k114_ro j = v_ro j)⟩ ih_114_290
                            replace hl : lv_has ls 12 [(6, .int k114_6), (7, .int k114_7), (10, .int k114_10), (9, .int z276), (8, .int k91_8), (5, .int z237), (0, .ref b_o), (1, .int p_1), (2, .int p_2), (3, .int p_3), (4, .int p_4)] := hl
                            refine g5_rs [(b_se, (arJ G 13 k114_se)), (b_re, (arJ G 400 k114_re)), (b_pt, (arI G 200 k114_pt)), (b_tr, (arZ G 1536 k114_tr)), (b_ld, (arZ G 1536 k114_ld)), (b_o, (oc12 0 u_sa b_rf b_ro b_im b_ke u_fd b_tp u_td u_fr u_to u_so u_wo u_fa u_bd u_nc b_nl u_co b_op b_ar u_le b_pi b_pa u_pd u_od b_ws b_hw k114_la b_se b_re k114_bk k114_va k114_su k114_ce k114_ho k114_wy k114_bt k114_ps b_pt k114_tg k114_sn b_ip u_ic b_ah b_be b_me u_wd b_tr b_ld u_st b_wn u_id)), (b_ro, (arI G 5740 k114_ro))] hP hD ?_
                            clear hP hD
                            intro hP hD
                            refine lv_iload hx hb dX12_sooner_114 (lv_at hl 2 rfl) ?_
                            refine lv_bipush (v := 6) hx hb dX12_sooner_116 (by decide +kernel) ?_
                            refine lv_icmp_ge (tgt := 213) hx hb dX12_sooner_118 (by decide +kernel) (fun c_291 => ?_) (fun c_291 => ?_)
                            ·
                              have i_291 : k114_10.toInt ≥ 6 := g5_ge (a := k114_10.toInt) (b := 6) rfl (by decide +kernel) c_291
                              refine lv_aload_n hx hb dX12_sooner_213 rfl (lv_at hl 6 rfl) ?_
                              refine va_get (D := G.1) (ci := 12) (v := .ref b_ro) (C := RX12) (T := TX12) (N := 52) hx hb hts inG_X12 hown hK hP 5 rfl rfl 3 (by decide +kernel) (hts _ fl_X12_13) (fun _ h9 => h9) rfl dX12_sooner_214 ?_
                              refine lv_bipush (v := 80) hx hb dX12_sooner_217 (by decide +kernel) ?_
                              refine lv_iconst (v := 5) hx hb dX12_sooner_219 (by decide +kernel) ?_
                              refine W.eq (g2 := F0 m 220 ls [.int 5, .int 80, .ref b_ro]) rfl ?_
                              refine lv_iload hx hb dX12_sooner_220 (lv_at hl 4 rfl) ?_
                              refine lv_imul hx hb dX12_sooner_222 ?_
                              have t_292 : (5 * k91_8).toInt = 5 * k91_8.toInt := g5_imul (a := 5) (b := k91_8.toInt) (by decide +kernel) (by rfl) (by omega) (by omega)
                              refine lv_iadd hx hb dX12_sooner_223 ?_
                              have t_293 : (80 + (5 * k91_8)).toInt = 80 + (5 * k91_8).toInt := g5_iadd (a := 80) (b := (5 * k91_8).toInt) (by decide +kernel) (by rfl) (by omega) (by omega)
                              refine lv_iconst (v := 1) hx hb dX12_sooner_224 (by decide +kernel) ?_
                              refine lv_iadd hx hb dX12_sooner_225 ?_
                              have t_294 : ((80 + (5 * k91_8)) + 1).toInt = (80 + (5 * k91_8)).toInt + 1 := g5_iadd (a := (80 + (5 * k91_8)).toInt) (b := 1) (by rfl) (by decide +kernel) (by omega) (by omega)
                              refine W.eq (g2 := F0 m 226 ls [.int ((80 + (5 * k91_8)) + 1), .ref b_ro]) rfl ?_
                              refine lv_iload hx hb dX12_sooner_226 (lv_at hl 3 rfl) ?_
                              refine va_iast hx hb hK hP hD hS 6 0 rfl rfl (i := ((80 + (5 * k91_8)) + 1)) (x := z276) (vp_in_iff.mpr ⟨by omega, by omega⟩) dX12_sooner_228 ?_
                              clear hP hD hS
                              intro H locs hP hD hS
                              refine g5_rs [(b_se, (arJ G 13 k114_se)), (b_re, (arJ G 400 k114_re)), (b_pt, (arI G 200 k114_pt)), (b_tr, (arZ G 1536 k114_tr)), (b_ld, (arZ G 1536 k114_ld)), (b_o, (oc12 0 u_sa b_rf b_ro b_im b_ke u_fd b_tp u_td u_fr u_to u_so u_wo u_fa u_bd u_nc b_nl u_co b_op b_ar u_le b_pi b_pa u_pd u_od b_ws b_hw k114_la b_se b_re k114_bk k114_va k114_su k114_ce k114_ho k114_wy k114_bt k114_ps b_pt k114_tg k114_sn b_ip u_ic b_ah b_be b_me u_wd b_tr b_ld u_st b_wn u_id)), (b_ro, (arI G 5740 (upd k114_ro ((80 + (5 * k91_8)) + 1).toNatClampNeg z276)))] hP hD ?_
                              clear hP hD
                              intro hP hD
                              refine lv_iinc (v := (k91_8 + 1)) (lv' := [(8, .int (k91_8 + 1)), (6, .int k114_6), (7, .int k114_7), (10, .int k114_10), (9, .int z276), (5, .int z237), (0, .ref b_o), (1, .int p_1), (2, .int p_2), (3, .int p_3), (4, .int p_4)]) hx hb dX12_sooner_229 hl (k := 4) rfl rfl (by decide +kernel) rfl ?_
                              clear hl
                              intro ls hl
                              have t_295 : (k91_8 + 1).toInt = k91_8.toInt + 1 := g5_iadd (a := k91_8.toInt) (b := 1) rfl (by decide +kernel) (by omega) (by omega)
                              refine lv_goto (tgt := 91) hx hb dX12_sooner_232 (by decide +kernel) ?_
                              exact ih_91_268 ((k91_8 + 1), k114_7, k114_6, k114_la, k114_bk, k114_va, k114_su, k114_ce, k114_ho, k114_wy, k114_bt, k114_ps, k114_tg, k114_sn, (upd k114_ro ((80 + (5 * k91_8)) + 1).toNatClampNeg z276), k114_se, k114_re, k114_pt, k114_tr, k114_ld) ls H locs (show Int.toNat (6 - (k91_8 + 1).toInt) < Int.toNat (6 - k91_8.toInt) from g_up (show k91_8.toInt < (k91_8 + 1).toInt by omega) (show k91_8.toInt < 6 by omega)) ⟨lv_sub hl [1, 2, 0, 5, 6, 7, 8, 9, 10] rfl, hP.sub [5, 6, 0, 1, 2, 3, 4] rfl, hD.sub [5, 6, 0, 1, 2, 3, 4] (by decide +kernel) rfl, hS, ⟨by omega, by omega⟩, i_279, i_280, i_281, i_282, i_283, i_284, i_285, i_286, mi_upd i_287 (by have zz := g5_clamp ((80 + (5 * k91_8)) + 1); unfold rOK; refine ⟨?_, ?_, ?_, ?_, ?_, ?_, ?_, ?_, ?_, ?_, ?_, ?_, ?_, ?_, ?_, ?_, ?_, ?_, ?_, ?_, ?_, ?_, ?_⟩ <;> (intros; omega)) (by have zz := g5_clamp ((80 + (5 * k91_8)) + 1); omega) (by have zz := g5_clamp ((80 + (5 * k91_8)) + 1); omega) (by have zz := g5_clamp ((80 + (5 * k91_8)) + 1); omega) (by have zz := g5_clamp ((80 + (5 * k91_8)) + 1); omega) (by have zz := g5_clamp ((80 + (5 * k91_8)) + 1); omega), i_288, by rw [show ((80 + (5 * k91_8)) + 1).toNatClampNeg = (81 + 5 * k91_8.toInt.toNat) by have zz := g5_clamp ((80 + (5 * k91_8)) + 1); omega]; exact upd_but_self i_289 (by rw [i_275, i_267]; congr 1; omega)⟩
                            ·
                              have i_291 : k114_10.toInt < 6 := g5_geN (a := k114_10.toInt) (b := 6) rfl (by decide +kernel) c_291
                              refine lv_aload_n hx hb dX12_sooner_121 rfl (lv_at hl 6 rfl) ?_
                              refine va_get (D := G.1) (ci := 12) (v := .ref b_ro) (C := RX12) (T := TX12) (N := 52) hx hb hts inG_X12 hown hK hP 5 rfl rfl 3 (by decide +kernel) (hts _ fl_X12_13) (fun _ h9 => h9) rfl dX12_sooner_122 ?_
                              refine lv_bipush (v := 80) hx hb dX12_sooner_125 (by decide +kernel) ?_
                              refine lv_iconst (v := 5) hx hb dX12_sooner_127 (by decide +kernel) ?_
                              refine W.eq (g2 := F0 m 128 ls [.int 5, .int 80, .ref b_ro]) rfl ?_
                              refine lv_iload hx hb dX12_sooner_128 (lv_at hl 4 rfl) ?_
                              refine lv_imul hx hb dX12_sooner_130 ?_
                              have t_296 : (5 * k91_8).toInt = 5 * k91_8.toInt := g5_imul (a := 5) (b := k91_8.toInt) (by decide +kernel) (by rfl) (by omega) (by omega)
                              refine lv_iadd hx hb dX12_sooner_131 ?_
                              have t_297 : (80 + (5 * k91_8)).toInt = 80 + (5 * k91_8).toInt := g5_iadd (a := 80) (b := (5 * k91_8).toInt) (by decide +kernel) (by rfl) (by omega) (by omega)
                              refine lv_iconst (v := 1) hx hb dX12_sooner_132 (by decide +kernel) ?_
                              refine lv_iadd hx hb dX12_sooner_133 ?_
                              have t_298 : ((80 + (5 * k91_8)) + 1).toInt = (80 + (5 * k91_8)).toInt + 1 := g5_iadd (a := (80 + (5 * k91_8)).toInt) (b := 1) (by rfl) (by decide +kernel) (by omega) (by omega)
                              refine W.eq (g2 := F0 m 134 ls [.int ((80 + (5 * k91_8)) + 1), .ref b_ro]) rfl ?_
                              refine lv_iload hx hb dX12_sooner_134 (lv_at hl 2 rfl) ?_
                              refine va_iast hx hb hK hP hD hS 6 0 rfl rfl (i := ((80 + (5 * k91_8)) + 1)) (x := k114_10) (vp_in_iff.mpr ⟨by omega, by omega⟩) dX12_sooner_136 ?_
                              clear hP hD hS
                              intro H locs hP hD hS
                              refine g5_rs [(b_se, (arJ G 13 k114_se)), (b_re, (arJ G 400 k114_re)), (b_pt, (arI G 200 k114_pt)), (b_tr, (arZ G 1536 k114_tr)), (b_ld, (arZ G 1536 k114_ld)), (b_o, (oc12 0 u_sa b_rf b_ro b_im b_ke u_fd b_tp u_td u_fr u_to u_so u_wo u_fa u_bd u_nc b_nl u_co b_op b_ar u_le b_pi b_pa u_pd u_od b_ws b_hw k114_la b_se b_re k114_bk k114_va k114_su k114_ce k114_ho k114_wy k114_bt k114_ps b_pt k114_tg k114_sn b_ip u_ic b_ah b_be b_me u_wd b_tr b_ld u_st b_wn u_id)), (b_ro, (arI G 5740 (upd k114_ro ((80 + (5 * k91_8)) + 1).toNatClampNeg k114_10)))] hP hD ?_
                              clear hP hD
                              intro hP hD
                              have hmi_299 : MI (upd k114_ro ((80 + (5 * k91_8)) + 1).toNatClampNeg k114_10) := mi_upd i_287 (by have zz := g5_clamp ((80 + (5 * k91_8)) + 1); unfold rOK; refine ⟨?_, ?_, ?_, ?_, ?_, ?_, ?_, ?_, ?_, ?_, ?_, ?_, ?_, ?_, ?_, ?_, ?_, ?_, ?_, ?_, ?_, ?_, ?_⟩ <;> (intros; omega)) (by have zz := g5_clamp ((80 + (5 * k91_8)) + 1); omega) (by have zz := g5_clamp ((80 + (5 * k91_8)) + 1); omega) (by have zz := g5_clamp ((80 + (5 * k91_8)) + 1); omega) (by have zz := g5_clamp ((80 + (5 * k91_8)) + 1); omega) (by have zz := g5_clamp ((80 + (5 * k91_8)) + 1); omega)
                              refine lv_iload hx hb dX12_sooner_137 (lv_at hl 2 rfl) ?_
                              refine lv_iload hx hb dX12_sooner_139 (lv_at hl 3 rfl) ?_
                              refine lv_icmp_ne (tgt := 148) hx hb dX12_sooner_141 (by decide +kernel) (fun c_300 => ?_) (fun c_300 => ?_)
                              ·
                                have n_300 : gNe (k114_10.toInt) (z276.toInt) := g5_ne (a := k114_10.toInt) (b := z276.toInt) rfl rfl c_300
                                refine lv_aload_n hx hb dX12_sooner_148 rfl (lv_at hl 6 rfl) ?_
                                refine lv_iload_n hx hb dX12_sooner_149 rfl (lv_at hl 7 rfl) ?_
                                refine lv_iload_n hx hb dX12_sooner_150 rfl (lv_at hl 8 rfl) ?_
                                refine lv_iload_n hx hb dX12_sooner_151 rfl (lv_at hl 9 rfl) ?_
                                refine W.eq (g2 := F0 m 152 ls [.int p_3, .int p_2, .int p_1, .ref b_o]) rfl ?_
                                obtain ⟨hPc, hDc, hFc⟩ := g5_sub3 (wc := [(b_o, (oc12 0 u_sa b_rf b_ro b_im b_ke u_fd b_tp u_td u_fr u_to u_so u_wo u_fa u_bd u_nc b_nl u_co b_op b_ar u_le b_pi b_pa u_pd u_od b_ws b_hw k114_la b_se b_re k114_bk k114_va k114_su k114_ce k114_ho k114_wy k114_bt k114_ps b_pt k114_tg k114_sn b_ip u_ic b_ah b_be b_me u_wd b_tr b_ld u_st b_wn u_id)), (b_ro, (arI G 5740 (upd k114_ro ((80 + (5 * k91_8)) + 1).toNatClampNeg k114_10))), (b_se, (arJ G 13 k114_se)), (b_re, (arJ G 400 k114_re)), (b_pt, (arI G 200 k114_pt)), (b_tr, (arZ G 1536 k114_tr)), (b_ld, (arZ G 1536 k114_ld))]) hP hD hS hA [5, 6, 0, 1, 2, 3, 4] (by decide +kernel) rfl
                                refine va_calli (va_runV (As := [.int p_1, .int p_2, .int p_3]) (rest := []) ⟨hx, hb, hml, hown, hts⟩ (n_findSoonest l G b_o b_ro b_se b_re b_pt b_tr b_ld b_rf b_im b_ke b_tp b_nl b_op b_ar b_pi b_pa b_ws b_hw b_ip b_ah b_be b_me b_wn H.size 0 u_sa u_fd u_td u_fr u_to u_so u_fa u_bd u_nc u_co u_le u_pd u_od k114_la k114_bk k114_ce k114_ho k114_wy k114_bt k114_ps k114_tg k114_sn u_ic u_wd u_id p_1 p_2 p_3 u_wo k114_va k114_su u_st (upd k114_ro ((80 + (5 * k91_8)) + 1).toNatClampNeg k114_10) k114_se k114_re k114_pt k114_tr k114_ld h_u_td h_u_fr h_u_to h_u_bd h_u_nc h_u_co h_u_pd i_280 i_281 i_282 i_283 i_284 i_285 i_286 h_u_ic h_u_id i_3 i_5 (hmi_299) (i_288)) (cwV 3 hts gV_X12_466 rfl rfl rfl hv_X12_findSoonest ⟨Nat.le_of_ble_eq_true rfl, Nat.le_of_ble_eq_true rfl⟩) (g5_preV hPc hK hDc hN hT hS hFc (ci := 12) (q0 := 0) rfl rfl) rfl rfl hl.1 rfl (lv_room (Nat.le_of_ble_eq_true rfl)) dX12_sooner_152 ⟨Nat.le_of_ble_eq_true rfl, Nat.le_of_ble_eq_true rfl⟩) hS (fun q _ h => hFc q h) hFc (fun r u t H locs ht hvm hw hB hz1 hk1 hS => ?_)
                                obtain ⟨hP1, hD1⟩ := hB
                                have hP1 := g5_ht ht hP1
                                obtain ⟨z310, z311, z312, z313, z314, z315, z316, z317, z318, z319, z320, z321, z322, z323, z324, z325, z326, (i_301 : (-1) ≤ z310.toInt ∧ z310.toInt ≤ 23), (i_302 : 0 ≤ z311.toInt ∧ z311.toInt ≤ 4840), (i_303 : 0 ≤ z312.toInt ∧ z312.toInt ≤ 1), (i_304 : 0 ≤ z315.toInt ∧ z315.toInt ≤ 63), (i_305 : 0 ≤ z316.toInt ∧ z316.toInt ≤ 23), (i_306 : 0 ≤ z317.toInt ∧ z317.toInt ≤ 3), (i_307 : 0 ≤ z318.toInt ∧ z318.toInt ≤ 1000000), (i_308 : 0 ≤ z319.toInt ∧ z319.toInt ≤ 200), (i_309 : PTI z324), y327, rfl⟩ := hw
                                have hJ9 := va_join (wr := []) hP hD [5, 6, 0, 1, 2, 3, 4] [] rfl rfl (by decide +kernel) (by decide +kernel) hk1 hFc hP1 hD1
                                clear hP hD hPc hDc hFc ht hvm hz1 hk1 hP1 hD1
                                obtain ⟨hP, hD⟩ := hJ9
                                refine g5_rs [(b_o, (oc12 0 u_sa b_rf b_ro b_im b_ke u_fd b_tp u_td u_fr u_to u_so u_wo u_fa u_bd u_nc b_nl u_co b_op b_ar u_le b_pi b_pa u_pd u_od b_ws b_hw z311 b_se b_re z312 z313 z314 z315 z316 z317 z318 z319 b_pt z320 z321 b_ip u_ic b_ah b_be b_me u_wd b_tr b_ld u_st b_wn u_id)), (b_ro, (arI G 5740 (upd k114_ro ((80 + (5 * k91_8)) + 1).toNatClampNeg k114_10))), (b_se, (arJ G 13 z322)), (b_re, (arJ G 400 z323)), (b_pt, (arI G 200 z324)), (b_tr, (arZ G 1536 z325)), (b_ld, (arZ G 1536 z326))] hP hD ?_
                                clear hP hD
                                intro hP hD
                                refine g5_ti (v := z310) y327 ?_
                                refine lv_istore (lv' := [(11, .int z310), (6, .int k114_6), (7, .int k114_7), (10, .int k114_10), (9, .int z276), (8, .int k91_8), (5, .int z237), (0, .ref b_o), (1, .int p_1), (2, .int p_2), (3, .int p_3), (4, .int p_4)]) hx hb dX12_sooner_155 hl (by decide +kernel) rfl ?_
                                clear hl
                                intro ls hl
                                refine lv_iload hx hb dX12_sooner_157 (lv_at hl 0 rfl) ?_
                                refine lv_iconst (v := (-1)) hx hb dX12_sooner_159 (by decide +kernel) ?_
                                refine lv_icmp_eq (tgt := 181) hx hb dX12_sooner_160 (by decide +kernel) (fun c_328 => ?_) (fun c_328 => ?_)
                                ·
                                  have i_328 : z310.toInt = (-1) := g5_eq (a := z310.toInt) (b := (-1)) rfl (by decide +kernel) c_328
                                  refine lv_iload hx hb dX12_sooner_181 (lv_at hl 2 rfl) ?_
                                  refine lv_istore (lv' := [(7, .int k114_7), (11, .int z310), (6, .int k114_6), (10, .int k114_10), (9, .int z276), (8, .int k91_8), (5, .int z237), (0, .ref b_o), (1, .int p_1), (2, .int p_2), (3, .int p_3), (4, .int p_4)]) hx hb dX12_sooner_183 hl (by decide +kernel) rfl ?_
                                  clear hl
                                  intro ls hl
                                  refine lv_iload hx hb dX12_sooner_185 (lv_at hl 1 rfl) ?_
                                  refine lv_iconst (v := (-1)) hx hb dX12_sooner_187 (by decide +kernel) ?_
                                  refine W.eq (g2 := F0 m 188 ls [.int (-1), .int z310]) rfl ?_
                                  refine lv_icmp_eq (tgt := 203) hx hb dX12_sooner_188 (by decide +kernel) (fun c_329 => ?_) (fun c_329 => ?_)
                                  ·
                                    have i_329 : z310.toInt = (-1) := g5_eq (a := z310.toInt) (b := (-1)) rfl (by decide +kernel) c_329
                                    refine lv_iload hx hb dX12_sooner_203 (lv_at hl 2 rfl) ?_
                                    refine lv_istore (lv' := [(6, .int k114_6), (7, .int k114_7), (11, .int z310), (10, .int k114_10), (9, .int z276), (8, .int k91_8), (5, .int z237), (0, .ref b_o), (1, .int p_1), (2, .int p_2), (3, .int p_3), (4, .int p_4)]) hx hb dX12_sooner_205 hl (by decide +kernel) rfl ?_
                                    clear hl
                                    intro ls hl
                                    refine lv_iinc (v := (k114_10 + 1)) (lv' := [(10, .int (k114_10 + 1)), (6, .int k114_6), (7, .int k114_7), (11, .int z310), (9, .int z276), (8, .int k91_8), (5, .int z237), (0, .ref b_o), (1, .int p_1), (2, .int p_2), (3, .int p_3), (4, .int p_4)]) hx hb dX12_sooner_207 hl (k := 3) rfl rfl (by decide +kernel) rfl ?_
                                    clear hl
                                    intro ls hl
                                    have t_330 : (k114_10 + 1).toInt = k114_10.toInt + 1 := g5_iadd (a := k114_10.toInt) (b := 1) rfl (by decide +kernel) (by omega) (by omega)
                                    refine lv_goto (tgt := 114) hx hb dX12_sooner_210 (by decide +kernel) ?_
                                    exact ih_114_290 ((k114_10 + 1), k114_6, k114_7, z311, z312, z313, z314, z315, z316, z317, z318, z319, z320, z321, (upd k114_ro ((80 + (5 * k91_8)) + 1).toNatClampNeg k114_10), z322, z323, z324, z325, z326) ls H locs (show Int.toNat (6 - (k114_10 + 1).toInt) < Int.toNat (6 - k114_10.toInt) from g_up (show k114_10.toInt < (k114_10 + 1).toInt by omega) (show k114_10.toInt < 6 by omega)) ⟨lv_sub hl [1, 2, 0, 4, 5, 6, 7, 8, 9, 10, 11] rfl, hP.sub [2, 3, 4, 5, 6, 0, 1] rfl, hD.sub [2, 3, 4, 5, 6, 0, 1] (by decide +kernel) rfl, hS, ⟨by omega, by omega⟩, i_279, i_302, i_303, i_304, i_305, i_306, i_307, i_308, hmi_299, i_309, fun j hj => by rw [upd_ne (by rw [show ((80 + (5 * k91_8)) + 1).toNatClampNeg = (81 + 5 * k91_8.toInt.toNat) by have zz := g5_clamp ((80 + (5 * k91_8)) + 1); omega]; exact hj)]; exact i_289 j hj⟩
                                  ·
                                    have i_329 : z310.toInt ≠ (-1) := g5_eqN (a := z310.toInt) (b := (-1)) rfl (by decide +kernel) c_329
                                    omega
                                ·
                                  have n_328 : gNe (z310.toInt) ((-1)) := g5_eqN (a := z310.toInt) (b := (-1)) rfl (by decide +kernel) c_328
                                  have i_328 : z310.toInt ≥ 0 := by have z := g5_eqN (a := z310.toInt) (b := (-1)) (by rfl) (by decide +kernel) c_328; omega
                                  refine lv_iload hx hb dX12_sooner_163 (lv_at hl 0 rfl) ?_
                                  refine lv_iload hx hb dX12_sooner_165 (lv_at hl 1 rfl) ?_
                                  refine lv_icmp_ge (tgt := 181) hx hb dX12_sooner_167 (by decide +kernel) (fun c_331 => ?_) (fun c_331 => ?_)
                                  ·
                                    have i_331 : z310.toInt ≥ k114_6.toInt := g5_ge (a := z310.toInt) (b := k114_6.toInt) rfl rfl c_331
                                    refine lv_iload hx hb dX12_sooner_181 (lv_at hl 2 rfl) ?_
                                    refine lv_istore (lv' := [(7, .int k114_7), (11, .int z310), (6, .int k114_6), (10, .int k114_10), (9, .int z276), (8, .int k91_8), (5, .int z237), (0, .ref b_o), (1, .int p_1), (2, .int p_2), (3, .int p_3), (4, .int p_4)]) hx hb dX12_sooner_183 hl (by decide +kernel) rfl ?_
                                    clear hl
                                    intro ls hl
                                    refine lv_iload hx hb dX12_sooner_185 (lv_at hl 1 rfl) ?_
                                    refine lv_iconst (v := (-1)) hx hb dX12_sooner_187 (by decide +kernel) ?_
                                    refine W.eq (g2 := F0 m 188 ls [.int (-1), .int z310]) rfl ?_
                                    refine lv_icmp_eq (tgt := 203) hx hb dX12_sooner_188 (by decide +kernel) (fun c_332 => ?_) (fun c_332 => ?_)
                                    ·
                                      have i_332 : z310.toInt = (-1) := g5_eq (a := z310.toInt) (b := (-1)) rfl (by decide +kernel) c_332
                                      omega
                                    ·
                                      have n_332 : gNe (z310.toInt) ((-1)) := g5_eqN (a := z310.toInt) (b := (-1)) rfl (by decide +kernel) c_332
                                      refine lv_iload hx hb dX12_sooner_191 (lv_at hl 1 rfl) ?_
                                      refine lv_iload hx hb dX12_sooner_193 (lv_at hl 2 rfl) ?_
                                      refine lv_icmp_ge (tgt := 203) hx hb dX12_sooner_195 (by decide +kernel) (fun c_333 => ?_) (fun c_333 => ?_)
                                      ·
                                        have i_333 : z310.toInt ≥ k114_6.toInt := g5_ge (a := z310.toInt) (b := k114_6.toInt) rfl rfl c_333
                                        refine lv_iload hx hb dX12_sooner_203 (lv_at hl 2 rfl) ?_
                                        refine lv_istore (lv' := [(6, .int k114_6), (7, .int k114_7), (11, .int z310), (10, .int k114_10), (9, .int z276), (8, .int k91_8), (5, .int z237), (0, .ref b_o), (1, .int p_1), (2, .int p_2), (3, .int p_3), (4, .int p_4)]) hx hb dX12_sooner_205 hl (by decide +kernel) rfl ?_
                                        clear hl
                                        intro ls hl
                                        refine lv_iinc (v := (k114_10 + 1)) (lv' := [(10, .int (k114_10 + 1)), (6, .int k114_6), (7, .int k114_7), (11, .int z310), (9, .int z276), (8, .int k91_8), (5, .int z237), (0, .ref b_o), (1, .int p_1), (2, .int p_2), (3, .int p_3), (4, .int p_4)]) hx hb dX12_sooner_207 hl (k := 3) rfl rfl (by decide +kernel) rfl ?_
                                        clear hl
                                        intro ls hl
                                        have t_334 : (k114_10 + 1).toInt = k114_10.toInt + 1 := g5_iadd (a := k114_10.toInt) (b := 1) rfl (by decide +kernel) (by omega) (by omega)
                                        refine lv_goto (tgt := 114) hx hb dX12_sooner_210 (by decide +kernel) ?_
                                        exact ih_114_290 ((k114_10 + 1), k114_6, k114_7, z311, z312, z313, z314, z315, z316, z317, z318, z319, z320, z321, (upd k114_ro ((80 + (5 * k91_8)) + 1).toNatClampNeg k114_10), z322, z323, z324, z325, z326) ls H locs (show Int.toNat (6 - (k114_10 + 1).toInt) < Int.toNat (6 - k114_10.toInt) from g_up (show k114_10.toInt < (k114_10 + 1).toInt by omega) (show k114_10.toInt < 6 by omega)) ⟨lv_sub hl [1, 2, 0, 4, 5, 6, 7, 8, 9, 10, 11] rfl, hP.sub [2, 3, 4, 5, 6, 0, 1] rfl, hD.sub [2, 3, 4, 5, 6, 0, 1] (by decide +kernel) rfl, hS, ⟨by omega, by omega⟩, i_279, i_302, i_303, i_304, i_305, i_306, i_307, i_308, hmi_299, i_309, fun j hj => by rw [upd_ne (by rw [show ((80 + (5 * k91_8)) + 1).toNatClampNeg = (81 + 5 * k91_8.toInt.toNat) by have zz := g5_clamp ((80 + (5 * k91_8)) + 1); omega]; exact hj)]; exact i_289 j hj⟩
                                      ·
                                        have i_333 : z310.toInt < k114_6.toInt := g5_geN (a := z310.toInt) (b := k114_6.toInt) rfl rfl c_333
                                        refine lv_iload hx hb dX12_sooner_198 (lv_at hl 1 rfl) ?_
                                        refine lv_goto (tgt := 205) hx hb dX12_sooner_200 (by decide +kernel) ?_
                                        refine lv_istore (lv' := [(6, .int z310), (7, .int k114_7), (11, .int z310), (10, .int k114_10), (9, .int z276), (8, .int k91_8), (5, .int z237), (0, .ref b_o), (1, .int p_1), (2, .int p_2), (3, .int p_3), (4, .int p_4)]) hx hb dX12_sooner_205 hl (by decide +kernel) rfl ?_
                                        clear hl
                                        intro ls hl
                                        refine lv_iinc (v := (k114_10 + 1)) (lv' := [(10, .int (k114_10 + 1)), (6, .int z310), (7, .int k114_7), (11, .int z310), (9, .int z276), (8, .int k91_8), (5, .int z237), (0, .ref b_o), (1, .int p_1), (2, .int p_2), (3, .int p_3), (4, .int p_4)]) hx hb dX12_sooner_207 hl (k := 3) rfl rfl (by decide +kernel) rfl ?_
                                        clear hl
                                        intro ls hl
                                        have t_335 : (k114_10 + 1).toInt = k114_10.toInt + 1 := g5_iadd (a := k114_10.toInt) (b := 1) rfl (by decide +kernel) (by omega) (by omega)
                                        refine W.eq (g2 := F0 m 210 ls []) rfl ?_
                                        refine lv_goto (tgt := 114) hx hb dX12_sooner_210 (by decide +kernel) ?_
                                        exact ih_114_290 ((k114_10 + 1), z310, k114_7, z311, z312, z313, z314, z315, z316, z317, z318, z319, z320, z321, (upd k114_ro ((80 + (5 * k91_8)) + 1).toNatClampNeg k114_10), z322, z323, z324, z325, z326) ls H locs (show Int.toNat (6 - (k114_10 + 1).toInt) < Int.toNat (6 - k114_10.toInt) from g_up (show k114_10.toInt < (k114_10 + 1).toInt by omega) (show k114_10.toInt < 6 by omega)) ⟨lv_sub hl [1, 2, 0, 4, 5, 6, 7, 8, 9, 10, 11] rfl, hP.sub [2, 3, 4, 5, 6, 0, 1] rfl, hD.sub [2, 3, 4, 5, 6, 0, 1] (by decide +kernel) rfl, hS, ⟨by omega, by omega⟩, ⟨by omega, by omega⟩, i_302, i_303, i_304, i_305, i_306, i_307, i_308, hmi_299, i_309, fun j hj => by rw [upd_ne (by rw [show ((80 + (5 * k91_8)) + 1).toNatClampNeg = (81 + 5 * k91_8.toInt.toNat) by have zz := g5_clamp ((80 + (5 * k91_8)) + 1); omega]; exact hj)]; exact i_289 j hj⟩
                                  ·
                                    have i_331 : z310.toInt < k114_6.toInt := g5_geN (a := z310.toInt) (b := k114_6.toInt) rfl rfl c_331
                                    refine lv_bipush (v := 6) hx hb dX12_sooner_170 (by decide +kernel) ?_
                                    refine lv_iload hx hb dX12_sooner_172 (lv_at hl 5 rfl) ?_
                                    refine lv_imul hx hb dX12_sooner_174 ?_
                                    have t_336 : (6 * k91_8).toInt = 6 * k91_8.toInt := g5_imul (a := 6) (b := k91_8.toInt) (by decide +kernel) (by rfl) (by omega) (by omega)
                                    refine lv_iload hx hb dX12_sooner_175 (lv_at hl 3 rfl) ?_
                                    refine W.eq (g2 := F0 m 177 ls [.int k114_10, .int (6 * k91_8)]) rfl ?_
                                    refine lv_iadd hx hb dX12_sooner_177 ?_
                                    have t_337 : ((6 * k91_8) + k114_10).toInt = (6 * k91_8).toInt + k114_10.toInt := g5_iadd (a := (6 * k91_8).toInt) (b := k114_10.toInt) (by rfl) (by rfl) (by omega) (by omega)
                                    refine lv_goto (tgt := 183) hx hb dX12_sooner_178 (by decide +kernel) ?_
                                    refine lv_istore (lv' := [(7, .int ((6 * k91_8) + k114_10)), (11, .int z310), (6, .int k114_6), (10, .int k114_10), (9, .int z276), (8, .int k91_8), (5, .int z237), (0, .ref b_o), (1, .int p_1), (2, .int p_2), (3, .int p_3), (4, .int p_4)]) hx hb dX12_sooner_183 hl (by decide +kernel) rfl ?_
                                    clear hl
                                    intro ls hl
                                    refine lv_iload hx hb dX12_sooner_185 (lv_at hl 1 rfl) ?_
                                    refine lv_iconst (v := (-1)) hx hb dX12_sooner_187 (by decide +kernel) ?_
                                    refine W.eq (g2 := F0 m 188 ls [.int (-1), .int z310]) rfl ?_
                                    refine lv_icmp_eq (tgt := 203) hx hb dX12_sooner_188 (by decide +kernel) (fun c_338 => ?_) (fun c_338 => ?_)
                                    ·
                                      have i_338 : z310.toInt = (-1) := g5_eq (a := z310.toInt) (b := (-1)) rfl (by decide +kernel) c_338
                                      omega
                                    ·
                                      have n_338 : gNe (z310.toInt) ((-1)) := g5_eqN (a := z310.toInt) (b := (-1)) rfl (by decide +kernel) c_338
                                      refine lv_iload hx hb dX12_sooner_191 (lv_at hl 1 rfl) ?_
                                      refine lv_iload hx hb dX12_sooner_193 (lv_at hl 2 rfl) ?_
                                      refine lv_icmp_ge (tgt := 203) hx hb dX12_sooner_195 (by decide +kernel) (fun c_339 => ?_) (fun c_339 => ?_)
                                      ·
                                        have i_339 : z310.toInt ≥ k114_6.toInt := g5_ge (a := z310.toInt) (b := k114_6.toInt) rfl rfl c_339
                                        refine lv_iload hx hb dX12_sooner_203 (lv_at hl 2 rfl) ?_
                                        refine lv_istore (lv' := [(6, .int k114_6), (7, .int ((6 * k91_8) + k114_10)), (11, .int z310), (10, .int k114_10), (9, .int z276), (8, .int k91_8), (5, .int z237), (0, .ref b_o), (1, .int p_1), (2, .int p_2), (3, .int p_3), (4, .int p_4)]) hx hb dX12_sooner_205 hl (by decide +kernel) rfl ?_
                                        clear hl
                                        intro ls hl
                                        refine lv_iinc (v := (k114_10 + 1)) (lv' := [(10, .int (k114_10 + 1)), (6, .int k114_6), (7, .int ((6 * k91_8) + k114_10)), (11, .int z310), (9, .int z276), (8, .int k91_8), (5, .int z237), (0, .ref b_o), (1, .int p_1), (2, .int p_2), (3, .int p_3), (4, .int p_4)]) hx hb dX12_sooner_207 hl (k := 3) rfl rfl (by decide +kernel) rfl ?_
                                        clear hl
                                        intro ls hl
                                        have t_340 : (k114_10 + 1).toInt = k114_10.toInt + 1 := g5_iadd (a := k114_10.toInt) (b := 1) rfl (by decide +kernel) (by omega) (by omega)
                                        refine lv_goto (tgt := 114) hx hb dX12_sooner_210 (by decide +kernel) ?_
                                        exact ih_114_290 ((k114_10 + 1), k114_6, ((6 * k91_8) + k114_10), z311, z312, z313, z314, z315, z316, z317, z318, z319, z320, z321, (upd k114_ro ((80 + (5 * k91_8)) + 1).toNatClampNeg k114_10), z322, z323, z324, z325, z326) ls H locs (show Int.toNat (6 - (k114_10 + 1).toInt) < Int.toNat (6 - k114_10.toInt) from g_up (show k114_10.toInt < (k114_10 + 1).toInt by omega) (show k114_10.toInt < 6 by omega)) ⟨lv_sub hl [1, 2, 0, 4, 5, 6, 7, 8, 9, 10, 11] rfl, hP.sub [2, 3, 4, 5, 6, 0, 1] rfl, hD.sub [2, 3, 4, 5, 6, 0, 1] (by decide +kernel) rfl, hS, ⟨by omega, by omega⟩, i_279, i_302, i_303, i_304, i_305, i_306, i_307, i_308, hmi_299, i_309, fun j hj => by rw [upd_ne (by rw [show ((80 + (5 * k91_8)) + 1).toNatClampNeg = (81 + 5 * k91_8.toInt.toNat) by have zz := g5_clamp ((80 + (5 * k91_8)) + 1); omega]; exact hj)]; exact i_289 j hj⟩
                                      ·
                                        have i_339 : z310.toInt < k114_6.toInt := g5_geN (a := z310.toInt) (b := k114_6.toInt) rfl rfl c_339
                                        refine lv_iload hx hb dX12_sooner_198 (lv_at hl 1 rfl) ?_
                                        refine lv_goto (tgt := 205) hx hb dX12_sooner_200 (by decide +kernel) ?_
                                        refine lv_istore (lv' := [(6, .int z310), (7, .int ((6 * k91_8) + k114_10)), (11, .int z310), (10, .int k114_10), (9, .int z276), (8, .int k91_8), (5, .int z237), (0, .ref b_o), (1, .int p_1), (2, .int p_2), (3, .int p_3), (4, .int p_4)]) hx hb dX12_sooner_205 hl (by decide +kernel) rfl ?_
                                        clear hl
                                        intro ls hl
                                        refine lv_iinc (v := (k114_10 + 1)) (lv' := [(10, .int (k114_10 + 1)), (6, .int z310), (7, .int ((6 * k91_8) + k114_10)), (11, .int z310), (9, .int z276), (8, .int k91_8), (5, .int z237), (0, .ref b_o), (1, .int p_1), (2, .int p_2), (3, .int p_3), (4, .int p_4)]) hx hb dX12_sooner_207 hl (k := 3) rfl rfl (by decide +kernel) rfl ?_
                                        clear hl
                                        intro ls hl
                                        have t_341 : (k114_10 + 1).toInt = k114_10.toInt + 1 := g5_iadd (a := k114_10.toInt) (b := 1) rfl (by decide +kernel) (by omega) (by omega)
                                        refine W.eq (g2 := F0 m 210 ls []) rfl ?_
                                        refine lv_goto (tgt := 114) hx hb dX12_sooner_210 (by decide +kernel) ?_
                                        exact ih_114_290 ((k114_10 + 1), z310, ((6 * k91_8) + k114_10), z311, z312, z313, z314, z315, z316, z317, z318, z319, z320, z321, (upd k114_ro ((80 + (5 * k91_8)) + 1).toNatClampNeg k114_10), z322, z323, z324, z325, z326) ls H locs (show Int.toNat (6 - (k114_10 + 1).toInt) < Int.toNat (6 - k114_10.toInt) from g_up (show k114_10.toInt < (k114_10 + 1).toInt by omega) (show k114_10.toInt < 6 by omega)) ⟨lv_sub hl [1, 2, 0, 4, 5, 6, 7, 8, 9, 10, 11] rfl, hP.sub [2, 3, 4, 5, 6, 0, 1] rfl, hD.sub [2, 3, 4, 5, 6, 0, 1] (by decide +kernel) rfl, hS, ⟨by omega, by omega⟩, ⟨by omega, by omega⟩, i_302, i_303, i_304, i_305, i_306, i_307, i_308, hmi_299, i_309, fun j hj => by rw [upd_ne (by rw [show ((80 + (5 * k91_8)) + 1).toNatClampNeg = (81 + 5 * k91_8.toInt.toNat) by have zz := g5_clamp ((80 + (5 * k91_8)) + 1); omega]; exact hj)]; exact i_289 j hj⟩
                              ·
                                have i_300 : k114_10.toInt = z276.toInt := g5_neN (a := k114_10.toInt) (b := z276.toInt) rfl rfl c_300
                                refine lv_iconst (v := (-1)) hx hb dX12_sooner_144 (by decide +kernel) ?_
                                refine lv_goto (tgt := 155) hx hb dX12_sooner_145 (by decide +kernel) ?_
                                refine lv_istore (lv' := [(11, .int (-1)), (6, .int k114_6), (7, .int k114_7), (10, .int k114_10), (9, .int z276), (8, .int k91_8), (5, .int z237), (0, .ref b_o), (1, .int p_1), (2, .int p_2), (3, .int p_3), (4, .int p_4)]) hx hb dX12_sooner_155 hl (by decide +kernel) rfl ?_
                                clear hl
                                intro ls hl
                                refine lv_iload hx hb dX12_sooner_157 (lv_at hl 0 rfl) ?_
                                refine W.eq (g2 := F0 m 159 ls [.int (-1)]) rfl ?_
                                refine lv_iconst (v := (-1)) hx hb dX12_sooner_159 (by decide +kernel) ?_
                                refine lv_icmp_eq (tgt := 181) hx hb dX12_sooner_160 (by decide +kernel) (fun c_342 => ?_) (fun c_342 => ?_)
                                ·
                                  refine lv_iload hx hb dX12_sooner_181 (lv_at hl 2 rfl) ?_
                                  refine lv_istore (lv' := [(7, .int k114_7), (11, .int (-1)), (6, .int k114_6), (10, .int k114_10), (9, .int z276), (8, .int k91_8), (5, .int z237), (0, .ref b_o), (1, .int p_1), (2, .int p_2), (3, .int p_3), (4, .int p_4)]) hx hb dX12_sooner_183 hl (by decide +kernel) rfl ?_
                                  clear hl
                                  intro ls hl
                                  refine lv_iload hx hb dX12_sooner_185 (lv_at hl 1 rfl) ?_
                                  refine lv_iconst (v := (-1)) hx hb dX12_sooner_187 (by decide +kernel) ?_
                                  refine W.eq (g2 := F0 m 188 ls [.int (-1), .int (-1)]) rfl ?_
                                  refine lv_icmp_eq (tgt := 203) hx hb dX12_sooner_188 (by decide +kernel) (fun c_343 => ?_) (fun c_343 => ?_)
                                  ·
                                    refine lv_iload hx hb dX12_sooner_203 (lv_at hl 2 rfl) ?_
                                    refine lv_istore (lv' := [(6, .int k114_6), (7, .int k114_7), (11, .int (-1)), (10, .int k114_10), (9, .int z276), (8, .int k91_8), (5, .int z237), (0, .ref b_o), (1, .int p_1), (2, .int p_2), (3, .int p_3), (4, .int p_4)]) hx hb dX12_sooner_205 hl (by decide +kernel) rfl ?_
                                    clear hl
                                    intro ls hl
                                    refine lv_iinc (v := (k114_10 + 1)) (lv' := [(10, .int (k114_10 + 1)), (6, .int k114_6), (7, .int k114_7), (11, .int (-1)), (9, .int z276), (8, .int k91_8), (5, .int z237), (0, .ref b_o), (1, .int p_1), (2, .int p_2), (3, .int p_3), (4, .int p_4)]) hx hb dX12_sooner_207 hl (k := 3) rfl rfl (by decide +kernel) rfl ?_
                                    clear hl
                                    intro ls hl
                                    have t_344 : (k114_10 + 1).toInt = k114_10.toInt + 1 := g5_iadd (a := k114_10.toInt) (b := 1) rfl (by decide +kernel) (by omega) (by omega)
                                    refine lv_goto (tgt := 114) hx hb dX12_sooner_210 (by decide +kernel) ?_
                                    exact ih_114_290 ((k114_10 + 1), k114_6, k114_7, k114_la, k114_bk, k114_va, k114_su, k114_ce, k114_ho, k114_wy, k114_bt, k114_ps, k114_tg, k114_sn, (upd k114_ro ((80 + (5 * k91_8)) + 1).toNatClampNeg k114_10), k114_se, k114_re, k114_pt, k114_tr, k114_ld) ls H locs (show Int.toNat (6 - (k114_10 + 1).toInt) < Int.toNat (6 - k114_10.toInt) from g_up (show k114_10.toInt < (k114_10 + 1).toInt by omega) (show k114_10.toInt < 6 by omega)) ⟨lv_sub hl [1, 2, 0, 4, 5, 6, 7, 8, 9, 10, 11] rfl, hP, hD, hS, ⟨by omega, by omega⟩, i_279, i_280, i_281, i_282, i_283, i_284, i_285, i_286, hmi_299, i_288, fun j hj => by rw [upd_ne (by rw [show ((80 + (5 * k91_8)) + 1).toNatClampNeg = (81 + 5 * k91_8.toInt.toNat) by have zz := g5_clamp ((80 + (5 * k91_8)) + 1); omega]; exact hj)]; exact i_289 j hj⟩
                                  ·
                                    exact absurd c_343 (by decide +kernel)
                                ·
                                  exact absurd c_342 (by decide +kernel)
                        ·
                          have i_255 : z237.toInt = (-1) := g5_neN (a := z237.toInt) (b := (-1)) rfl (by decide +kernel) c_255
                          refine lv_bipush (v := 24) hx hb dX12_sooner_76 (by decide +kernel) ?_
                          refine lv_goto (tgt := 83) hx hb dX12_sooner_78 (by decide +kernel) ?_
                          refine lv_istore (lv' := [(6, .int 24), (5, .int z237), (0, .ref b_o), (1, .int p_1), (2, .int p_2), (3, .int p_3), (4, .int p_4)]) hx hb dX12_sooner_83 hl (by decide +kernel) rfl ?_
                          clear hl
                          intro ls hl
                          refine lv_iconst (v := (-1)) hx hb dX12_sooner_85 (by decide +kernel) ?_
                          refine W.eq (g2 := F0 m 86 ls [.int (-1)]) rfl ?_
                          refine lv_istore (lv' := [(7, .int (-1)), (6, .int 24), (5, .int z237), (0, .ref b_o), (1, .int p_1), (2, .int p_2), (3, .int p_3), (4, .int p_4)]) hx hb dX12_sooner_86 hl (by decide +kernel) rfl ?_
                          clear hl
                          intro ls hl
                          refine lv_iconst (v := 0) hx hb dX12_sooner_88 (by decide +kernel) ?_
                          refine lv_istore (lv' := [(8, .int 0), (7, .int (-1)), (6, .int 24), (5, .int z237), (0, .ref b_o), (1, .int p_1), (2, .int p_2), (3, .int p_3), (4, .int p_4)]) hx hb dX12_sooner_89 hl (by decide +kernel) rfl ?_
                          clear hl
                          intro ls hl
                          refine g5_loop (α := (Int32) × (Int32) × (Int32) × (Int32) × (Int32) × (Int64) × (Int64) × (Int32) × (Int32) × (Int32) × (Int32) × (Int32) × (Int32) × (Int32) × (Nat → Int32) × (Nat → Int64) × (Nat → Int64) × (Nat → Int32) × (Nat → Int32) × (Nat → Int32)) (fun (q : (Int32) × (Int32) × (Int32) × (Int32) × (Int32) × (Int64) × (Int64) × (Int32) × (Int32) × (Int32) × (Int32) × (Int32) × (Int32) × (Int32) × (Nat → Int32) × (Nat → Int64) × (Nat → Int64) × (Nat → Int32) × (Nat → Int32) × (Nat → Int32)) (ls : Array Slot) (H : Heap) (locs : List Loc) => match q with | (k91_8, k91_7, k91_6, k91_la, k91_bk, k91_va, k91_su, k91_ce, k91_ho, k91_wy, k91_bt, k91_ps, k91_tg, k91_sn, k91_ro, k91_se, k91_re, k91_pt, k91_tr, k91_ld) => lv_has ls 12 [(6, .int k91_6), (7, .int k91_7), (8, .int k91_8), (5, .int z237), (0, .ref b_o), (1, .int p_1), (2, .int p_2), (3, .int p_3), (4, .int p_4)] ∧ va_P G.1 vwCl [(b_o, (oc12 0 u_sa b_rf b_ro b_im b_ke u_fd b_tp u_td u_fr u_to u_so u_wo u_fa u_bd u_nc b_nl u_co b_op b_ar u_le b_pi b_pa u_pd u_od b_ws b_hw k91_la b_se b_re k91_bk k91_va k91_su k91_ce k91_ho k91_wy k91_bt k91_ps b_pt k91_tg k91_sn b_ip u_ic b_ah b_be b_me u_wd b_tr b_ld u_st b_wn u_id)), (b_ro, (arI G 5740 k91_ro)), (b_se, (arJ G 13 k91_se)), (b_re, (arJ G 400 k91_re)), (b_pt, (arI G 200 k91_pt)), (b_tr, (arZ G 1536 k91_tr)), (b_ld, (arZ G 1536 k91_ld))] H ∧ va_D A [(b_o, (oc12 0 u_sa b_rf b_ro b_im b_ke u_fd b_tp u_td u_fr u_to u_so u_wo u_fa u_bd u_nc b_nl u_co b_op b_ar u_le b_pi b_pa u_pd u_od b_ws b_hw k91_la b_se b_re k91_bk k91_va k91_su k91_ce k91_ho k91_wy k91_bt k91_ps b_pt k91_tg k91_sn b_ip u_ic b_ah b_be b_me u_wd b_tr b_ld u_st b_wn u_id)), (b_ro, (arI G 5740 k91_ro)), (b_se, (arJ G 13 k91_se)), (b_re, (arJ G 400 k91_re)), (b_pt, (arI G 200 k91_pt)), (b_tr, (arZ G 1536 k91_tr)), (b_ld, (arZ G 1536 k91_ld))] ∧ va_S A s.heap H locs ∧ (0 ≤ k91_8.toInt ∧ k91_8.toInt ≤ 6) ∧ (0 ≤ k91_6.toInt ∧ k91_6.toInt ≤ 24) ∧ (0 ≤ k91_la.toInt ∧ k91_la.toInt ≤ 4840) ∧ (0 ≤ k91_bk.toInt ∧ k91_bk.toInt ≤ 1) ∧ (0 ≤ k91_ce.toInt ∧ k91_ce.toInt ≤ 63) ∧ (0 ≤ k91_ho.toInt ∧ k91_ho.toInt ≤ 23) ∧ (0 ≤ k91_wy.toInt ∧ k91_wy.toInt ≤ 3) ∧ (0 ≤ k91_bt.toInt ∧ k91_bt.toInt ≤ 1000000) ∧ (0 ≤ k91_ps.toInt ∧ k91_ps.toInt ≤ 200) ∧ (MI k91_ro) ∧ (PTI k91_pt) ∧ (k91_ro = v_ro)) (fun (q : (Int32) × (Int32) × (Int32) × (Int32) × (Int32) × (Int64) × (Int64) × (Int32) × (Int32) × (Int32) × (Int32) × (Int32) × (Int32) × (Int32) × (Nat → Int32) × (Nat → Int64) × (Nat → Int64) × (Nat → Int32) × (Nat → Int32) × (Nat → Int32)) => match q with | (k91_8, k91_7, k91_6, k91_la, k91_bk, k91_va, k91_su, k91_ce, k91_ho, k91_wy, k91_bt, k91_ps, k91_tg, k91_sn, k91_ro, k91_se, k91_re, k91_pt, k91_tr, k91_ld) => Int.toNat (6 - k91_8.toInt)) (0, (-1), 24, z238, z239, z240, z241, z242, z243, z244, z245, z246, z247, z248, v_ro, z249, z250, z251, z252, z253) ⟨lv_sub hl [2, 1, 0, 3, 4, 5, 6, 7, 8] rfl, hP, hD, hS, ⟨by decide, by decide⟩, ⟨by decide, by decide⟩, i_229, i_230, i_231, i_232, i_233, i_234, i_235, r_ro, i_236, rfl⟩ ?_
                          rintro ⟨k91_8, k91_7, k91_6, k91_la, k91_bk, k91_va, k91_su, k91_ce, k91_ho, k91_wy, k91_bt, k91_ps, k91_tg, k91_sn, k91_ro, k91_se, k91_re, k91_pt, k91_tr, k91_ld⟩ ls H locs ⟨hl, hP, hD, hS, (i_345 : 0 ≤ k91_8.toInt ∧ k91_8.toInt ≤ 6), (i_346 : 0 ≤ k91_6.toInt ∧ k91_6.toInt ≤ 24), (i_347 : 0 ≤ k91_la.toInt ∧ k91_la.toInt ≤ 4840), (i_348 : 0 ≤ k91_bk.toInt ∧ k91_bk.toInt ≤ 1), (i_349 : 0 ≤ k91_ce.toInt ∧ k91_ce.toInt ≤ 63), (i_350 : 0 ≤ k91_ho.toInt ∧ k91_ho.toInt ≤ 23), (i_351 : 0 ≤ k91_wy.toInt ∧ k91_wy.toInt ≤ 3), (i_352 : 0 ≤ k91_bt.toInt ∧ k91_bt.toInt ≤ 1000000), (i_353 : 0 ≤ k91_ps.toInt ∧ k91_ps.toInt ≤ 200), (i_354 : MI k91_ro), (i_355 : PTI k91_pt), (i_356 : k91_ro = v_ro)⟩ ih_91_357
                          replace hl : lv_has ls 12 [(6, .int k91_6), (7, .int k91_7), (8, .int k91_8), (5, .int z237), (0, .ref b_o), (1, .int p_1), (2, .int p_2), (3, .int p_3), (4, .int p_4)] := hl
                          refine g5_rs [(b_o, (oc12 0 u_sa b_rf b_ro b_im b_ke u_fd b_tp u_td u_fr u_to u_so u_wo u_fa u_bd u_nc b_nl u_co b_op b_ar u_le b_pi b_pa u_pd u_od b_ws b_hw k91_la b_se b_re k91_bk k91_va k91_su k91_ce k91_ho k91_wy k91_bt k91_ps b_pt k91_tg k91_sn b_ip u_ic b_ah b_be b_me u_wd b_tr b_ld u_st b_wn u_id)), (b_ro, (arI G 5740 k91_ro)), (b_se, (arJ G 13 k91_se)), (b_re, (arJ G 400 k91_re)), (b_pt, (arI G 200 k91_pt)), (b_tr, (arZ G 1536 k91_tr)), (b_ld, (arZ G 1536 k91_ld))] hP hD ?_
                          clear hP hD
                          intro hP hD
                          refine lv_iload hx hb dX12_sooner_91 (lv_at hl 2 rfl) ?_
                          refine lv_aload_n hx hb dX12_sooner_93 rfl (lv_at hl 4 rfl) ?_
                          refine va_get (D := G.1) (ci := 12) (v := .ref b_ro) (C := RX12) (T := TX12) (N := 52) hx hb hts inG_X12 hown hK hP 0 rfl rfl 3 (by decide +kernel) (hts _ fl_X12_13) (fun _ h9 => h9) rfl dX12_sooner_94 ?_
                          refine lv_iconst (v := 0) hx hb dX12_sooner_97 (by decide +kernel) ?_
                          refine W.eq (g2 := F0 m 98 ls [.int 0, .ref b_ro, .int k91_8]) rfl ?_
                          refine va_iald hx hb hK hP 1 0 rfl rfl (i := 0) (by unfold vp_in; decide) dX12_sooner_98 ?_
                          refine g5_ti (v := (k91_ro 0)) rfl ?_
                          have hr_358 : 0 ≤ (k91_ro 0).toInt ∧ (k91_ro 0).toInt ≤ 6 := mi_0 i_354
                          refine lv_icmp_ge (tgt := 235) hx hb dX12_sooner_99 (by decide +kernel) (fun c_359 => ?_) (fun c_359 => ?_)
                          ·
                            have i_359 : k91_8.toInt ≥ (k91_ro 0).toInt := g5_ge (a := k91_8.toInt) (b := (k91_ro 0).toInt) rfl rfl c_359
                            refine lv_iload hx hb dX12_sooner_235 (lv_at hl 1 rfl) ?_
                            refine lv_iconst (v := (-1)) hx hb dX12_sooner_237 (by decide +kernel) ?_
                            refine lv_icmp_ne (tgt := 245) hx hb dX12_sooner_238 (by decide +kernel) (fun c_360 => ?_) (fun c_360 => ?_)
                            ·
                              have n_360 : gNe (k91_7.toInt) ((-1)) := g5_ne (a := k91_7.toInt) (b := (-1)) rfl (by decide +kernel) c_360
                              refine lv_iload hx hb dX12_sooner_245 (lv_at hl 8 rfl) ?_
                              refine lv_if_ne (tgt := 255) hx hb dX12_sooner_247 (by decide +kernel) (fun c_361 => ?_) (fun c_361 => ?_)
                              ·
                                have n_361 : gNe (p_4.toInt) (0) := g5_ne (a := p_4.toInt) (b := 0) rfl (by decide +kernel) c_361
                                have i_361 : p_4.toInt ≥ 1 := by have z := g5_ne (a := p_4.toInt) (b := 0) (by rfl) (by decide +kernel) c_361; omega
                                refine lv_iload hx hb dX12_sooner_255 (lv_at hl 8 rfl) ?_
                                refine lv_iconst (v := 1) hx hb dX12_sooner_257 (by decide +kernel) ?_
                                refine lv_icmp_ne (tgt := 269) hx hb dX12_sooner_258 (by decide +kernel) (fun c_362 => ?_) (fun c_362 => ?_)
                                ·
                                  have n_362 : gNe (p_4.toInt) (1) := g5_ne (a := p_4.toInt) (b := 1) rfl (by decide +kernel) c_362
                                  have i_362 : p_4.toInt ≥ 2 := by have z := g5_ne (a := p_4.toInt) (b := 1) (by rfl) (by decide +kernel) c_362; omega
                                  refine lv_iload hx hb dX12_sooner_269 (lv_at hl 1 rfl) ?_
                                  refine lv_bipush (v := 6) hx hb dX12_sooner_271 (by decide +kernel) ?_
                                  refine lv_irem hx hb dX12_sooner_273 (by decide +kernel) ?_
                                  exact W.iret (v := (k91_7 - k91_7 / 6 * 6)) hx hb hr (fun t ht hW => ⟨⟨(k91_7 - k91_7 / 6 * 6), [(b_o, (oc12 0 u_sa b_rf b_ro b_im b_ke u_fd b_tp u_td u_fr u_to u_so u_wo u_fa u_bd u_nc b_nl u_co b_op b_ar u_le b_pi b_pa u_pd u_od b_ws b_hw k91_la b_se b_re k91_bk k91_va k91_su k91_ce k91_ho k91_wy k91_bt k91_ps b_pt k91_tg k91_sn b_ip u_ic b_ah b_be b_me u_wd b_tr b_ld u_st b_wn u_id)), (b_ro, (arI G 5740 k91_ro)), (b_se, (arJ G 13 k91_se)), (b_re, (arJ G 400 k91_re)), (b_pt, (arI G 200 k91_pt)), (b_tr, (arZ G 1536 k91_tr)), (b_ld, (arZ G 1536 k91_ld))], rfl, ⟨(k91_7 - k91_7 / 6 * 6), 0, k91_la, k91_bk, k91_va, k91_su, k91_ce, k91_ho, k91_wy, k91_bt, k91_ps, k91_tg, k91_sn, k91_ro, k91_se, k91_re, k91_pt, k91_tr, k91_ld, i_354, i_347, i_348, i_349, i_350, i_351, i_352, i_353, i_355, i_356, rfl, rfl⟩, by rw [ht]; exact hP.sub [0, 1, 2, 3, 4, 5, 6] rfl, hD.sub [0, 1, 2, 3, 4, 5, 6] (by decide +kernel) rfl⟩, hS.F ht⟩) hS.2.2 dX12_sooner_274
                                ·
                                  have i_362 : p_4.toInt = 1 := g5_neN (a := p_4.toInt) (b := 1) rfl (by decide +kernel) c_362
                                  refine lv_iload hx hb dX12_sooner_261 (lv_at hl 1 rfl) ?_
                                  refine lv_bipush (v := 6) hx hb dX12_sooner_263 (by decide +kernel) ?_
                                  refine lv_idiv hx hb dX12_sooner_265 (by decide +kernel) ?_
                                  refine lv_goto (tgt := 274) hx hb dX12_sooner_266 (by decide +kernel) ?_
                                  refine W.eq (g2 := F0 m 274 ls [.int (k91_7 / 6)]) rfl ?_
                                  exact W.iret (v := (k91_7 / 6)) hx hb hr (fun t ht hW => ⟨⟨(k91_7 / 6), [(b_o, (oc12 0 u_sa b_rf b_ro b_im b_ke u_fd b_tp u_td u_fr u_to u_so u_wo u_fa u_bd u_nc b_nl u_co b_op b_ar u_le b_pi b_pa u_pd u_od b_ws b_hw k91_la b_se b_re k91_bk k91_va k91_su k91_ce k91_ho k91_wy k91_bt k91_ps b_pt k91_tg k91_sn b_ip u_ic b_ah b_be b_me u_wd b_tr b_ld u_st b_wn u_id)), (b_ro, (arI G 5740 k91_ro)), (b_se, (arJ G 13 k91_se)), (b_re, (arJ G 400 k91_re)), (b_pt, (arI G 200 k91_pt)), (b_tr, (arZ G 1536 k91_tr)), (b_ld, (arZ G 1536 k91_ld))], rfl, ⟨(k91_7 / 6), 0, k91_la, k91_bk, k91_va, k91_su, k91_ce, k91_ho, k91_wy, k91_bt, k91_ps, k91_tg, k91_sn, k91_ro, k91_se, k91_re, k91_pt, k91_tr, k91_ld, i_354, i_347, i_348, i_349, i_350, i_351, i_352, i_353, i_355, i_356, rfl, rfl⟩, by rw [ht]; exact hP.sub [0, 1, 2, 3, 4, 5, 6] rfl, hD.sub [0, 1, 2, 3, 4, 5, 6] (by decide +kernel) rfl⟩, hS.F ht⟩) hS.2.2 dX12_sooner_274
                              ·
                                have i_361 : p_4.toInt = 0 := g5_neN (a := p_4.toInt) (b := 0) rfl (by decide +kernel) c_361
                                refine lv_iload hx hb dX12_sooner_250 (lv_at hl 0 rfl) ?_
                                refine lv_goto (tgt := 274) hx hb dX12_sooner_252 (by decide +kernel) ?_
                                exact W.iret (v := k91_6) hx hb hr (fun t ht hW => ⟨⟨k91_6, [(b_o, (oc12 0 u_sa b_rf b_ro b_im b_ke u_fd b_tp u_td u_fr u_to u_so u_wo u_fa u_bd u_nc b_nl u_co b_op b_ar u_le b_pi b_pa u_pd u_od b_ws b_hw k91_la b_se b_re k91_bk k91_va k91_su k91_ce k91_ho k91_wy k91_bt k91_ps b_pt k91_tg k91_sn b_ip u_ic b_ah b_be b_me u_wd b_tr b_ld u_st b_wn u_id)), (b_ro, (arI G 5740 k91_ro)), (b_se, (arJ G 13 k91_se)), (b_re, (arJ G 400 k91_re)), (b_pt, (arI G 200 k91_pt)), (b_tr, (arZ G 1536 k91_tr)), (b_ld, (arZ G 1536 k91_ld))], rfl, ⟨k91_6, 0, k91_la, k91_bk, k91_va, k91_su, k91_ce, k91_ho, k91_wy, k91_bt, k91_ps, k91_tg, k91_sn, k91_ro, k91_se, k91_re, k91_pt, k91_tr, k91_ld, i_354, i_347, i_348, i_349, i_350, i_351, i_352, i_353, i_355, i_356, rfl, rfl⟩, by rw [ht]; exact hP.sub [0, 1, 2, 3, 4, 5, 6] rfl, hD.sub [0, 1, 2, 3, 4, 5, 6] (by decide +kernel) rfl⟩, hS.F ht⟩) hS.2.2 dX12_sooner_274
                            ·
                              have i_360 : k91_7.toInt = (-1) := g5_neN (a := k91_7.toInt) (b := (-1)) rfl (by decide +kernel) c_360
                              refine lv_iconst (v := (-1)) hx hb dX12_sooner_241 (by decide +kernel) ?_
                              refine lv_goto (tgt := 274) hx hb dX12_sooner_242 (by decide +kernel) ?_
                              exact W.iret (v := (-1)) hx hb hr (fun t ht hW => ⟨⟨(-1), [(b_o, (oc12 0 u_sa b_rf b_ro b_im b_ke u_fd b_tp u_td u_fr u_to u_so u_wo u_fa u_bd u_nc b_nl u_co b_op b_ar u_le b_pi b_pa u_pd u_od b_ws b_hw k91_la b_se b_re k91_bk k91_va k91_su k91_ce k91_ho k91_wy k91_bt k91_ps b_pt k91_tg k91_sn b_ip u_ic b_ah b_be b_me u_wd b_tr b_ld u_st b_wn u_id)), (b_ro, (arI G 5740 k91_ro)), (b_se, (arJ G 13 k91_se)), (b_re, (arJ G 400 k91_re)), (b_pt, (arI G 200 k91_pt)), (b_tr, (arZ G 1536 k91_tr)), (b_ld, (arZ G 1536 k91_ld))], rfl, ⟨(-1), 0, k91_la, k91_bk, k91_va, k91_su, k91_ce, k91_ho, k91_wy, k91_bt, k91_ps, k91_tg, k91_sn, k91_ro, k91_se, k91_re, k91_pt, k91_tr, k91_ld, i_354, i_347, i_348, i_349, i_350, i_351, i_352, i_353, i_355, i_356, rfl, rfl⟩, by rw [ht]; exact hP.sub [0, 1, 2, 3, 4, 5, 6] rfl, hD.sub [0, 1, 2, 3, 4, 5, 6] (by decide +kernel) rfl⟩, hS.F ht⟩) hS.2.2 dX12_sooner_274
                          ·
                            have i_359 : k91_8.toInt < (k91_ro 0).toInt := g5_geN (a := k91_8.toInt) (b := (k91_ro 0).toInt) rfl rfl c_359
                            refine lv_aload_n hx hb dX12_sooner_102 rfl (lv_at hl 4 rfl) ?_
                            refine lv_iload hx hb dX12_sooner_103 (lv_at hl 2 rfl) ?_
                            refine lv_iconst (v := 1) hx hb dX12_sooner_105 (by decide +kernel) ?_
                            obtain ⟨hPc, hDc, hFc⟩ := g5_sub3 (wc := [(b_o, (oc12 0 u_sa b_rf b_ro b_im b_ke u_fd b_tp u_td u_fr u_to u_so u_wo u_fa u_bd u_nc b_nl u_co b_op b_ar u_le b_pi b_pa u_pd u_od b_ws b_hw k91_la b_se b_re k91_bk k91_va k91_su k91_ce k91_ho k91_wy k91_bt k91_ps b_pt k91_tg k91_sn b_ip u_ic b_ah b_be b_me u_wd b_tr b_ld u_st b_wn u_id)), (b_ro, (arI G 5740 k91_ro))]) hP hD hS hA [0, 1] (by decide +kernel) rfl
                            refine va_calli (va_runV (As := [.int k91_8, .int 1]) (rest := []) ⟨hx, hb, hml, hown, hts⟩ (n_ofGlass1S l G b_o b_ro b_rf b_im b_ke b_tp b_nl b_op b_ar b_pi b_pa b_ws b_hw b_se b_re b_pt b_ip b_ah b_be b_me b_tr b_ld b_wn H.size 0 u_sa u_fd u_td u_fr u_to u_so u_fa u_bd u_nc u_co u_le u_pd u_od k91_la k91_bk k91_ce k91_ho k91_wy k91_bt k91_ps k91_tg k91_sn u_ic u_wd u_id k91_8 u_wo k91_va k91_su u_st k91_ro h_u_td h_u_fr h_u_to h_u_bd h_u_nc h_u_co h_u_pd i_347 i_348 i_349 i_350 i_351 i_352 i_353 h_u_ic h_u_id ⟨by omega, by omega⟩ (i_354)) (cwV 2 hts gV_X12_134 rfl rfl rfl hv_X12_ofGlass ⟨Nat.le_of_ble_eq_true rfl, Nat.le_of_ble_eq_true rfl⟩) (g5_preV hPc hK hDc hN hT hS hFc (ci := 12) (q0 := 0) rfl rfl) rfl rfl hl.1 rfl (lv_room (Nat.le_of_ble_eq_true rfl)) dX12_sooner_106 ⟨Nat.le_of_ble_eq_true rfl, Nat.le_of_ble_eq_true rfl⟩) hS (fun q _ h => hFc q h) hFc (fun r u t H locs ht hvm hw hB hz1 hk1 hS => ?_)
                            obtain ⟨hP1, hD1⟩ := hB
                            have hP1 := g5_ht ht hP1
                            obtain ⟨z365, (i_363 : 0 ≤ z365.toInt ∧ z365.toInt ≤ 5), (i_364 : z365 = k91_ro (80 + 5 * k91_8.toInt.toNat + 1)), y366, rfl⟩ := hw
                            have hJ9 := va_join (wr := [(b_se, (arJ G 13 k91_se)), (b_re, (arJ G 400 k91_re)), (b_pt, (arI G 200 k91_pt)), (b_tr, (arZ G 1536 k91_tr)), (b_ld, (arZ G 1536 k91_ld))]) hP hD [0, 1] [2, 3, 4, 5, 6] rfl rfl (by decide +kernel) (by decide +kernel) hk1 hFc hP1 hD1
                            clear hP hD hPc hDc hFc ht hvm hz1 hk1 hP1 hD1
                            obtain ⟨hP, hD⟩ := hJ9
                            refine g5_rs [(b_se, (arJ G 13 k91_se)), (b_re, (arJ G 400 k91_re)), (b_pt, (arI G 200 k91_pt)), (b_tr, (arZ G 1536 k91_tr)), (b_ld, (arZ G 1536 k91_ld)), (b_o, (oc12 0 u_sa b_rf b_ro b_im b_ke u_fd b_tp u_td u_fr u_to u_so u_wo u_fa u_bd u_nc b_nl u_co b_op b_ar u_le b_pi b_pa u_pd u_od b_ws b_hw k91_la b_se b_re k91_bk k91_va k91_su k91_ce k91_ho k91_wy k91_bt k91_ps b_pt k91_tg k91_sn b_ip u_ic b_ah b_be b_me u_wd b_tr b_ld u_st b_wn u_id)), (b_ro, (arI G 5740 k91_ro))] hP hD ?_
                            clear hP hD
                            intro hP hD
                            refine g5_ti (v := z365) y366 ?_
                            refine W.eq (g2 := F0 m 109 ls [.int z365]) rfl ?_
                            refine lv_istore (lv' := [(9, .int z365), (6, .int k91_6), (7, .int k91_7), (8, .int k91_8), (5, .int z237), (0, .ref b_o), (1, .int p_1), (2, .int p_2), (3, .int p_3), (4, .int p_4)]) hx hb dX12_sooner_109 hl (by decide +kernel) rfl ?_
                            clear hl
                            intro ls hl
                            refine lv_iconst (v := 0) hx hb dX12_sooner_111 (by decide +kernel) ?_
                            refine lv_istore (lv' := [(10, .int 0), (9, .int z365), (6, .int k91_6), (7, .int k91_7), (8, .int k91_8), (5, .int z237), (0, .ref b_o), (1, .int p_1), (2, .int p_2), (3, .int p_3), (4, .int p_4)]) hx hb dX12_sooner_112 hl (by decide +kernel) rfl ?_
                            clear hl
                            intro ls hl
                            refine g5_loop (α := (Int32) × (Int32) × (Int32) × (Int32) × (Int32) × (Int64) × (Int64) × (Int32) × (Int32) × (Int32) × (Int32) × (Int32) × (Int32) × (Int32) × (Nat → Int32) × (Nat → Int64) × (Nat → Int64) × (Nat → Int32) × (Nat → Int32) × (Nat → Int32)) (fun (q : (Int32) × (Int32) × (Int32) × (Int32) × (Int32) × (Int64) × (Int64) × (Int32) × (Int32) × (Int32) × (Int32) × (Int32) × (Int32) × (Int32) × (Nat → Int32) × (Nat → Int64) × (Nat → Int64) × (Nat → Int32) × (Nat → Int32) × (Nat → Int32)) (ls : Array Slot) (H : Heap) (locs : List Loc) => match q with | (k114_10, k114_6, k114_7, k114_la, k114_bk, k114_va, k114_su, k114_ce, k114_ho, k114_wy, k114_bt, k114_ps, k114_tg, k114_sn, k114_ro, k114_se, k114_re, k114_pt, k114_tr, k114_ld) => lv_has ls 12 [(6, .int k114_6), (7, .int k114_7), (10, .int k114_10), (9, .int z365), (8, .int k91_8), (5, .int z237), (0, .ref b_o), (1, .int p_1), (2, .int p_2), (3, .int p_3), (4, .int p_4)] ∧ va_P G.1 vwCl [(b_se, (arJ G 13 k114_se)), (b_re, (arJ G 400 k114_re)), (b_pt, (arI G 200 k114_pt)), (b_tr, (arZ G 1536 k114_tr)), (b_ld, (arZ G 1536 k114_ld)), (b_o, (oc12 0 u_sa b_rf b_ro b_im b_ke u_fd b_tp u_td u_fr u_to u_so u_wo u_fa u_bd u_nc b_nl u_co b_op b_ar u_le b_pi b_pa u_pd u_od b_ws b_hw k114_la b_se b_re k114_bk k114_va k114_su k114_ce k114_ho k114_wy k114_bt k114_ps b_pt k114_tg k114_sn b_ip u_ic b_ah b_be b_me u_wd b_tr b_ld u_st b_wn u_id)), (b_ro, (arI G 5740 k114_ro))] H ∧ va_D A [(b_se, (arJ G 13 k114_se)), (b_re, (arJ G 400 k114_re)), (b_pt, (arI G 200 k114_pt)), (b_tr, (arZ G 1536 k114_tr)), (b_ld, (arZ G 1536 k114_ld)), (b_o, (oc12 0 u_sa b_rf b_ro b_im b_ke u_fd b_tp u_td u_fr u_to u_so u_wo u_fa u_bd u_nc b_nl u_co b_op b_ar u_le b_pi b_pa u_pd u_od b_ws b_hw k114_la b_se b_re k114_bk k114_va k114_su k114_ce k114_ho k114_wy k114_bt k114_ps b_pt k114_tg k114_sn b_ip u_ic b_ah b_be b_me u_wd b_tr b_ld u_st b_wn u_id)), (b_ro, (arI G 5740 k114_ro))] ∧ va_S A s.heap H locs ∧ (0 ≤ k114_10.toInt ∧ k114_10.toInt ≤ 6) ∧ (0 ≤ k114_6.toInt ∧ k114_6.toInt ≤ 24) ∧ (0 ≤ k114_la.toInt ∧ k114_la.toInt ≤ 4840) ∧ (0 ≤ k114_bk.toInt ∧ k114_bk.toInt ≤ 1) ∧ (0 ≤ k114_ce.toInt ∧ k114_ce.toInt ≤ 63) ∧ (0 ≤ k114_ho.toInt ∧ k114_ho.toInt ≤ 23) ∧ (0 ≤ k114_wy.toInt ∧ k114_wy.toInt ≤ 3) ∧ (0 ≤ k114_bt.toInt ∧ k114_bt.toInt ≤ 1000000) ∧ (0 ≤ k114_ps.toInt ∧ k114_ps.toInt ≤ 200) ∧ (MI k114_ro) ∧ (PTI k114_pt) ∧ (∀ j : Nat, j ≠ (81 + 5 * k91_8.toInt.toNat) → k114_ro j = v_ro j)) (fun (q : (Int32) × (Int32) × (Int32) × (Int32) × (Int32) × (Int64) × (Int64) × (Int32) × (Int32) × (Int32) × (Int32) × (Int32) × (Int32) × (Int32) × (Nat → Int32) × (Nat → Int64) × (Nat → Int64) × (Nat → Int32) × (Nat → Int32) × (Nat → Int32)) => match q with | (k114_10, k114_6, k114_7, k114_la, k114_bk, k114_va, k114_su, k114_ce, k114_ho, k114_wy, k114_bt, k114_ps, k114_tg, k114_sn, k114_ro, k114_se, k114_re, k114_pt, k114_tr, k114_ld) => Int.toNat (6 - k114_10.toInt)) (0, k91_6, k91_7, k91_la, k91_bk, k91_va, k91_su, k91_ce, k91_ho, k91_wy, k91_bt, k91_ps, k91_tg, k91_sn, k91_ro, k91_se, k91_re, k91_pt, k91_tr, k91_ld) ⟨lv_sub hl [2, 3, 0, 1, 4, 5, 6, 7, 8, 9, 10] rfl, hP, hD, hS, ⟨by decide, by decide⟩, i_346, i_347, i_348, i_349, i_350, i_351, i_352, i_353, i_354, i_355, fun j _ => by rw [i_356]⟩ ?_
                            rintro ⟨k114_10, k114_6, k114_7, k114_la, k114_bk, k114_va, k114_su, k114_ce, k114_ho, k114_wy, k114_bt, k114_ps, k114_tg, k114_sn, k114_ro, k114_se, k114_re, k114_pt, k114_tr, k114_ld⟩ ls H locs ⟨hl, hP, hD, hS, (i_367 : 0 ≤ k114_10.toInt ∧ k114_10.toInt ≤ 6), (i_368 : 0 ≤ k114_6.toInt ∧ k114_6.toInt ≤ 24), (i_369 : 0 ≤ k114_la.toInt ∧ k114_la.toInt ≤ 4840), (i_370 : 0 ≤ k114_bk.toInt ∧ k114_bk.toInt ≤ 1), (i_371 : 0 ≤ k114_ce.toInt ∧ k114_ce.toInt ≤ 63), (i_372 : 0 ≤ k114_ho.toInt ∧ k114_ho.toInt ≤ 23), (i_373 : 0 ≤ k114_wy.toInt ∧ k114_wy.toInt ≤ 3), (i_374 : 0 ≤ k114_bt.toInt ∧ k114_bt.toInt ≤ 1000000), (i_375 : 0 ≤ k114_ps.toInt ∧ k114_ps.toInt ≤ 200), (i_376 : MI k114_ro), (i_377 : PTI k114_pt), (i_378 : ∀ j : Nat, j ≠ (81 + 5 * k91_8.toInt.toNat) → k114_ro j = v_ro j)⟩ ih_114_379
                            replace hl : lv_has ls 12 [(6, .int k114_6), (7, .int k114_7), (10, .int k114_10), (9, .int z365), (8, .int k91_8), (5, .int z237), (0, .ref b_o), (1, .int p_1), (2, .int p_2), (3, .int p_3), (4, .int p_4)] := hl
                            refine g5_rs [(b_se, (arJ G 13 k114_se)), (b_re, (arJ G 400 k114_re)), (b_pt, (arI G 200 k114_pt)), (b_tr, (arZ G 1536 k114_tr)), (b_ld, (arZ G 1536 k114_ld)), (b_o, (oc12 0 u_sa b_rf b_ro b_im b_ke u_fd b_tp u_td u_fr u_to u_so u_wo u_fa u_bd u_nc b_nl u_co b_op b_ar u_le b_pi b_pa u_pd u_od b_ws b_hw k114_la b_se b_re k114_bk k114_va k114_su k114_ce k114_ho k114_wy k114_bt k114_ps b_pt k114_tg k114_sn b_ip u_ic b_ah b_be b_me u_wd b_tr b_ld u_st b_wn u_id)), (b_ro, (arI G 5740 k114_ro))] hP hD ?_
                            clear hP hD
                            intro hP hD
                            refine lv_iload hx hb dX12_sooner_114 (lv_at hl 2 rfl) ?_
                            refine lv_bipush (v := 6) hx hb dX12_sooner_116 (by decide +kernel) ?_
                            refine lv_icmp_ge (tgt := 213) hx hb dX12_sooner_118 (by decide +kernel) (fun c_380 => ?_) (fun c_380 => ?_)
                            ·
                              have i_380 : k114_10.toInt ≥ 6 := g5_ge (a := k114_10.toInt) (b := 6) rfl (by decide +kernel) c_380
                              refine lv_aload_n hx hb dX12_sooner_213 rfl (lv_at hl 6 rfl) ?_
                              refine va_get (D := G.1) (ci := 12) (v := .ref b_ro) (C := RX12) (T := TX12) (N := 52) hx hb hts inG_X12 hown hK hP 5 rfl rfl 3 (by decide +kernel) (hts _ fl_X12_13) (fun _ h9 => h9) rfl dX12_sooner_214 ?_
                              refine lv_bipush (v := 80) hx hb dX12_sooner_217 (by decide +kernel) ?_
                              refine lv_iconst (v := 5) hx hb dX12_sooner_219 (by decide +kernel) ?_
                              refine W.eq (g2 := F0 m 220 ls [.int 5, .int 80, .ref b_ro]) rfl ?_
                              refine lv_iload hx hb dX12_sooner_220 (lv_at hl 4 rfl) ?_
                              refine lv_imul hx hb dX12_sooner_222 ?_
                              have t_381 : (5 * k91_8).toInt = 5 * k91_8.toInt := g5_imul (a := 5) (b := k91_8.toInt) (by decide +kernel) (by rfl) (by omega) (by omega)
                              refine lv_iadd hx hb dX12_sooner_223 ?_
                              have t_382 : (80 + (5 * k91_8)).toInt = 80 + (5 * k91_8).toInt := g5_iadd (a := 80) (b := (5 * k91_8).toInt) (by decide +kernel) (by rfl) (by omega) (by omega)
                              refine lv_iconst (v := 1) hx hb dX12_sooner_224 (by decide +kernel) ?_
                              refine lv_iadd hx hb dX12_sooner_225 ?_
                              have t_383 : ((80 + (5 * k91_8)) + 1).toInt = (80 + (5 * k91_8)).toInt + 1 := g5_iadd (a := (80 + (5 * k91_8)).toInt) (b := 1) (by rfl) (by decide +kernel) (by omega) (by omega)
                              refine W.eq (g2 := F0 m 226 ls [.int ((80 + (5 * k91_8)) + 1), .ref b_ro]) rfl ?_
                              refine lv_iload hx hb dX12_sooner_226 (lv_at hl 3 rfl) ?_
                              refine va_iast hx hb hK hP hD hS 6 0 rfl rfl (i := ((80 + (5 * k91_8)) + 1)) (x := z365) (vp_in_iff.mpr ⟨by omega, by omega⟩) dX12_sooner_228 ?_
                              clear hP hD hS
                              intro H locs hP hD hS
                              refine g5_rs [(b_se, (arJ G 13 k114_se)), (b_re, (arJ G 400 k114_re)), (b_pt, (arI G 200 k114_pt)), (b_tr, (arZ G 1536 k114_tr)), (b_ld, (arZ G 1536 k114_ld)), (b_o, (oc12 0 u_sa b_rf b_ro b_im b_ke u_fd b_tp u_td u_fr u_to u_so u_wo u_fa u_bd u_nc b_nl u_co b_op b_ar u_le b_pi b_pa u_pd u_od b_ws b_hw k114_la b_se b_re k114_bk k114_va k114_su k114_ce k114_ho k114_wy k114_bt k114_ps b_pt k114_tg k114_sn b_ip u_ic b_ah b_be b_me u_wd b_tr b_ld u_st b_wn u_id)), (b_ro, (arI G 5740 (upd k114_ro ((80 + (5 * k91_8)) + 1).toNatClampNeg z365)))] hP hD ?_
                              clear hP hD
                              intro hP hD
                              refine lv_iinc (v := (k91_8 + 1)) (lv' := [(8, .int (k91_8 + 1)), (6, .int k114_6), (7, .int k114_7), (10, .int k114_10), (9, .int z365), (5, .int z237), (0, .ref b_o), (1, .int p_1), (2, .int p_2), (3, .int p_3), (4, .int p_4)]) hx hb dX12_sooner_229 hl (k := 4) rfl rfl (by decide +kernel) rfl ?_
                              clear hl
                              intro ls hl
                              have t_384 : (k91_8 + 1).toInt = k91_8.toInt + 1 := g5_iadd (a := k91_8.toInt) (b := 1) rfl (by decide +kernel) (by omega) (by omega)
                              refine lv_goto (tgt := 91) hx hb dX12_sooner_232 (by decide +kernel) ?_
                              exact ih_91_357 ((k91_8 + 1), k114_7, k114_6, k114_la, k114_bk, k114_va, k114_su, k114_ce, k114_ho, k114_wy, k114_bt, k114_ps, k114_tg, k114_sn, (upd k114_ro ((80 + (5 * k91_8)) + 1).toNatClampNeg z365), k114_se, k114_re, k114_pt, k114_tr, k114_ld) ls H locs (show Int.toNat (6 - (k91_8 + 1).toInt) < Int.toNat (6 - k91_8.toInt) from g_up (show k91_8.toInt < (k91_8 + 1).toInt by omega) (show k91_8.toInt < 6 by omega)) ⟨lv_sub hl [1, 2, 0, 5, 6, 7, 8, 9, 10] rfl, hP.sub [5, 6, 0, 1, 2, 3, 4] rfl, hD.sub [5, 6, 0, 1, 2, 3, 4] (by decide +kernel) rfl, hS, ⟨by omega, by omega⟩, i_368, i_369, i_370, i_371, i_372, i_373, i_374, i_375, mi_upd i_376 (by have zz := g5_clamp ((80 + (5 * k91_8)) + 1); unfold rOK; refine ⟨?_, ?_, ?_, ?_, ?_, ?_, ?_, ?_, ?_, ?_, ?_, ?_, ?_, ?_, ?_, ?_, ?_, ?_, ?_, ?_, ?_, ?_, ?_⟩ <;> (intros; omega)) (by have zz := g5_clamp ((80 + (5 * k91_8)) + 1); omega) (by have zz := g5_clamp ((80 + (5 * k91_8)) + 1); omega) (by have zz := g5_clamp ((80 + (5 * k91_8)) + 1); omega) (by have zz := g5_clamp ((80 + (5 * k91_8)) + 1); omega) (by have zz := g5_clamp ((80 + (5 * k91_8)) + 1); omega), i_377, by rw [show ((80 + (5 * k91_8)) + 1).toNatClampNeg = (81 + 5 * k91_8.toInt.toNat) by have zz := g5_clamp ((80 + (5 * k91_8)) + 1); omega]; exact upd_but_self i_378 (by rw [i_364, i_356]; congr 1; omega)⟩
                            ·
                              have i_380 : k114_10.toInt < 6 := g5_geN (a := k114_10.toInt) (b := 6) rfl (by decide +kernel) c_380
                              refine lv_aload_n hx hb dX12_sooner_121 rfl (lv_at hl 6 rfl) ?_
                              refine va_get (D := G.1) (ci := 12) (v := .ref b_ro) (C := RX12) (T := TX12) (N := 52) hx hb hts inG_X12 hown hK hP 5 rfl rfl 3 (by decide +kernel) (hts _ fl_X12_13) (fun _ h9 => h9) rfl dX12_sooner_122 ?_
                              refine lv_bipush (v := 80) hx hb dX12_sooner_125 (by decide +kernel) ?_
                              refine lv_iconst (v := 5) hx hb dX12_sooner_127 (by decide +kernel) ?_
                              refine W.eq (g2 := F0 m 128 ls [.int 5, .int 80, .ref b_ro]) rfl ?_
                              refine lv_iload hx hb dX12_sooner_128 (lv_at hl 4 rfl) ?_
                              refine lv_imul hx hb dX12_sooner_130 ?_
                              have t_385 : (5 * k91_8).toInt = 5 * k91_8.toInt := g5_imul (a := 5) (b := k91_8.toInt) (by decide +kernel) (by rfl) (by omega) (by omega)
                              refine lv_iadd hx hb dX12_sooner_131 ?_
                              have t_386 : (80 + (5 * k91_8)).toInt = 80 + (5 * k91_8).toInt := g5_iadd (a := 80) (b := (5 * k91_8).toInt) (by decide +kernel) (by rfl) (by omega) (by omega)
                              refine lv_iconst (v := 1) hx hb dX12_sooner_132 (by decide +kernel) ?_
                              refine lv_iadd hx hb dX12_sooner_133 ?_
                              have t_387 : ((80 + (5 * k91_8)) + 1).toInt = (80 + (5 * k91_8)).toInt + 1 := g5_iadd (a := (80 + (5 * k91_8)).toInt) (b := 1) (by rfl) (by decide +kernel) (by omega) (by omega)
                              refine W.eq (g2 := F0 m 134 ls [.int ((80 + (5 * k91_8)) + 1), .ref b_ro]) rfl ?_
                              refine lv_iload hx hb dX12_sooner_134 (lv_at hl 2 rfl) ?_
                              refine va_iast hx hb hK hP hD hS 6 0 rfl rfl (i := ((80 + (5 * k91_8)) + 1)) (x := k114_10) (vp_in_iff.mpr ⟨by omega, by omega⟩) dX12_sooner_136 ?_
                              clear hP hD hS
                              intro H locs hP hD hS
                              refine g5_rs [(b_se, (arJ G 13 k114_se)), (b_re, (arJ G 400 k114_re)), (b_pt, (arI G 200 k114_pt)), (b_tr, (arZ G 1536 k114_tr)), (b_ld, (arZ G 1536 k114_ld)), (b_o, (oc12 0 u_sa b_rf b_ro b_im b_ke u_fd b_tp u_td u_fr u_to u_so u_wo u_fa u_bd u_nc b_nl u_co b_op b_ar u_le b_pi b_pa u_pd u_od b_ws b_hw k114_la b_se b_re k114_bk k114_va k114_su k114_ce k114_ho k114_wy k114_bt k114_ps b_pt k114_tg k114_sn b_ip u_ic b_ah b_be b_me u_wd b_tr b_ld u_st b_wn u_id)), (b_ro, (arI G 5740 (upd k114_ro ((80 + (5 * k91_8)) + 1).toNatClampNeg k114_10)))] hP hD ?_
                              clear hP hD
                              intro hP hD
                              have hmi_388 : MI (upd k114_ro ((80 + (5 * k91_8)) + 1).toNatClampNeg k114_10) := mi_upd i_376 (by have zz := g5_clamp ((80 + (5 * k91_8)) + 1); unfold rOK; refine ⟨?_, ?_, ?_, ?_, ?_, ?_, ?_, ?_, ?_, ?_, ?_, ?_, ?_, ?_, ?_, ?_, ?_, ?_, ?_, ?_, ?_, ?_, ?_⟩ <;> (intros; omega)) (by have zz := g5_clamp ((80 + (5 * k91_8)) + 1); omega) (by have zz := g5_clamp ((80 + (5 * k91_8)) + 1); omega) (by have zz := g5_clamp ((80 + (5 * k91_8)) + 1); omega) (by have zz := g5_clamp ((80 + (5 * k91_8)) + 1); omega) (by have zz := g5_clamp ((80 + (5 * k91_8)) + 1); omega)
                              refine lv_iload hx hb dX12_sooner_137 (lv_at hl 2 rfl) ?_
                              refine lv_iload hx hb dX12_sooner_139 (lv_at hl 3 rfl) ?_
                              refine lv_icmp_ne (tgt := 148) hx hb dX12_sooner_141 (by decide +kernel) (fun c_389 => ?_) (fun c_389 => ?_)
                              ·
                                have n_389 : gNe (k114_10.toInt) (z365.toInt) := g5_ne (a := k114_10.toInt) (b := z365.toInt) rfl rfl c_389
                                refine lv_aload_n hx hb dX12_sooner_148 rfl (lv_at hl 6 rfl) ?_
                                refine lv_iload_n hx hb dX12_sooner_149 rfl (lv_at hl 7 rfl) ?_
                                refine lv_iload_n hx hb dX12_sooner_150 rfl (lv_at hl 8 rfl) ?_
                                refine lv_iload_n hx hb dX12_sooner_151 rfl (lv_at hl 9 rfl) ?_
                                refine W.eq (g2 := F0 m 152 ls [.int p_3, .int p_2, .int p_1, .ref b_o]) rfl ?_
                                obtain ⟨hPc, hDc, hFc⟩ := g5_sub3 (wc := [(b_o, (oc12 0 u_sa b_rf b_ro b_im b_ke u_fd b_tp u_td u_fr u_to u_so u_wo u_fa u_bd u_nc b_nl u_co b_op b_ar u_le b_pi b_pa u_pd u_od b_ws b_hw k114_la b_se b_re k114_bk k114_va k114_su k114_ce k114_ho k114_wy k114_bt k114_ps b_pt k114_tg k114_sn b_ip u_ic b_ah b_be b_me u_wd b_tr b_ld u_st b_wn u_id)), (b_ro, (arI G 5740 (upd k114_ro ((80 + (5 * k91_8)) + 1).toNatClampNeg k114_10))), (b_se, (arJ G 13 k114_se)), (b_re, (arJ G 400 k114_re)), (b_pt, (arI G 200 k114_pt)), (b_tr, (arZ G 1536 k114_tr)), (b_ld, (arZ G 1536 k114_ld))]) hP hD hS hA [5, 6, 0, 1, 2, 3, 4] (by decide +kernel) rfl
                                refine va_calli (va_runV (As := [.int p_1, .int p_2, .int p_3]) (rest := []) ⟨hx, hb, hml, hown, hts⟩ (n_findSoonest l G b_o b_ro b_se b_re b_pt b_tr b_ld b_rf b_im b_ke b_tp b_nl b_op b_ar b_pi b_pa b_ws b_hw b_ip b_ah b_be b_me b_wn H.size 0 u_sa u_fd u_td u_fr u_to u_so u_fa u_bd u_nc u_co u_le u_pd u_od k114_la k114_bk k114_ce k114_ho k114_wy k114_bt k114_ps k114_tg k114_sn u_ic u_wd u_id p_1 p_2 p_3 u_wo k114_va k114_su u_st (upd k114_ro ((80 + (5 * k91_8)) + 1).toNatClampNeg k114_10) k114_se k114_re k114_pt k114_tr k114_ld h_u_td h_u_fr h_u_to h_u_bd h_u_nc h_u_co h_u_pd i_369 i_370 i_371 i_372 i_373 i_374 i_375 h_u_ic h_u_id i_3 i_5 (hmi_388) (i_377)) (cwV 3 hts gV_X12_466 rfl rfl rfl hv_X12_findSoonest ⟨Nat.le_of_ble_eq_true rfl, Nat.le_of_ble_eq_true rfl⟩) (g5_preV hPc hK hDc hN hT hS hFc (ci := 12) (q0 := 0) rfl rfl) rfl rfl hl.1 rfl (lv_room (Nat.le_of_ble_eq_true rfl)) dX12_sooner_152 ⟨Nat.le_of_ble_eq_true rfl, Nat.le_of_ble_eq_true rfl⟩) hS (fun q _ h => hFc q h) hFc (fun r u t H locs ht hvm hw hB hz1 hk1 hS => ?_)
                                obtain ⟨hP1, hD1⟩ := hB
                                have hP1 := g5_ht ht hP1
                                obtain ⟨z399, z400, z401, z402, z403, z404, z405, z406, z407, z408, z409, z410, z411, z412, z413, z414, z415, (i_390 : (-1) ≤ z399.toInt ∧ z399.toInt ≤ 23), (i_391 : 0 ≤ z400.toInt ∧ z400.toInt ≤ 4840), (i_392 : 0 ≤ z401.toInt ∧ z401.toInt ≤ 1), (i_393 : 0 ≤ z404.toInt ∧ z404.toInt ≤ 63), (i_394 : 0 ≤ z405.toInt ∧ z405.toInt ≤ 23), (i_395 : 0 ≤ z406.toInt ∧ z406.toInt ≤ 3), (i_396 : 0 ≤ z407.toInt ∧ z407.toInt ≤ 1000000), (i_397 : 0 ≤ z408.toInt ∧ z408.toInt ≤ 200), (i_398 : PTI z413), y416, rfl⟩ := hw
                                have hJ9 := va_join (wr := []) hP hD [5, 6, 0, 1, 2, 3, 4] [] rfl rfl (by decide +kernel) (by decide +kernel) hk1 hFc hP1 hD1
                                clear hP hD hPc hDc hFc ht hvm hz1 hk1 hP1 hD1
                                obtain ⟨hP, hD⟩ := hJ9
                                refine g5_rs [(b_o, (oc12 0 u_sa b_rf b_ro b_im b_ke u_fd b_tp u_td u_fr u_to u_so u_wo u_fa u_bd u_nc b_nl u_co b_op b_ar u_le b_pi b_pa u_pd u_od b_ws b_hw z400 b_se b_re z401 z402 z403 z404 z405 z406 z407 z408 b_pt z409 z410 b_ip u_ic b_ah b_be b_me u_wd b_tr b_ld u_st b_wn u_id)), (b_ro, (arI G 5740 (upd k114_ro ((80 + (5 * k91_8)) + 1).toNatClampNeg k114_10))), (b_se, (arJ G 13 z411)), (b_re, (arJ G 400 z412)), (b_pt, (arI G 200 z413)), (b_tr, (arZ G 1536 z414)), (b_ld, (arZ G 1536 z415))] hP hD ?_
                                clear hP hD
                                intro hP hD
                                refine g5_ti (v := z399) y416 ?_
                                refine lv_istore (lv' := [(11, .int z399), (6, .int k114_6), (7, .int k114_7), (10, .int k114_10), (9, .int z365), (8, .int k91_8), (5, .int z237), (0, .ref b_o), (1, .int p_1), (2, .int p_2), (3, .int p_3), (4, .int p_4)]) hx hb dX12_sooner_155 hl (by decide +kernel) rfl ?_
                                clear hl
                                intro ls hl
                                refine lv_iload hx hb dX12_sooner_157 (lv_at hl 0 rfl) ?_
                                refine lv_iconst (v := (-1)) hx hb dX12_sooner_159 (by decide +kernel) ?_
                                refine lv_icmp_eq (tgt := 181) hx hb dX12_sooner_160 (by decide +kernel) (fun c_417 => ?_) (fun c_417 => ?_)
                                ·
                                  have i_417 : z399.toInt = (-1) := g5_eq (a := z399.toInt) (b := (-1)) rfl (by decide +kernel) c_417
                                  refine lv_iload hx hb dX12_sooner_181 (lv_at hl 2 rfl) ?_
                                  refine lv_istore (lv' := [(7, .int k114_7), (11, .int z399), (6, .int k114_6), (10, .int k114_10), (9, .int z365), (8, .int k91_8), (5, .int z237), (0, .ref b_o), (1, .int p_1), (2, .int p_2), (3, .int p_3), (4, .int p_4)]) hx hb dX12_sooner_183 hl (by decide +kernel) rfl ?_
                                  clear hl
                                  intro ls hl
                                  refine lv_iload hx hb dX12_sooner_185 (lv_at hl 1 rfl) ?_
                                  refine lv_iconst (v := (-1)) hx hb dX12_sooner_187 (by decide +kernel) ?_
                                  refine W.eq (g2 := F0 m 188 ls [.int (-1), .int z399]) rfl ?_
                                  refine lv_icmp_eq (tgt := 203) hx hb dX12_sooner_188 (by decide +kernel) (fun c_418 => ?_) (fun c_418 => ?_)
                                  ·
                                    have i_418 : z399.toInt = (-1) := g5_eq (a := z399.toInt) (b := (-1)) rfl (by decide +kernel) c_418
                                    refine lv_iload hx hb dX12_sooner_203 (lv_at hl 2 rfl) ?_
                                    refine lv_istore (lv' := [(6, .int k114_6), (7, .int k114_7), (11, .int z399), (10, .int k114_10), (9, .int z365), (8, .int k91_8), (5, .int z237), (0, .ref b_o), (1, .int p_1), (2, .int p_2), (3, .int p_3), (4, .int p_4)]) hx hb dX12_sooner_205 hl (by decide +kernel) rfl ?_
                                    clear hl
                                    intro ls hl
                                    refine lv_iinc (v := (k114_10 + 1)) (lv' := [(10, .int (k114_10 + 1)), (6, .int k114_6), (7, .int k114_7), (11, .int z399), (9, .int z365), (8, .int k91_8), (5, .int z237), (0, .ref b_o), (1, .int p_1), (2, .int p_2), (3, .int p_3), (4, .int p_4)]) hx hb dX12_sooner_207 hl (k := 3) rfl rfl (by decide +kernel) rfl ?_
                                    clear hl
                                    intro ls hl
                                    have t_419 : (k114_10 + 1).toInt = k114_10.toInt + 1 := g5_iadd (a := k114_10.toInt) (b := 1) rfl (by decide +kernel) (by omega) (by omega)
                                    refine lv_goto (tgt := 114) hx hb dX12_sooner_210 (by decide +kernel) ?_
                                    exact ih_114_379 ((k114_10 + 1), k114_6, k114_7, z400, z401, z402, z403, z404, z405, z406, z407, z408, z409, z410, (upd k114_ro ((80 + (5 * k91_8)) + 1).toNatClampNeg k114_10), z411, z412, z413, z414, z415) ls H locs (show Int.toNat (6 - (k114_10 + 1).toInt) < Int.toNat (6 - k114_10.toInt) from g_up (show k114_10.toInt < (k114_10 + 1).toInt by omega) (show k114_10.toInt < 6 by omega)) ⟨lv_sub hl [1, 2, 0, 4, 5, 6, 7, 8, 9, 10, 11] rfl, hP.sub [2, 3, 4, 5, 6, 0, 1] rfl, hD.sub [2, 3, 4, 5, 6, 0, 1] (by decide +kernel) rfl, hS, ⟨by omega, by omega⟩, i_368, i_391, i_392, i_393, i_394, i_395, i_396, i_397, hmi_388, i_398, fun j hj => by rw [upd_ne (by rw [show ((80 + (5 * k91_8)) + 1).toNatClampNeg = (81 + 5 * k91_8.toInt.toNat) by have zz := g5_clamp ((80 + (5 * k91_8)) + 1); omega]; exact hj)]; exact i_378 j hj⟩
                                  ·
                                    have i_418 : z399.toInt ≠ (-1) := g5_eqN (a := z399.toInt) (b := (-1)) rfl (by decide +kernel) c_418
                                    omega
                                ·
                                  have n_417 : gNe (z399.toInt) ((-1)) := g5_eqN (a := z399.toInt) (b := (-1)) rfl (by decide +kernel) c_417
                                  have i_417 : z399.toInt ≥ 0 := by have z := g5_eqN (a := z399.toInt) (b := (-1)) (by rfl) (by decide +kernel) c_417; omega
                                  refine lv_iload hx hb dX12_sooner_163 (lv_at hl 0 rfl) ?_
                                  refine lv_iload hx hb dX12_sooner_165 (lv_at hl 1 rfl) ?_
                                  refine lv_icmp_ge (tgt := 181) hx hb dX12_sooner_167 (by decide +kernel) (fun c_420 => ?_) (fun c_420 => ?_)
                                  ·
                                    have i_420 : z399.toInt ≥ k114_6.toInt := g5_ge (a := z399.toInt) (b := k114_6.toInt) rfl rfl c_420
                                    refine lv_iload hx hb dX12_sooner_181 (lv_at hl 2 rfl) ?_
                                    refine lv_istore (lv' := [(7, .int k114_7), (11, .int z399), (6, .int k114_6), (10, .int k114_10), (9, .int z365), (8, .int k91_8), (5, .int z237), (0, .ref b_o), (1, .int p_1), (2, .int p_2), (3, .int p_3), (4, .int p_4)]) hx hb dX12_sooner_183 hl (by decide +kernel) rfl ?_
                                    clear hl
                                    intro ls hl
                                    refine lv_iload hx hb dX12_sooner_185 (lv_at hl 1 rfl) ?_
                                    refine lv_iconst (v := (-1)) hx hb dX12_sooner_187 (by decide +kernel) ?_
                                    refine W.eq (g2 := F0 m 188 ls [.int (-1), .int z399]) rfl ?_
                                    refine lv_icmp_eq (tgt := 203) hx hb dX12_sooner_188 (by decide +kernel) (fun c_421 => ?_) (fun c_421 => ?_)
                                    ·
                                      have i_421 : z399.toInt = (-1) := g5_eq (a := z399.toInt) (b := (-1)) rfl (by decide +kernel) c_421
                                      omega
                                    ·
                                      have n_421 : gNe (z399.toInt) ((-1)) := g5_eqN (a := z399.toInt) (b := (-1)) rfl (by decide +kernel) c_421
                                      refine lv_iload hx hb dX12_sooner_191 (lv_at hl 1 rfl) ?_
                                      refine lv_iload hx hb dX12_sooner_193 (lv_at hl 2 rfl) ?_
                                      refine lv_icmp_ge (tgt := 203) hx hb dX12_sooner_195 (by decide +kernel) (fun c_422 => ?_) (fun c_422 => ?_)
                                      ·
                                        have i_422 : z399.toInt ≥ k114_6.toInt := g5_ge (a := z399.toInt) (b := k114_6.toInt) rfl rfl c_422
                                        refine lv_iload hx hb dX12_sooner_203 (lv_at hl 2 rfl) ?_
                                        refine lv_istore (lv' := [(6, .int k114_6), (7, .int k114_7), (11, .int z399), (10, .int k114_10), (9, .int z365), (8, .int k91_8), (5, .int z237), (0, .ref b_o), (1, .int p_1), (2, .int p_2), (3, .int p_3), (4, .int p_4)]) hx hb dX12_sooner_205 hl (by decide +kernel) rfl ?_
                                        clear hl
                                        intro ls hl
                                        refine lv_iinc (v := (k114_10 + 1)) (lv' := [(10, .int (k114_10 + 1)), (6, .int k114_6), (7, .int k114_7), (11, .int z399), (9, .int z365), (8, .int k91_8), (5, .int z237), (0, .ref b_o), (1, .int p_1), (2, .int p_2), (3, .int p_3), (4, .int p_4)]) hx hb dX12_sooner_207 hl (k := 3) rfl rfl (by decide +kernel) rfl ?_
                                        clear hl
                                        intro ls hl
                                        have t_423 : (k114_10 + 1).toInt = k114_10.toInt + 1 := g5_iadd (a := k114_10.toInt) (b := 1) rfl (by decide +kernel) (by omega) (by omega)
                                        refine lv_goto (tgt := 114) hx hb dX12_sooner_210 (by decide +kernel) ?_
                                        exact ih_114_379 ((k114_10 + 1), k114_6, k114_7, z400, z401, z402, z403, z404, z405, z406, z407, z408, z409, z410, (upd k114_ro ((80 + (5 * k91_8)) + 1).toNatClampNeg k114_10), z411, z412, z413, z414, z415) ls H locs (show Int.toNat (6 - (k114_10 + 1).toInt) < Int.toNat (6 - k114_10.toInt) from g_up (show k114_10.toInt < (k114_10 + 1).toInt by omega) (show k114_10.toInt < 6 by omega)) ⟨lv_sub hl [1, 2, 0, 4, 5, 6, 7, 8, 9, 10, 11] rfl, hP.sub [2, 3, 4, 5, 6, 0, 1] rfl, hD.sub [2, 3, 4, 5, 6, 0, 1] (by decide +kernel) rfl, hS, ⟨by omega, by omega⟩, i_368, i_391, i_392, i_393, i_394, i_395, i_396, i_397, hmi_388, i_398, fun j hj => by rw [upd_ne (by rw [show ((80 + (5 * k91_8)) + 1).toNatClampNeg = (81 + 5 * k91_8.toInt.toNat) by have zz := g5_clamp ((80 + (5 * k91_8)) + 1); omega]; exact hj)]; exact i_378 j hj⟩
                                      ·
                                        have i_422 : z399.toInt < k114_6.toInt := g5_geN (a := z399.toInt) (b := k114_6.toInt) rfl rfl c_422
                                        refine lv_iload hx hb dX12_sooner_198 (lv_at hl 1 rfl) ?_
                                        refine lv_goto (tgt := 205) hx hb dX12_sooner_200 (by decide +kernel) ?_
                                        refine lv_istore (lv' := [(6, .int z399), (7, .int k114_7), (11, .int z399), (10, .int k114_10), (9, .int z365), (8, .int k91_8), (5, .int z237), (0, .ref b_o), (1, .int p_1), (2, .int p_2), (3, .int p_3), (4, .int p_4)]) hx hb dX12_sooner_205 hl (by decide +kernel) rfl ?_
                                        clear hl
                                        intro ls hl
                                        refine lv_iinc (v := (k114_10 + 1)) (lv' := [(10, .int (k114_10 + 1)), (6, .int z399), (7, .int k114_7), (11, .int z399), (9, .int z365), (8, .int k91_8), (5, .int z237), (0, .ref b_o), (1, .int p_1), (2, .int p_2), (3, .int p_3), (4, .int p_4)]) hx hb dX12_sooner_207 hl (k := 3) rfl rfl (by decide +kernel) rfl ?_
                                        clear hl
                                        intro ls hl
                                        have t_424 : (k114_10 + 1).toInt = k114_10.toInt + 1 := g5_iadd (a := k114_10.toInt) (b := 1) rfl (by decide +kernel) (by omega) (by omega)
                                        refine W.eq (g2 := F0 m 210 ls []) rfl ?_
                                        refine lv_goto (tgt := 114) hx hb dX12_sooner_210 (by decide +kernel) ?_
                                        exact ih_114_379 ((k114_10 + 1), z399, k114_7, z400, z401, z402, z403, z404, z405, z406, z407, z408, z409, z410, (upd k114_ro ((80 + (5 * k91_8)) + 1).toNatClampNeg k114_10), z411, z412, z413, z414, z415) ls H locs (show Int.toNat (6 - (k114_10 + 1).toInt) < Int.toNat (6 - k114_10.toInt) from g_up (show k114_10.toInt < (k114_10 + 1).toInt by omega) (show k114_10.toInt < 6 by omega)) ⟨lv_sub hl [1, 2, 0, 4, 5, 6, 7, 8, 9, 10, 11] rfl, hP.sub [2, 3, 4, 5, 6, 0, 1] rfl, hD.sub [2, 3, 4, 5, 6, 0, 1] (by decide +kernel) rfl, hS, ⟨by omega, by omega⟩, ⟨by omega, by omega⟩, i_391, i_392, i_393, i_394, i_395, i_396, i_397, hmi_388, i_398, fun j hj => by rw [upd_ne (by rw [show ((80 + (5 * k91_8)) + 1).toNatClampNeg = (81 + 5 * k91_8.toInt.toNat) by have zz := g5_clamp ((80 + (5 * k91_8)) + 1); omega]; exact hj)]; exact i_378 j hj⟩
                                  ·
                                    have i_420 : z399.toInt < k114_6.toInt := g5_geN (a := z399.toInt) (b := k114_6.toInt) rfl rfl c_420
                                    refine lv_bipush (v := 6) hx hb dX12_sooner_170 (by decide +kernel) ?_
                                    refine lv_iload hx hb dX12_sooner_172 (lv_at hl 5 rfl) ?_
                                    refine lv_imul hx hb dX12_sooner_174 ?_
                                    have t_425 : (6 * k91_8).toInt = 6 * k91_8.toInt := g5_imul (a := 6) (b := k91_8.toInt) (by decide +kernel) (by rfl) (by omega) (by omega)
                                    refine lv_iload hx hb dX12_sooner_175 (lv_at hl 3 rfl) ?_
                                    refine W.eq (g2 := F0 m 177 ls [.int k114_10, .int (6 * k91_8)]) rfl ?_
                                    refine lv_iadd hx hb dX12_sooner_177 ?_
                                    have t_426 : ((6 * k91_8) + k114_10).toInt = (6 * k91_8).toInt + k114_10.toInt := g5_iadd (a := (6 * k91_8).toInt) (b := k114_10.toInt) (by rfl) (by rfl) (by omega) (by omega)
                                    refine lv_goto (tgt := 183) hx hb dX12_sooner_178 (by decide +kernel) ?_
                                    refine lv_istore (lv' := [(7, .int ((6 * k91_8) + k114_10)), (11, .int z399), (6, .int k114_6), (10, .int k114_10), (9, .int z365), (8, .int k91_8), (5, .int z237), (0, .ref b_o), (1, .int p_1), (2, .int p_2), (3, .int p_3), (4, .int p_4)]) hx hb dX12_sooner_183 hl (by decide +kernel) rfl ?_
                                    clear hl
                                    intro ls hl
                                    refine lv_iload hx hb dX12_sooner_185 (lv_at hl 1 rfl) ?_
                                    refine lv_iconst (v := (-1)) hx hb dX12_sooner_187 (by decide +kernel) ?_
                                    refine W.eq (g2 := F0 m 188 ls [.int (-1), .int z399]) rfl ?_
                                    refine lv_icmp_eq (tgt := 203) hx hb dX12_sooner_188 (by decide +kernel) (fun c_427 => ?_) (fun c_427 => ?_)
                                    ·
                                      have i_427 : z399.toInt = (-1) := g5_eq (a := z399.toInt) (b := (-1)) rfl (by decide +kernel) c_427
                                      omega
                                    ·
                                      have n_427 : gNe (z399.toInt) ((-1)) := g5_eqN (a := z399.toInt) (b := (-1)) rfl (by decide +kernel) c_427
                                      refine lv_iload hx hb dX12_sooner_191 (lv_at hl 1 rfl) ?_
                                      refine lv_iload hx hb dX12_sooner_193 (lv_at hl 2 rfl) ?_
                                      refine lv_icmp_ge (tgt := 203) hx hb dX12_sooner_195 (by decide +kernel) (fun c_428 => ?_) (fun c_428 => ?_)
                                      ·
                                        have i_428 : z399.toInt ≥ k114_6.toInt := g5_ge (a := z399.toInt) (b := k114_6.toInt) rfl rfl c_428
                                        refine lv_iload hx hb dX12_sooner_203 (lv_at hl 2 rfl) ?_
                                        refine lv_istore (lv' := [(6, .int k114_6), (7, .int ((6 * k91_8) + k114_10)), (11, .int z399), (10, .int k114_10), (9, .int z365), (8, .int k91_8), (5, .int z237), (0, .ref b_o), (1, .int p_1), (2, .int p_2), (3, .int p_3), (4, .int p_4)]) hx hb dX12_sooner_205 hl (by decide +kernel) rfl ?_
                                        clear hl
                                        intro ls hl
                                        refine lv_iinc (v := (k114_10 + 1)) (lv' := [(10, .int (k114_10 + 1)), (6, .int k114_6), (7, .int ((6 * k91_8) + k114_10)), (11, .int z399), (9, .int z365), (8, .int k91_8), (5, .int z237), (0, .ref b_o), (1, .int p_1), (2, .int p_2), (3, .int p_3), (4, .int p_4)]) hx hb dX12_sooner_207 hl (k := 3) rfl rfl (by decide +kernel) rfl ?_
                                        clear hl
                                        intro ls hl
                                        have t_429 : (k114_10 + 1).toInt = k114_10.toInt + 1 := g5_iadd (a := k114_10.toInt) (b := 1) rfl (by decide +kernel) (by omega) (by omega)
                                        refine lv_goto (tgt := 114) hx hb dX12_sooner_210 (by decide +kernel) ?_
                                        exact ih_114_379 ((k114_10 + 1), k114_6, ((6 * k91_8) + k114_10), z400, z401, z402, z403, z404, z405, z406, z407, z408, z409, z410, (upd k114_ro ((80 + (5 * k91_8)) + 1).toNatClampNeg k114_10), z411, z412, z413, z414, z415) ls H locs (show Int.toNat (6 - (k114_10 + 1).toInt) < Int.toNat (6 - k114_10.toInt) from g_up (show k114_10.toInt < (k114_10 + 1).toInt by omega) (show k114_10.toInt < 6 by omega)) ⟨lv_sub hl [1, 2, 0, 4, 5, 6, 7, 8, 9, 10, 11] rfl, hP.sub [2, 3, 4, 5, 6, 0, 1] rfl, hD.sub [2, 3, 4, 5, 6, 0, 1] (by decide +kernel) rfl, hS, ⟨by omega, by omega⟩, i_368, i_391, i_392, i_393, i_394, i_395, i_396, i_397, hmi_388, i_398, fun j hj => by rw [upd_ne (by rw [show ((80 + (5 * k91_8)) + 1).toNatClampNeg = (81 + 5 * k91_8.toInt.toNat) by have zz := g5_clamp ((80 + (5 * k91_8)) + 1); omega]; exact hj)]; exact i_378 j hj⟩
                                      ·
                                        have i_428 : z399.toInt < k114_6.toInt := g5_geN (a := z399.toInt) (b := k114_6.toInt) rfl rfl c_428
                                        refine lv_iload hx hb dX12_sooner_198 (lv_at hl 1 rfl) ?_
                                        refine lv_goto (tgt := 205) hx hb dX12_sooner_200 (by decide +kernel) ?_
                                        refine lv_istore (lv' := [(6, .int z399), (7, .int ((6 * k91_8) + k114_10)), (11, .int z399), (10, .int k114_10), (9, .int z365), (8, .int k91_8), (5, .int z237), (0, .ref b_o), (1, .int p_1), (2, .int p_2), (3, .int p_3), (4, .int p_4)]) hx hb dX12_sooner_205 hl (by decide +kernel) rfl ?_
                                        clear hl
                                        intro ls hl
                                        refine lv_iinc (v := (k114_10 + 1)) (lv' := [(10, .int (k114_10 + 1)), (6, .int z399), (7, .int ((6 * k91_8) + k114_10)), (11, .int z399), (9, .int z365), (8, .int k91_8), (5, .int z237), (0, .ref b_o), (1, .int p_1), (2, .int p_2), (3, .int p_3), (4, .int p_4)]) hx hb dX12_sooner_207 hl (k := 3) rfl rfl (by decide +kernel) rfl ?_
                                        clear hl
                                        intro ls hl
                                        have t_430 : (k114_10 + 1).toInt = k114_10.toInt + 1 := g5_iadd (a := k114_10.toInt) (b := 1) rfl (by decide +kernel) (by omega) (by omega)
                                        refine W.eq (g2 := F0 m 210 ls []) rfl ?_
                                        refine lv_goto (tgt := 114) hx hb dX12_sooner_210 (by decide +kernel) ?_
                                        exact ih_114_379 ((k114_10 + 1), z399, ((6 * k91_8) + k114_10), z400, z401, z402, z403, z404, z405, z406, z407, z408, z409, z410, (upd k114_ro ((80 + (5 * k91_8)) + 1).toNatClampNeg k114_10), z411, z412, z413, z414, z415) ls H locs (show Int.toNat (6 - (k114_10 + 1).toInt) < Int.toNat (6 - k114_10.toInt) from g_up (show k114_10.toInt < (k114_10 + 1).toInt by omega) (show k114_10.toInt < 6 by omega)) ⟨lv_sub hl [1, 2, 0, 4, 5, 6, 7, 8, 9, 10, 11] rfl, hP.sub [2, 3, 4, 5, 6, 0, 1] rfl, hD.sub [2, 3, 4, 5, 6, 0, 1] (by decide +kernel) rfl, hS, ⟨by omega, by omega⟩, ⟨by omega, by omega⟩, i_391, i_392, i_393, i_394, i_395, i_396, i_397, hmi_388, i_398, fun j hj => by rw [upd_ne (by rw [show ((80 + (5 * k91_8)) + 1).toNatClampNeg = (81 + 5 * k91_8.toInt.toNat) by have zz := g5_clamp ((80 + (5 * k91_8)) + 1); omega]; exact hj)]; exact i_378 j hj⟩
                              ·
                                have i_389 : k114_10.toInt = z365.toInt := g5_neN (a := k114_10.toInt) (b := z365.toInt) rfl rfl c_389
                                refine lv_iconst (v := (-1)) hx hb dX12_sooner_144 (by decide +kernel) ?_
                                refine lv_goto (tgt := 155) hx hb dX12_sooner_145 (by decide +kernel) ?_
                                refine lv_istore (lv' := [(11, .int (-1)), (6, .int k114_6), (7, .int k114_7), (10, .int k114_10), (9, .int z365), (8, .int k91_8), (5, .int z237), (0, .ref b_o), (1, .int p_1), (2, .int p_2), (3, .int p_3), (4, .int p_4)]) hx hb dX12_sooner_155 hl (by decide +kernel) rfl ?_
                                clear hl
                                intro ls hl
                                refine lv_iload hx hb dX12_sooner_157 (lv_at hl 0 rfl) ?_
                                refine W.eq (g2 := F0 m 159 ls [.int (-1)]) rfl ?_
                                refine lv_iconst (v := (-1)) hx hb dX12_sooner_159 (by decide +kernel) ?_
                                refine lv_icmp_eq (tgt := 181) hx hb dX12_sooner_160 (by decide +kernel) (fun c_431 => ?_) (fun c_431 => ?_)
                                ·
                                  refine lv_iload hx hb dX12_sooner_181 (lv_at hl 2 rfl) ?_
                                  refine lv_istore (lv' := [(7, .int k114_7), (11, .int (-1)), (6, .int k114_6), (10, .int k114_10), (9, .int z365), (8, .int k91_8), (5, .int z237), (0, .ref b_o), (1, .int p_1), (2, .int p_2), (3, .int p_3), (4, .int p_4)]) hx hb dX12_sooner_183 hl (by decide +kernel) rfl ?_
                                  clear hl
                                  intro ls hl
                                  refine lv_iload hx hb dX12_sooner_185 (lv_at hl 1 rfl) ?_
                                  refine lv_iconst (v := (-1)) hx hb dX12_sooner_187 (by decide +kernel) ?_
                                  refine W.eq (g2 := F0 m 188 ls [.int (-1), .int (-1)]) rfl ?_
                                  refine lv_icmp_eq (tgt := 203) hx hb dX12_sooner_188 (by decide +kernel) (fun c_432 => ?_) (fun c_432 => ?_)
                                  ·
                                    refine lv_iload hx hb dX12_sooner_203 (lv_at hl 2 rfl) ?_
                                    refine lv_istore (lv' := [(6, .int k114_6), (7, .int k114_7), (11, .int (-1)), (10, .int k114_10), (9, .int z365), (8, .int k91_8), (5, .int z237), (0, .ref b_o), (1, .int p_1), (2, .int p_2), (3, .int p_3), (4, .int p_4)]) hx hb dX12_sooner_205 hl (by decide +kernel) rfl ?_
                                    clear hl
                                    intro ls hl
                                    refine lv_iinc (v := (k114_10 + 1)) (lv' := [(10, .int (k114_10 + 1)), (6, .int k114_6), (7, .int k114_7), (11, .int (-1)), (9, .int z365), (8, .int k91_8), (5, .int z237), (0, .ref b_o), (1, .int p_1), (2, .int p_2), (3, .int p_3), (4, .int p_4)]) hx hb dX12_sooner_207 hl (k := 3) rfl rfl (by decide +kernel) rfl ?_
                                    clear hl
                                    intro ls hl
                                    have t_433 : (k114_10 + 1).toInt = k114_10.toInt + 1 := g5_iadd (a := k114_10.toInt) (b := 1) rfl (by decide +kernel) (by omega) (by omega)
                                    refine lv_goto (tgt := 114) hx hb dX12_sooner_210 (by decide +kernel) ?_
                                    exact ih_114_379 ((k114_10 + 1), k114_6, k114_7, k114_la, k114_bk, k114_va, k114_su, k114_ce, k114_ho, k114_wy, k114_bt, k114_ps, k114_tg, k114_sn, (upd k114_ro ((80 + (5 * k91_8)) + 1).toNatClampNeg k114_10), k114_se, k114_re, k114_pt, k114_tr, k114_ld) ls H locs (show Int.toNat (6 - (k114_10 + 1).toInt) < Int.toNat (6 - k114_10.toInt) from g_up (show k114_10.toInt < (k114_10 + 1).toInt by omega) (show k114_10.toInt < 6 by omega)) ⟨lv_sub hl [1, 2, 0, 4, 5, 6, 7, 8, 9, 10, 11] rfl, hP, hD, hS, ⟨by omega, by omega⟩, i_368, i_369, i_370, i_371, i_372, i_373, i_374, i_375, hmi_388, i_377, fun j hj => by rw [upd_ne (by rw [show ((80 + (5 * k91_8)) + 1).toNatClampNeg = (81 + 5 * k91_8.toInt.toNat) by have zz := g5_clamp ((80 + (5 * k91_8)) + 1); omega]; exact hj)]; exact i_378 j hj⟩
                                  ·
                                    exact absurd c_432 (by decide +kernel)
                                ·
                                  exact absurd c_431 (by decide +kernel)
                      ·
                        have n_227 : gNe (z225.toInt) (0) := g5_eqN (a := z225.toInt) (b := 0) rfl (by decide +kernel) c_227
                        have i_227 : z225.toInt ≥ 1 := by have z := g5_eqN (a := z225.toInt) (b := 0) (by rfl) (by decide +kernel) c_227; omega
                        refine lv_iconst (v := (-1)) hx hb dX12_sooner_59 (by decide +kernel) ?_
                        exact W.iret (v := (-1)) hx hb hr (fun t ht hW => ⟨⟨(-1), [(b_o, (oc12 0 u_sa b_rf b_ro b_im b_ke u_fd b_tp u_td u_fr u_to u_so u_wo u_fa u_bd u_nc b_nl u_co b_op b_ar u_le b_pi b_pa u_pd u_od b_ws b_hw u_la b_se b_re u_bk u_va u_su u_ce u_ho u_wy u_bt u_ps b_pt u_tg u_sn b_ip u_ic b_ah b_be b_me u_wd b_tr b_ld u_st b_wn u_id)), (b_ro, (arI G 5740 v_ro)), (b_se, (arJ G 13 v_se)), (b_re, (arJ G 400 v_re)), (b_pt, (arI G 200 v_pt)), (b_tr, (arZ G 1536 v_tr)), (b_ld, (arZ G 1536 v_ld))], rfl, ⟨(-1), 0, u_la, u_bk, u_va, u_su, u_ce, u_ho, u_wy, u_bt, u_ps, u_tg, u_sn, v_ro, v_se, v_re, v_pt, v_tr, v_ld, r_ro, h_u_la, h_u_bk, h_u_ce, h_u_ho, h_u_wy, h_u_bt, h_u_ps, r_pt, rfl, rfl, rfl⟩, by rw [ht]; exact hP.sub [5, 6, 0, 1, 2, 3, 4] rfl, hD.sub [5, 6, 0, 1, 2, 3, 4] (by decide +kernel) rfl⟩, hS.F ht⟩) hS.2.2 dX12_sooner_60
                    ·
                      exact absurd c_223 (by decide +kernel)
          ·
            have hJ9 := g5_same hP hk1
            clear hP hPc hDc hFc ht hvm hz1 hk1 hP1 hD1
            have hP := hJ9
            clear hJ9
            refine lv_if_eq (tgt := 59) hx hb dX12_sooner_24 (by decide +kernel) (fun c_434 => ?_) (fun c_434 => ?_)
            ·
              refine lv_iconst (v := (-1)) hx hb dX12_sooner_59 (by decide +kernel) ?_
              exact W.iret (v := (-1)) hx hb hr (fun t ht hW => ⟨⟨(-1), [(b_o, (oc12 0 u_sa b_rf b_ro b_im b_ke u_fd b_tp u_td u_fr u_to u_so u_wo u_fa u_bd u_nc b_nl u_co b_op b_ar u_le b_pi b_pa u_pd u_od b_ws b_hw u_la b_se b_re u_bk u_va u_su u_ce u_ho u_wy u_bt u_ps b_pt u_tg u_sn b_ip u_ic b_ah b_be b_me u_wd b_tr b_ld u_st b_wn u_id)), (b_ro, (arI G 5740 v_ro)), (b_se, (arJ G 13 v_se)), (b_re, (arJ G 400 v_re)), (b_pt, (arI G 200 v_pt)), (b_tr, (arZ G 1536 v_tr)), (b_ld, (arZ G 1536 v_ld))], rfl, ⟨(-1), 0, u_la, u_bk, u_va, u_su, u_ce, u_ho, u_wy, u_bt, u_ps, u_tg, u_sn, v_ro, v_se, v_re, v_pt, v_tr, v_ld, r_ro, h_u_la, h_u_bk, h_u_ce, h_u_ho, h_u_wy, h_u_bt, h_u_ps, r_pt, rfl, rfl, rfl⟩, by rw [ht]; exact hP.sub [5, 6, 0, 1, 2, 3, 4] rfl, hD.sub [5, 6, 0, 1, 2, 3, 4] (by decide +kernel) rfl⟩, hS.F ht⟩) hS.2.2 dX12_sooner_60
            ·
              exact absurd c_434 (by decide +kernel)
      ·
        have hJ9 := g5_same hP hk1
        clear hP hPc hDc hFc ht hvm hz1 hk1 hP1 hD1
        have hP := hJ9
        clear hJ9
        refine lv_if_eq (tgt := 59) hx hb dX12_sooner_17 (by decide +kernel) (fun c_435 => ?_) (fun c_435 => ?_)
        ·
          refine lv_iconst (v := (-1)) hx hb dX12_sooner_59 (by decide +kernel) ?_
          exact W.iret (v := (-1)) hx hb hr (fun t ht hW => ⟨⟨(-1), [(b_o, (oc12 0 u_sa b_rf b_ro b_im b_ke u_fd b_tp u_td u_fr u_to u_so u_wo u_fa u_bd u_nc b_nl u_co b_op b_ar u_le b_pi b_pa u_pd u_od b_ws b_hw u_la b_se b_re u_bk u_va u_su u_ce u_ho u_wy u_bt u_ps b_pt u_tg u_sn b_ip u_ic b_ah b_be b_me u_wd b_tr b_ld u_st b_wn u_id)), (b_ro, (arI G 5740 v_ro)), (b_se, (arJ G 13 v_se)), (b_re, (arJ G 400 v_re)), (b_pt, (arI G 200 v_pt)), (b_tr, (arZ G 1536 v_tr)), (b_ld, (arZ G 1536 v_ld))], rfl, ⟨(-1), 0, u_la, u_bk, u_va, u_su, u_ce, u_ho, u_wy, u_bt, u_ps, u_tg, u_sn, v_ro, v_se, v_re, v_pt, v_tr, v_ld, r_ro, h_u_la, h_u_bk, h_u_ce, h_u_ho, h_u_wy, h_u_bt, h_u_ps, r_pt, rfl, rfl, rfl⟩, by rw [ht]; exact hP.sub [5, 6, 0, 1, 2, 3, 4] rfl, hD.sub [5, 6, 0, 1, 2, 3, 4] (by decide +kernel) rfl⟩, hS.F ht⟩) hS.2.2 dX12_sooner_60
        ·
          exact absurd c_435 (by decide +kernel)
  ·
    have hJ9 := va_join (wr := [(b_se, (arJ G 13 v_se)), (b_re, (arJ G 400 v_re)), (b_pt, (arI G 200 v_pt)), (b_tr, (arZ G 1536 v_tr)), (b_ld, (arZ G 1536 v_ld))]) hP hD [0, 1] [2, 3, 4, 5, 6] rfl rfl (by decide +kernel) (by decide +kernel) hk1 hFc hP1 hD1
    clear hP hD hPc hDc hFc ht hvm hz1 hk1 hP1 hD1
    obtain ⟨hP, hD⟩ := hJ9
    refine g5_rs [(b_se, (arJ G 13 v_se)), (b_re, (arJ G 400 v_re)), (b_pt, (arI G 200 v_pt)), (b_tr, (arZ G 1536 v_tr)), (b_ld, (arZ G 1536 v_ld)), (b_o, (oc12 0 u_sa b_rf b_ro b_im b_ke u_fd b_tp u_td u_fr u_to u_so u_wo u_fa u_bd u_nc b_nl u_co b_op b_ar u_le b_pi b_pa u_pd u_od b_ws b_hw u_la b_se b_re u_bk u_va u_su u_ce u_ho u_wy u_bt u_ps b_pt u_tg u_sn b_ip u_ic b_ah b_be b_me u_wd b_tr b_ld u_st b_wn u_id)), (b_ro, (arI G 5740 v_ro))] hP hD ?_
    clear hP hD
    intro hP hD
    refine lv_if_eq (tgt := 59) hx hb dX12_sooner_10 (by decide +kernel) (fun c_436 => ?_) (fun c_436 => ?_)
    ·
      refine lv_iconst (v := (-1)) hx hb dX12_sooner_59 (by decide +kernel) ?_
      exact W.iret (v := (-1)) hx hb hr (fun t ht hW => ⟨⟨(-1), [(b_o, (oc12 0 u_sa b_rf b_ro b_im b_ke u_fd b_tp u_td u_fr u_to u_so u_wo u_fa u_bd u_nc b_nl u_co b_op b_ar u_le b_pi b_pa u_pd u_od b_ws b_hw u_la b_se b_re u_bk u_va u_su u_ce u_ho u_wy u_bt u_ps b_pt u_tg u_sn b_ip u_ic b_ah b_be b_me u_wd b_tr b_ld u_st b_wn u_id)), (b_ro, (arI G 5740 v_ro)), (b_se, (arJ G 13 v_se)), (b_re, (arJ G 400 v_re)), (b_pt, (arI G 200 v_pt)), (b_tr, (arZ G 1536 v_tr)), (b_ld, (arZ G 1536 v_ld))], rfl, ⟨(-1), 0, u_la, u_bk, u_va, u_su, u_ce, u_ho, u_wy, u_bt, u_ps, u_tg, u_sn, v_ro, v_se, v_re, v_pt, v_tr, v_ld, r_ro, h_u_la, h_u_bk, h_u_ce, h_u_ho, h_u_wy, h_u_bt, h_u_ps, r_pt, rfl, rfl, rfl⟩, by rw [ht]; exact hP.sub [5, 6, 0, 1, 2, 3, 4] rfl, hD.sub [5, 6, 0, 1, 2, 3, 4] (by decide +kernel) rfl⟩, hS.F ht⟩) hS.2.2 dX12_sooner_60
    ·
      exact absurd c_436 (by decide +kernel)
theorem dgX12_sighting_0 : ∀ r ∈ ([(0, (.aload_n 0, 1)), (1, (.iconst 0, 1)), (2, (.putfield 107, 3)), (5, (.iload_n 1, 1)), (6, (.iload_n 2, 1)), (7, (.iload_n 3, 1)), (8, (.invokestatic 397, 3)), (11, (.ifCond .eq 14, 3)), (14, (.iload 4, 2)), (16, (.i2l, 1)), (17, (.lconst 0, 1)), (18, (.lconst 1, 1)), (19, (.invokestatic 121, 3)), (22, (.ifCond .ne 9, 3)), (25, (.aload_n 0, 1)), (26, (.iconst (-1), 1)), (27, (.invokevirtual 125, 3)), (30, (.ireturn, 1)), (31, (.aload_n 0, 1)), (32, (.getfield 13, 3)), (35, (.iconst 5, 1)), (36, (.iaload, 1)), (37, (.istore 5, 2)), (39, (.iconst 0, 1)), (40, (.istore 6, 2)), (42, (.iconst 0, 1)), (43, (.istore 7, 2)), (45, (.iload 7, 2)), (47, (.iload 5, 2)), (49, (.if_icmp .ge 29, 3)), (52, (.iload 6, 2)), (54, (.aload_n 0, 1)), (55, (.getfield 13, 3)), (58, (.sipush 230, 3)), (61, (.iconst 4, 1)), (62, (.iload 7, 2)), (64, (.imul, 1)), (65, (.iadd, 1)), (66, (.iconst 3, 1)), (67, (.iadd, 1))] : List (Nat × (Instr × Nat))), decode cX12_sighting r.1 = .ok r.2 := by decide +kernel
theorem dX12_sighting_0 : decode cX12_sighting 0 = .ok (.aload_n 0, 1) := dgX12_sighting_0 (0, (.aload_n 0, 1)) (List.mem_of_getElem? (i := 0) rfl)
theorem dX12_sighting_1 : decode cX12_sighting 1 = .ok (.iconst 0, 1) := dgX12_sighting_0 (1, (.iconst 0, 1)) (List.mem_of_getElem? (i := 1) rfl)
theorem dX12_sighting_2 : decode cX12_sighting 2 = .ok (.putfield 107, 3) := dgX12_sighting_0 (2, (.putfield 107, 3)) (List.mem_of_getElem? (i := 2) rfl)
theorem dX12_sighting_5 : decode cX12_sighting 5 = .ok (.iload_n 1, 1) := dgX12_sighting_0 (5, (.iload_n 1, 1)) (List.mem_of_getElem? (i := 3) rfl)
theorem dX12_sighting_6 : decode cX12_sighting 6 = .ok (.iload_n 2, 1) := dgX12_sighting_0 (6, (.iload_n 2, 1)) (List.mem_of_getElem? (i := 4) rfl)
theorem dX12_sighting_7 : decode cX12_sighting 7 = .ok (.iload_n 3, 1) := dgX12_sighting_0 (7, (.iload_n 3, 1)) (List.mem_of_getElem? (i := 5) rfl)
theorem dX12_sighting_8 : decode cX12_sighting 8 = .ok (.invokestatic 397, 3) := dgX12_sighting_0 (8, (.invokestatic 397, 3)) (List.mem_of_getElem? (i := 6) rfl)
theorem dX12_sighting_11 : decode cX12_sighting 11 = .ok (.ifCond .eq 14, 3) := dgX12_sighting_0 (11, (.ifCond .eq 14, 3)) (List.mem_of_getElem? (i := 7) rfl)
theorem dX12_sighting_14 : decode cX12_sighting 14 = .ok (.iload 4, 2) := dgX12_sighting_0 (14, (.iload 4, 2)) (List.mem_of_getElem? (i := 8) rfl)
theorem dX12_sighting_16 : decode cX12_sighting 16 = .ok (.i2l, 1) := dgX12_sighting_0 (16, (.i2l, 1)) (List.mem_of_getElem? (i := 9) rfl)
theorem dX12_sighting_17 : decode cX12_sighting 17 = .ok (.lconst 0, 1) := dgX12_sighting_0 (17, (.lconst 0, 1)) (List.mem_of_getElem? (i := 10) rfl)
theorem dX12_sighting_18 : decode cX12_sighting 18 = .ok (.lconst 1, 1) := dgX12_sighting_0 (18, (.lconst 1, 1)) (List.mem_of_getElem? (i := 11) rfl)
theorem dX12_sighting_19 : decode cX12_sighting 19 = .ok (.invokestatic 121, 3) := dgX12_sighting_0 (19, (.invokestatic 121, 3)) (List.mem_of_getElem? (i := 12) rfl)
theorem dX12_sighting_22 : decode cX12_sighting 22 = .ok (.ifCond .ne 9, 3) := dgX12_sighting_0 (22, (.ifCond .ne 9, 3)) (List.mem_of_getElem? (i := 13) rfl)
theorem dX12_sighting_25 : decode cX12_sighting 25 = .ok (.aload_n 0, 1) := dgX12_sighting_0 (25, (.aload_n 0, 1)) (List.mem_of_getElem? (i := 14) rfl)
theorem dX12_sighting_26 : decode cX12_sighting 26 = .ok (.iconst (-1), 1) := dgX12_sighting_0 (26, (.iconst (-1), 1)) (List.mem_of_getElem? (i := 15) rfl)
theorem dX12_sighting_27 : decode cX12_sighting 27 = .ok (.invokevirtual 125, 3) := dgX12_sighting_0 (27, (.invokevirtual 125, 3)) (List.mem_of_getElem? (i := 16) rfl)
theorem dX12_sighting_30 : decode cX12_sighting 30 = .ok (.ireturn, 1) := dgX12_sighting_0 (30, (.ireturn, 1)) (List.mem_of_getElem? (i := 17) rfl)
theorem dX12_sighting_31 : decode cX12_sighting 31 = .ok (.aload_n 0, 1) := dgX12_sighting_0 (31, (.aload_n 0, 1)) (List.mem_of_getElem? (i := 18) rfl)
theorem dX12_sighting_32 : decode cX12_sighting 32 = .ok (.getfield 13, 3) := dgX12_sighting_0 (32, (.getfield 13, 3)) (List.mem_of_getElem? (i := 19) rfl)
theorem dX12_sighting_35 : decode cX12_sighting 35 = .ok (.iconst 5, 1) := dgX12_sighting_0 (35, (.iconst 5, 1)) (List.mem_of_getElem? (i := 20) rfl)
theorem dX12_sighting_36 : decode cX12_sighting 36 = .ok (.iaload, 1) := dgX12_sighting_0 (36, (.iaload, 1)) (List.mem_of_getElem? (i := 21) rfl)
theorem dX12_sighting_37 : decode cX12_sighting 37 = .ok (.istore 5, 2) := dgX12_sighting_0 (37, (.istore 5, 2)) (List.mem_of_getElem? (i := 22) rfl)
theorem dX12_sighting_39 : decode cX12_sighting 39 = .ok (.iconst 0, 1) := dgX12_sighting_0 (39, (.iconst 0, 1)) (List.mem_of_getElem? (i := 23) rfl)
theorem dX12_sighting_40 : decode cX12_sighting 40 = .ok (.istore 6, 2) := dgX12_sighting_0 (40, (.istore 6, 2)) (List.mem_of_getElem? (i := 24) rfl)
theorem dX12_sighting_42 : decode cX12_sighting 42 = .ok (.iconst 0, 1) := dgX12_sighting_0 (42, (.iconst 0, 1)) (List.mem_of_getElem? (i := 25) rfl)
theorem dX12_sighting_43 : decode cX12_sighting 43 = .ok (.istore 7, 2) := dgX12_sighting_0 (43, (.istore 7, 2)) (List.mem_of_getElem? (i := 26) rfl)
theorem dX12_sighting_45 : decode cX12_sighting 45 = .ok (.iload 7, 2) := dgX12_sighting_0 (45, (.iload 7, 2)) (List.mem_of_getElem? (i := 27) rfl)
theorem dX12_sighting_47 : decode cX12_sighting 47 = .ok (.iload 5, 2) := dgX12_sighting_0 (47, (.iload 5, 2)) (List.mem_of_getElem? (i := 28) rfl)
theorem dX12_sighting_49 : decode cX12_sighting 49 = .ok (.if_icmp .ge 29, 3) := dgX12_sighting_0 (49, (.if_icmp .ge 29, 3)) (List.mem_of_getElem? (i := 29) rfl)
theorem dX12_sighting_52 : decode cX12_sighting 52 = .ok (.iload 6, 2) := dgX12_sighting_0 (52, (.iload 6, 2)) (List.mem_of_getElem? (i := 30) rfl)
theorem dX12_sighting_54 : decode cX12_sighting 54 = .ok (.aload_n 0, 1) := dgX12_sighting_0 (54, (.aload_n 0, 1)) (List.mem_of_getElem? (i := 31) rfl)
theorem dX12_sighting_55 : decode cX12_sighting 55 = .ok (.getfield 13, 3) := dgX12_sighting_0 (55, (.getfield 13, 3)) (List.mem_of_getElem? (i := 32) rfl)
theorem dX12_sighting_58 : decode cX12_sighting 58 = .ok (.sipush 230, 3) := dgX12_sighting_0 (58, (.sipush 230, 3)) (List.mem_of_getElem? (i := 33) rfl)
theorem dX12_sighting_61 : decode cX12_sighting 61 = .ok (.iconst 4, 1) := dgX12_sighting_0 (61, (.iconst 4, 1)) (List.mem_of_getElem? (i := 34) rfl)
theorem dX12_sighting_62 : decode cX12_sighting 62 = .ok (.iload 7, 2) := dgX12_sighting_0 (62, (.iload 7, 2)) (List.mem_of_getElem? (i := 35) rfl)
theorem dX12_sighting_64 : decode cX12_sighting 64 = .ok (.imul, 1) := dgX12_sighting_0 (64, (.imul, 1)) (List.mem_of_getElem? (i := 36) rfl)
theorem dX12_sighting_65 : decode cX12_sighting 65 = .ok (.iadd, 1) := dgX12_sighting_0 (65, (.iadd, 1)) (List.mem_of_getElem? (i := 37) rfl)
theorem dX12_sighting_66 : decode cX12_sighting 66 = .ok (.iconst 3, 1) := dgX12_sighting_0 (66, (.iconst 3, 1)) (List.mem_of_getElem? (i := 38) rfl)
theorem dX12_sighting_67 : decode cX12_sighting 67 = .ok (.iadd, 1) := dgX12_sighting_0 (67, (.iadd, 1)) (List.mem_of_getElem? (i := 39) rfl)
theorem dgX12_sighting_1 : ∀ r ∈ ([(68, (.iaload, 1)), (69, (.iadd, 1)), (70, (.istore 6, 2)), (72, (.iinc 7 1, 3)), (75, (.goto (-30), 3)), (78, (.iload 5, 2)), (80, (.bipush 10, 2)), (82, (.if_icmp .eq 15, 3)), (85, (.iload 4, 2)), (87, (.iconst 1, 1)), (88, (.if_icmp .ne 16, 3)), (91, (.iload 6, 2)), (93, (.iconst 5, 1)), (94, (.if_icmp .ne 10, 3)), (97, (.aload_n 0, 1)), (98, (.bipush (-5), 2)), (100, (.invokevirtual 125, 3)), (103, (.ireturn, 1)), (104, (.sipush 230, 3)), (107, (.iconst 4, 1)), (108, (.iload 5, 2)), (110, (.imul, 1)), (111, (.iadd, 1)), (112, (.istore 7, 2)), (114, (.aload_n 0, 1)), (115, (.getfield 13, 3)), (118, (.iload 7, 2)), (120, (.iload_n 1, 1)), (121, (.iastore, 1)), (122, (.aload_n 0, 1)), (123, (.getfield 13, 3)), (126, (.iload 7, 2)), (128, (.iconst 1, 1)), (129, (.iadd, 1)), (130, (.iload_n 2, 1)), (131, (.iastore, 1)), (132, (.aload_n 0, 1)), (133, (.getfield 13, 3)), (136, (.iload 7, 2)), (138, (.iconst 2, 1))] : List (Nat × (Instr × Nat))), decode cX12_sighting r.1 = .ok r.2 := by decide +kernel
theorem dX12_sighting_68 : decode cX12_sighting 68 = .ok (.iaload, 1) := dgX12_sighting_1 (68, (.iaload, 1)) (List.mem_of_getElem? (i := 0) rfl)
theorem dX12_sighting_69 : decode cX12_sighting 69 = .ok (.iadd, 1) := dgX12_sighting_1 (69, (.iadd, 1)) (List.mem_of_getElem? (i := 1) rfl)
theorem dX12_sighting_70 : decode cX12_sighting 70 = .ok (.istore 6, 2) := dgX12_sighting_1 (70, (.istore 6, 2)) (List.mem_of_getElem? (i := 2) rfl)
theorem dX12_sighting_72 : decode cX12_sighting 72 = .ok (.iinc 7 1, 3) := dgX12_sighting_1 (72, (.iinc 7 1, 3)) (List.mem_of_getElem? (i := 3) rfl)
theorem dX12_sighting_75 : decode cX12_sighting 75 = .ok (.goto (-30), 3) := dgX12_sighting_1 (75, (.goto (-30), 3)) (List.mem_of_getElem? (i := 4) rfl)
theorem dX12_sighting_78 : decode cX12_sighting 78 = .ok (.iload 5, 2) := dgX12_sighting_1 (78, (.iload 5, 2)) (List.mem_of_getElem? (i := 5) rfl)
theorem dX12_sighting_80 : decode cX12_sighting 80 = .ok (.bipush 10, 2) := dgX12_sighting_1 (80, (.bipush 10, 2)) (List.mem_of_getElem? (i := 6) rfl)
theorem dX12_sighting_82 : decode cX12_sighting 82 = .ok (.if_icmp .eq 15, 3) := dgX12_sighting_1 (82, (.if_icmp .eq 15, 3)) (List.mem_of_getElem? (i := 7) rfl)
theorem dX12_sighting_85 : decode cX12_sighting 85 = .ok (.iload 4, 2) := dgX12_sighting_1 (85, (.iload 4, 2)) (List.mem_of_getElem? (i := 8) rfl)
theorem dX12_sighting_87 : decode cX12_sighting 87 = .ok (.iconst 1, 1) := dgX12_sighting_1 (87, (.iconst 1, 1)) (List.mem_of_getElem? (i := 9) rfl)
theorem dX12_sighting_88 : decode cX12_sighting 88 = .ok (.if_icmp .ne 16, 3) := dgX12_sighting_1 (88, (.if_icmp .ne 16, 3)) (List.mem_of_getElem? (i := 10) rfl)
theorem dX12_sighting_91 : decode cX12_sighting 91 = .ok (.iload 6, 2) := dgX12_sighting_1 (91, (.iload 6, 2)) (List.mem_of_getElem? (i := 11) rfl)
theorem dX12_sighting_93 : decode cX12_sighting 93 = .ok (.iconst 5, 1) := dgX12_sighting_1 (93, (.iconst 5, 1)) (List.mem_of_getElem? (i := 12) rfl)
theorem dX12_sighting_94 : decode cX12_sighting 94 = .ok (.if_icmp .ne 10, 3) := dgX12_sighting_1 (94, (.if_icmp .ne 10, 3)) (List.mem_of_getElem? (i := 13) rfl)
theorem dX12_sighting_97 : decode cX12_sighting 97 = .ok (.aload_n 0, 1) := dgX12_sighting_1 (97, (.aload_n 0, 1)) (List.mem_of_getElem? (i := 14) rfl)
theorem dX12_sighting_98 : decode cX12_sighting 98 = .ok (.bipush (-5), 2) := dgX12_sighting_1 (98, (.bipush (-5), 2)) (List.mem_of_getElem? (i := 15) rfl)
theorem dX12_sighting_100 : decode cX12_sighting 100 = .ok (.invokevirtual 125, 3) := dgX12_sighting_1 (100, (.invokevirtual 125, 3)) (List.mem_of_getElem? (i := 16) rfl)
theorem dX12_sighting_103 : decode cX12_sighting 103 = .ok (.ireturn, 1) := dgX12_sighting_1 (103, (.ireturn, 1)) (List.mem_of_getElem? (i := 17) rfl)
theorem dX12_sighting_104 : decode cX12_sighting 104 = .ok (.sipush 230, 3) := dgX12_sighting_1 (104, (.sipush 230, 3)) (List.mem_of_getElem? (i := 18) rfl)
theorem dX12_sighting_107 : decode cX12_sighting 107 = .ok (.iconst 4, 1) := dgX12_sighting_1 (107, (.iconst 4, 1)) (List.mem_of_getElem? (i := 19) rfl)
theorem dX12_sighting_108 : decode cX12_sighting 108 = .ok (.iload 5, 2) := dgX12_sighting_1 (108, (.iload 5, 2)) (List.mem_of_getElem? (i := 20) rfl)
theorem dX12_sighting_110 : decode cX12_sighting 110 = .ok (.imul, 1) := dgX12_sighting_1 (110, (.imul, 1)) (List.mem_of_getElem? (i := 21) rfl)
theorem dX12_sighting_111 : decode cX12_sighting 111 = .ok (.iadd, 1) := dgX12_sighting_1 (111, (.iadd, 1)) (List.mem_of_getElem? (i := 22) rfl)
theorem dX12_sighting_112 : decode cX12_sighting 112 = .ok (.istore 7, 2) := dgX12_sighting_1 (112, (.istore 7, 2)) (List.mem_of_getElem? (i := 23) rfl)
theorem dX12_sighting_114 : decode cX12_sighting 114 = .ok (.aload_n 0, 1) := dgX12_sighting_1 (114, (.aload_n 0, 1)) (List.mem_of_getElem? (i := 24) rfl)
theorem dX12_sighting_115 : decode cX12_sighting 115 = .ok (.getfield 13, 3) := dgX12_sighting_1 (115, (.getfield 13, 3)) (List.mem_of_getElem? (i := 25) rfl)
theorem dX12_sighting_118 : decode cX12_sighting 118 = .ok (.iload 7, 2) := dgX12_sighting_1 (118, (.iload 7, 2)) (List.mem_of_getElem? (i := 26) rfl)
theorem dX12_sighting_120 : decode cX12_sighting 120 = .ok (.iload_n 1, 1) := dgX12_sighting_1 (120, (.iload_n 1, 1)) (List.mem_of_getElem? (i := 27) rfl)
theorem dX12_sighting_121 : decode cX12_sighting 121 = .ok (.iastore, 1) := dgX12_sighting_1 (121, (.iastore, 1)) (List.mem_of_getElem? (i := 28) rfl)
theorem dX12_sighting_122 : decode cX12_sighting 122 = .ok (.aload_n 0, 1) := dgX12_sighting_1 (122, (.aload_n 0, 1)) (List.mem_of_getElem? (i := 29) rfl)
theorem dX12_sighting_123 : decode cX12_sighting 123 = .ok (.getfield 13, 3) := dgX12_sighting_1 (123, (.getfield 13, 3)) (List.mem_of_getElem? (i := 30) rfl)
theorem dX12_sighting_126 : decode cX12_sighting 126 = .ok (.iload 7, 2) := dgX12_sighting_1 (126, (.iload 7, 2)) (List.mem_of_getElem? (i := 31) rfl)
theorem dX12_sighting_128 : decode cX12_sighting 128 = .ok (.iconst 1, 1) := dgX12_sighting_1 (128, (.iconst 1, 1)) (List.mem_of_getElem? (i := 32) rfl)
theorem dX12_sighting_129 : decode cX12_sighting 129 = .ok (.iadd, 1) := dgX12_sighting_1 (129, (.iadd, 1)) (List.mem_of_getElem? (i := 33) rfl)
theorem dX12_sighting_130 : decode cX12_sighting 130 = .ok (.iload_n 2, 1) := dgX12_sighting_1 (130, (.iload_n 2, 1)) (List.mem_of_getElem? (i := 34) rfl)
theorem dX12_sighting_131 : decode cX12_sighting 131 = .ok (.iastore, 1) := dgX12_sighting_1 (131, (.iastore, 1)) (List.mem_of_getElem? (i := 35) rfl)
theorem dX12_sighting_132 : decode cX12_sighting 132 = .ok (.aload_n 0, 1) := dgX12_sighting_1 (132, (.aload_n 0, 1)) (List.mem_of_getElem? (i := 36) rfl)
theorem dX12_sighting_133 : decode cX12_sighting 133 = .ok (.getfield 13, 3) := dgX12_sighting_1 (133, (.getfield 13, 3)) (List.mem_of_getElem? (i := 37) rfl)
theorem dX12_sighting_136 : decode cX12_sighting 136 = .ok (.iload 7, 2) := dgX12_sighting_1 (136, (.iload 7, 2)) (List.mem_of_getElem? (i := 38) rfl)
theorem dX12_sighting_138 : decode cX12_sighting 138 = .ok (.iconst 2, 1) := dgX12_sighting_1 (138, (.iconst 2, 1)) (List.mem_of_getElem? (i := 39) rfl)
theorem dgX12_sighting_2 : ∀ r ∈ ([(139, (.iadd, 1)), (140, (.iload_n 3, 1)), (141, (.iastore, 1)), (142, (.aload_n 0, 1)), (143, (.getfield 13, 3)), (146, (.iload 7, 2)), (148, (.iconst 3, 1)), (149, (.iadd, 1)), (150, (.iload 4, 2)), (152, (.iastore, 1)), (153, (.aload_n 0, 1)), (154, (.getfield 13, 3)), (157, (.iconst 5, 1)), (158, (.dup2, 1)), (159, (.iaload, 1)), (160, (.iconst 1, 1)), (161, (.iadd, 1)), (162, (.iastore, 1)), (163, (.aload_n 0, 1)), (164, (.iload 5, 2)), (166, (.iconst 1, 1)), (167, (.iadd, 1)), (168, (.invokevirtual 125, 3)), (171, (.ireturn, 1))] : List (Nat × (Instr × Nat))), decode cX12_sighting r.1 = .ok r.2 := by decide +kernel
theorem dX12_sighting_139 : decode cX12_sighting 139 = .ok (.iadd, 1) := dgX12_sighting_2 (139, (.iadd, 1)) (List.mem_of_getElem? (i := 0) rfl)
theorem dX12_sighting_140 : decode cX12_sighting 140 = .ok (.iload_n 3, 1) := dgX12_sighting_2 (140, (.iload_n 3, 1)) (List.mem_of_getElem? (i := 1) rfl)
theorem dX12_sighting_141 : decode cX12_sighting 141 = .ok (.iastore, 1) := dgX12_sighting_2 (141, (.iastore, 1)) (List.mem_of_getElem? (i := 2) rfl)
theorem dX12_sighting_142 : decode cX12_sighting 142 = .ok (.aload_n 0, 1) := dgX12_sighting_2 (142, (.aload_n 0, 1)) (List.mem_of_getElem? (i := 3) rfl)
theorem dX12_sighting_143 : decode cX12_sighting 143 = .ok (.getfield 13, 3) := dgX12_sighting_2 (143, (.getfield 13, 3)) (List.mem_of_getElem? (i := 4) rfl)
theorem dX12_sighting_146 : decode cX12_sighting 146 = .ok (.iload 7, 2) := dgX12_sighting_2 (146, (.iload 7, 2)) (List.mem_of_getElem? (i := 5) rfl)
theorem dX12_sighting_148 : decode cX12_sighting 148 = .ok (.iconst 3, 1) := dgX12_sighting_2 (148, (.iconst 3, 1)) (List.mem_of_getElem? (i := 6) rfl)
theorem dX12_sighting_149 : decode cX12_sighting 149 = .ok (.iadd, 1) := dgX12_sighting_2 (149, (.iadd, 1)) (List.mem_of_getElem? (i := 7) rfl)
theorem dX12_sighting_150 : decode cX12_sighting 150 = .ok (.iload 4, 2) := dgX12_sighting_2 (150, (.iload 4, 2)) (List.mem_of_getElem? (i := 8) rfl)
theorem dX12_sighting_152 : decode cX12_sighting 152 = .ok (.iastore, 1) := dgX12_sighting_2 (152, (.iastore, 1)) (List.mem_of_getElem? (i := 9) rfl)
theorem dX12_sighting_153 : decode cX12_sighting 153 = .ok (.aload_n 0, 1) := dgX12_sighting_2 (153, (.aload_n 0, 1)) (List.mem_of_getElem? (i := 10) rfl)
theorem dX12_sighting_154 : decode cX12_sighting 154 = .ok (.getfield 13, 3) := dgX12_sighting_2 (154, (.getfield 13, 3)) (List.mem_of_getElem? (i := 11) rfl)
theorem dX12_sighting_157 : decode cX12_sighting 157 = .ok (.iconst 5, 1) := dgX12_sighting_2 (157, (.iconst 5, 1)) (List.mem_of_getElem? (i := 12) rfl)
theorem dX12_sighting_158 : decode cX12_sighting 158 = .ok (.dup2, 1) := dgX12_sighting_2 (158, (.dup2, 1)) (List.mem_of_getElem? (i := 13) rfl)
theorem dX12_sighting_159 : decode cX12_sighting 159 = .ok (.iaload, 1) := dgX12_sighting_2 (159, (.iaload, 1)) (List.mem_of_getElem? (i := 14) rfl)
theorem dX12_sighting_160 : decode cX12_sighting 160 = .ok (.iconst 1, 1) := dgX12_sighting_2 (160, (.iconst 1, 1)) (List.mem_of_getElem? (i := 15) rfl)
theorem dX12_sighting_161 : decode cX12_sighting 161 = .ok (.iadd, 1) := dgX12_sighting_2 (161, (.iadd, 1)) (List.mem_of_getElem? (i := 16) rfl)
theorem dX12_sighting_162 : decode cX12_sighting 162 = .ok (.iastore, 1) := dgX12_sighting_2 (162, (.iastore, 1)) (List.mem_of_getElem? (i := 17) rfl)
theorem dX12_sighting_163 : decode cX12_sighting 163 = .ok (.aload_n 0, 1) := dgX12_sighting_2 (163, (.aload_n 0, 1)) (List.mem_of_getElem? (i := 18) rfl)
theorem dX12_sighting_164 : decode cX12_sighting 164 = .ok (.iload 5, 2) := dgX12_sighting_2 (164, (.iload 5, 2)) (List.mem_of_getElem? (i := 19) rfl)
theorem dX12_sighting_166 : decode cX12_sighting 166 = .ok (.iconst 1, 1) := dgX12_sighting_2 (166, (.iconst 1, 1)) (List.mem_of_getElem? (i := 20) rfl)
theorem dX12_sighting_167 : decode cX12_sighting 167 = .ok (.iadd, 1) := dgX12_sighting_2 (167, (.iadd, 1)) (List.mem_of_getElem? (i := 21) rfl)
theorem dX12_sighting_168 : decode cX12_sighting 168 = .ok (.invokevirtual 125, 3) := dgX12_sighting_2 (168, (.invokevirtual 125, 3)) (List.mem_of_getElem? (i := 22) rfl)
theorem dX12_sighting_171 : decode cX12_sighting 171 = .ok (.ireturn, 1) := dgX12_sighting_2 (171, (.ireturn, 1)) (List.mem_of_getElem? (i := 23) rfl)
theorem dgX12_force_0 : ∀ r ∈ ([(0, (.aload_n 0, 1)), (1, (.iconst 0, 1)), (2, (.putfield 107, 3)), (5, (.iload_n 1, 1)), (6, (.iconst (-1), 1)), (7, (.if_icmp .eq 21, 3)), (10, (.iload_n 1, 1)), (11, (.i2l, 1)), (12, (.lconst 0, 1)), (13, (.aload_n 0, 1)), (14, (.getfield 13, 3)), (17, (.iconst 2, 1)), (18, (.iaload, 1)), (19, (.i2l, 1)), (20, (.lconst 1, 1)), (21, (.lsub, 1)), (22, (.invokestatic 121, 3)), (25, (.ifCond .eq 12, 3)), (28, (.aload_n 0, 1)), (29, (.iconst 3, 1)), (30, (.iload_n 1, 1)), (31, (.invokevirtual 151, 3)), (34, (.goto 9, 3)), (37, (.aload_n 0, 1)), (38, (.bipush (-2), 2)), (40, (.invokevirtual 125, 3)), (43, (.ireturn, 1))] : List (Nat × (Instr × Nat))), decode cX12_force r.1 = .ok r.2 := by decide +kernel
theorem dX12_force_0 : decode cX12_force 0 = .ok (.aload_n 0, 1) := dgX12_force_0 (0, (.aload_n 0, 1)) (List.mem_of_getElem? (i := 0) rfl)
theorem dX12_force_1 : decode cX12_force 1 = .ok (.iconst 0, 1) := dgX12_force_0 (1, (.iconst 0, 1)) (List.mem_of_getElem? (i := 1) rfl)
theorem dX12_force_2 : decode cX12_force 2 = .ok (.putfield 107, 3) := dgX12_force_0 (2, (.putfield 107, 3)) (List.mem_of_getElem? (i := 2) rfl)
theorem dX12_force_5 : decode cX12_force 5 = .ok (.iload_n 1, 1) := dgX12_force_0 (5, (.iload_n 1, 1)) (List.mem_of_getElem? (i := 3) rfl)
theorem dX12_force_6 : decode cX12_force 6 = .ok (.iconst (-1), 1) := dgX12_force_0 (6, (.iconst (-1), 1)) (List.mem_of_getElem? (i := 4) rfl)
theorem dX12_force_7 : decode cX12_force 7 = .ok (.if_icmp .eq 21, 3) := dgX12_force_0 (7, (.if_icmp .eq 21, 3)) (List.mem_of_getElem? (i := 5) rfl)
theorem dX12_force_10 : decode cX12_force 10 = .ok (.iload_n 1, 1) := dgX12_force_0 (10, (.iload_n 1, 1)) (List.mem_of_getElem? (i := 6) rfl)
theorem dX12_force_11 : decode cX12_force 11 = .ok (.i2l, 1) := dgX12_force_0 (11, (.i2l, 1)) (List.mem_of_getElem? (i := 7) rfl)
theorem dX12_force_12 : decode cX12_force 12 = .ok (.lconst 0, 1) := dgX12_force_0 (12, (.lconst 0, 1)) (List.mem_of_getElem? (i := 8) rfl)
theorem dX12_force_13 : decode cX12_force 13 = .ok (.aload_n 0, 1) := dgX12_force_0 (13, (.aload_n 0, 1)) (List.mem_of_getElem? (i := 9) rfl)
theorem dX12_force_14 : decode cX12_force 14 = .ok (.getfield 13, 3) := dgX12_force_0 (14, (.getfield 13, 3)) (List.mem_of_getElem? (i := 10) rfl)
theorem dX12_force_17 : decode cX12_force 17 = .ok (.iconst 2, 1) := dgX12_force_0 (17, (.iconst 2, 1)) (List.mem_of_getElem? (i := 11) rfl)
theorem dX12_force_18 : decode cX12_force 18 = .ok (.iaload, 1) := dgX12_force_0 (18, (.iaload, 1)) (List.mem_of_getElem? (i := 12) rfl)
theorem dX12_force_19 : decode cX12_force 19 = .ok (.i2l, 1) := dgX12_force_0 (19, (.i2l, 1)) (List.mem_of_getElem? (i := 13) rfl)
theorem dX12_force_20 : decode cX12_force 20 = .ok (.lconst 1, 1) := dgX12_force_0 (20, (.lconst 1, 1)) (List.mem_of_getElem? (i := 14) rfl)
theorem dX12_force_21 : decode cX12_force 21 = .ok (.lsub, 1) := dgX12_force_0 (21, (.lsub, 1)) (List.mem_of_getElem? (i := 15) rfl)
theorem dX12_force_22 : decode cX12_force 22 = .ok (.invokestatic 121, 3) := dgX12_force_0 (22, (.invokestatic 121, 3)) (List.mem_of_getElem? (i := 16) rfl)
theorem dX12_force_25 : decode cX12_force 25 = .ok (.ifCond .eq 12, 3) := dgX12_force_0 (25, (.ifCond .eq 12, 3)) (List.mem_of_getElem? (i := 17) rfl)
theorem dX12_force_28 : decode cX12_force 28 = .ok (.aload_n 0, 1) := dgX12_force_0 (28, (.aload_n 0, 1)) (List.mem_of_getElem? (i := 18) rfl)
theorem dX12_force_29 : decode cX12_force 29 = .ok (.iconst 3, 1) := dgX12_force_0 (29, (.iconst 3, 1)) (List.mem_of_getElem? (i := 19) rfl)
theorem dX12_force_30 : decode cX12_force 30 = .ok (.iload_n 1, 1) := dgX12_force_0 (30, (.iload_n 1, 1)) (List.mem_of_getElem? (i := 20) rfl)
theorem dX12_force_31 : decode cX12_force 31 = .ok (.invokevirtual 151, 3) := dgX12_force_0 (31, (.invokevirtual 151, 3)) (List.mem_of_getElem? (i := 21) rfl)
theorem dX12_force_34 : decode cX12_force 34 = .ok (.goto 9, 3) := dgX12_force_0 (34, (.goto 9, 3)) (List.mem_of_getElem? (i := 22) rfl)
theorem dX12_force_37 : decode cX12_force 37 = .ok (.aload_n 0, 1) := dgX12_force_0 (37, (.aload_n 0, 1)) (List.mem_of_getElem? (i := 23) rfl)
theorem dX12_force_38 : decode cX12_force 38 = .ok (.bipush (-2), 2) := dgX12_force_0 (38, (.bipush (-2), 2)) (List.mem_of_getElem? (i := 24) rfl)
theorem dX12_force_40 : decode cX12_force 40 = .ok (.invokevirtual 125, 3) := dgX12_force_0 (40, (.invokevirtual 125, 3)) (List.mem_of_getElem? (i := 25) rfl)
theorem dX12_force_43 : decode cX12_force 43 = .ok (.ireturn, 1) := dgX12_force_0 (43, (.ireturn, 1)) (List.mem_of_getElem? (i := 26) rfl)
theorem ba_step {f g : Nat → Int32} {p k k' x : Int32} (e : ∀ j : Nat, (j : Int) < k.toInt → g j = f (5740 * p.toInt.toNat + j)) (h0 : 0 ≤ k.toInt) (hp : 0 ≤ p.toInt) (hk : k'.toInt = k.toInt + 1) (hx : x.toInt = 5740 * p.toInt + k.toInt) : ∀ j : Nat, (j : Int) < k'.toInt → upd g k.toNatClampNeg (f x.toNatClampNeg) j = f (5740 * p.toInt.toNat + j) := by
  intro j hj
  have c := g5_clamp x
  have d := g5_clamp k
  by_cases q : j = k.toNatClampNeg
  · subst q
    rw [upd_eq]; congr 1; omega
  · rw [upd_ne q]; exact e j (by omega)
theorem dgX12_image_0 : ∀ r ∈ ([(0, (.aload_n 0, 1)), (1, (.iconst 0, 1)), (2, (.putfield 107, 3)), (5, (.iload_n 1, 1)), (6, (.i2l, 1)), (7, (.lconst 0, 1)), (8, (.lconst 1, 1)), (9, (.invokestatic 121, 3)), (12, (.ifCond .ne 9, 3)), (15, (.aload_n 0, 1)), (16, (.iconst (-1), 1)), (17, (.invokevirtual 125, 3)), (20, (.ireturn, 1)), (21, (.iconst 0, 1)), (22, (.istore_n 2, 1)), (23, (.iload_n 2, 1)), (24, (.sipush 5740, 3)), (27, (.if_icmp .ge 27, 3)), (30, (.aload_n 0, 1)), (31, (.getfield 16, 3)), (34, (.sipush 5740, 3)), (37, (.iload_n 1, 1)), (38, (.imul, 1)), (39, (.iload_n 2, 1)), (40, (.iadd, 1)), (41, (.aload_n 0, 1)), (42, (.getfield 13, 3)), (45, (.iload_n 2, 1)), (46, (.iaload, 1)), (47, (.iastore, 1)), (48, (.iinc 2 1, 3)), (51, (.goto (-28), 3)), (54, (.aload_n 0, 1)), (55, (.getfield 19, 3)), (58, (.iload_n 1, 1)), (59, (.iconst 1, 1)), (60, (.bastore, 1)), (61, (.aload_n 0, 1)), (62, (.iconst 0, 1)), (63, (.invokevirtual 125, 3))] : List (Nat × (Instr × Nat))), decode cX12_image r.1 = .ok r.2 := by decide +kernel
theorem dX12_image_0 : decode cX12_image 0 = .ok (.aload_n 0, 1) := dgX12_image_0 (0, (.aload_n 0, 1)) (List.mem_of_getElem? (i := 0) rfl)
theorem dX12_image_1 : decode cX12_image 1 = .ok (.iconst 0, 1) := dgX12_image_0 (1, (.iconst 0, 1)) (List.mem_of_getElem? (i := 1) rfl)
theorem dX12_image_2 : decode cX12_image 2 = .ok (.putfield 107, 3) := dgX12_image_0 (2, (.putfield 107, 3)) (List.mem_of_getElem? (i := 2) rfl)
theorem dX12_image_5 : decode cX12_image 5 = .ok (.iload_n 1, 1) := dgX12_image_0 (5, (.iload_n 1, 1)) (List.mem_of_getElem? (i := 3) rfl)
theorem dX12_image_6 : decode cX12_image 6 = .ok (.i2l, 1) := dgX12_image_0 (6, (.i2l, 1)) (List.mem_of_getElem? (i := 4) rfl)
theorem dX12_image_7 : decode cX12_image 7 = .ok (.lconst 0, 1) := dgX12_image_0 (7, (.lconst 0, 1)) (List.mem_of_getElem? (i := 5) rfl)
theorem dX12_image_8 : decode cX12_image 8 = .ok (.lconst 1, 1) := dgX12_image_0 (8, (.lconst 1, 1)) (List.mem_of_getElem? (i := 6) rfl)
theorem dX12_image_9 : decode cX12_image 9 = .ok (.invokestatic 121, 3) := dgX12_image_0 (9, (.invokestatic 121, 3)) (List.mem_of_getElem? (i := 7) rfl)
theorem dX12_image_12 : decode cX12_image 12 = .ok (.ifCond .ne 9, 3) := dgX12_image_0 (12, (.ifCond .ne 9, 3)) (List.mem_of_getElem? (i := 8) rfl)
theorem dX12_image_15 : decode cX12_image 15 = .ok (.aload_n 0, 1) := dgX12_image_0 (15, (.aload_n 0, 1)) (List.mem_of_getElem? (i := 9) rfl)
theorem dX12_image_16 : decode cX12_image 16 = .ok (.iconst (-1), 1) := dgX12_image_0 (16, (.iconst (-1), 1)) (List.mem_of_getElem? (i := 10) rfl)
theorem dX12_image_17 : decode cX12_image 17 = .ok (.invokevirtual 125, 3) := dgX12_image_0 (17, (.invokevirtual 125, 3)) (List.mem_of_getElem? (i := 11) rfl)
theorem dX12_image_20 : decode cX12_image 20 = .ok (.ireturn, 1) := dgX12_image_0 (20, (.ireturn, 1)) (List.mem_of_getElem? (i := 12) rfl)
theorem dX12_image_21 : decode cX12_image 21 = .ok (.iconst 0, 1) := dgX12_image_0 (21, (.iconst 0, 1)) (List.mem_of_getElem? (i := 13) rfl)
theorem dX12_image_22 : decode cX12_image 22 = .ok (.istore_n 2, 1) := dgX12_image_0 (22, (.istore_n 2, 1)) (List.mem_of_getElem? (i := 14) rfl)
theorem dX12_image_23 : decode cX12_image 23 = .ok (.iload_n 2, 1) := dgX12_image_0 (23, (.iload_n 2, 1)) (List.mem_of_getElem? (i := 15) rfl)
theorem dX12_image_24 : decode cX12_image 24 = .ok (.sipush 5740, 3) := dgX12_image_0 (24, (.sipush 5740, 3)) (List.mem_of_getElem? (i := 16) rfl)
theorem dX12_image_27 : decode cX12_image 27 = .ok (.if_icmp .ge 27, 3) := dgX12_image_0 (27, (.if_icmp .ge 27, 3)) (List.mem_of_getElem? (i := 17) rfl)
theorem dX12_image_30 : decode cX12_image 30 = .ok (.aload_n 0, 1) := dgX12_image_0 (30, (.aload_n 0, 1)) (List.mem_of_getElem? (i := 18) rfl)
theorem dX12_image_31 : decode cX12_image 31 = .ok (.getfield 16, 3) := dgX12_image_0 (31, (.getfield 16, 3)) (List.mem_of_getElem? (i := 19) rfl)
theorem dX12_image_34 : decode cX12_image 34 = .ok (.sipush 5740, 3) := dgX12_image_0 (34, (.sipush 5740, 3)) (List.mem_of_getElem? (i := 20) rfl)
theorem dX12_image_37 : decode cX12_image 37 = .ok (.iload_n 1, 1) := dgX12_image_0 (37, (.iload_n 1, 1)) (List.mem_of_getElem? (i := 21) rfl)
theorem dX12_image_38 : decode cX12_image 38 = .ok (.imul, 1) := dgX12_image_0 (38, (.imul, 1)) (List.mem_of_getElem? (i := 22) rfl)
theorem dX12_image_39 : decode cX12_image 39 = .ok (.iload_n 2, 1) := dgX12_image_0 (39, (.iload_n 2, 1)) (List.mem_of_getElem? (i := 23) rfl)
theorem dX12_image_40 : decode cX12_image 40 = .ok (.iadd, 1) := dgX12_image_0 (40, (.iadd, 1)) (List.mem_of_getElem? (i := 24) rfl)
theorem dX12_image_41 : decode cX12_image 41 = .ok (.aload_n 0, 1) := dgX12_image_0 (41, (.aload_n 0, 1)) (List.mem_of_getElem? (i := 25) rfl)
theorem dX12_image_42 : decode cX12_image 42 = .ok (.getfield 13, 3) := dgX12_image_0 (42, (.getfield 13, 3)) (List.mem_of_getElem? (i := 26) rfl)
theorem dX12_image_45 : decode cX12_image 45 = .ok (.iload_n 2, 1) := dgX12_image_0 (45, (.iload_n 2, 1)) (List.mem_of_getElem? (i := 27) rfl)
theorem dX12_image_46 : decode cX12_image 46 = .ok (.iaload, 1) := dgX12_image_0 (46, (.iaload, 1)) (List.mem_of_getElem? (i := 28) rfl)
theorem dX12_image_47 : decode cX12_image 47 = .ok (.iastore, 1) := dgX12_image_0 (47, (.iastore, 1)) (List.mem_of_getElem? (i := 29) rfl)
theorem dX12_image_48 : decode cX12_image 48 = .ok (.iinc 2 1, 3) := dgX12_image_0 (48, (.iinc 2 1, 3)) (List.mem_of_getElem? (i := 30) rfl)
theorem dX12_image_51 : decode cX12_image 51 = .ok (.goto (-28), 3) := dgX12_image_0 (51, (.goto (-28), 3)) (List.mem_of_getElem? (i := 31) rfl)
theorem dX12_image_54 : decode cX12_image 54 = .ok (.aload_n 0, 1) := dgX12_image_0 (54, (.aload_n 0, 1)) (List.mem_of_getElem? (i := 32) rfl)
theorem dX12_image_55 : decode cX12_image 55 = .ok (.getfield 19, 3) := dgX12_image_0 (55, (.getfield 19, 3)) (List.mem_of_getElem? (i := 33) rfl)
theorem dX12_image_58 : decode cX12_image 58 = .ok (.iload_n 1, 1) := dgX12_image_0 (58, (.iload_n 1, 1)) (List.mem_of_getElem? (i := 34) rfl)
theorem dX12_image_59 : decode cX12_image 59 = .ok (.iconst 1, 1) := dgX12_image_0 (59, (.iconst 1, 1)) (List.mem_of_getElem? (i := 35) rfl)
theorem dX12_image_60 : decode cX12_image 60 = .ok (.bastore, 1) := dgX12_image_0 (60, (.bastore, 1)) (List.mem_of_getElem? (i := 36) rfl)
theorem dX12_image_61 : decode cX12_image 61 = .ok (.aload_n 0, 1) := dgX12_image_0 (61, (.aload_n 0, 1)) (List.mem_of_getElem? (i := 37) rfl)
theorem dX12_image_62 : decode cX12_image 62 = .ok (.iconst 0, 1) := dgX12_image_0 (62, (.iconst 0, 1)) (List.mem_of_getElem? (i := 38) rfl)
theorem dX12_image_63 : decode cX12_image 63 = .ok (.invokevirtual 125, 3) := dgX12_image_0 (63, (.invokevirtual 125, 3)) (List.mem_of_getElem? (i := 39) rfl)
theorem dgX12_image_1 : ∀ r ∈ ([(66, (.ireturn, 1))] : List (Nat × (Instr × Nat))), decode cX12_image r.1 = .ok r.2 := by decide +kernel
theorem dX12_image_66 : decode cX12_image 66 = .ok (.ireturn, 1) := dgX12_image_1 (66, (.ireturn, 1)) (List.mem_of_getElem? (i := 0) rfl)
theorem fl_X12_19 : Cond.fieldLink RX12 19 "LateGlassModel" "isKept" "[Z" ∈ tblG := tg 1208 (by decide +kernel) (by decide +kernel)
theorem fl_X12_16 : Cond.fieldLink RX12 16 "LateGlassModel" "images" "[I" ∈ tblG := tg 1207 (by decide +kernel) (by decide +kernel)
theorem dgX12_back_0 : ∀ r ∈ ([(0, (.aload_n 0, 1)), (1, (.iconst 0, 1)), (2, (.putfield 107, 3)), (5, (.iload_n 1, 1)), (6, (.i2l, 1)), (7, (.lconst 0, 1)), (8, (.lconst 1, 1)), (9, (.invokestatic 121, 3)), (12, (.ifCond .ne 9, 3)), (15, (.aload_n 0, 1)), (16, (.iconst (-1), 1)), (17, (.invokevirtual 125, 3)), (20, (.ireturn, 1)), (21, (.aload_n 0, 1)), (22, (.getfield 19, 3)), (25, (.iload_n 1, 1)), (26, (.baload, 1)), (27, (.ifCond .ne 10, 3)), (30, (.aload_n 0, 1)), (31, (.bipush (-2), 2)), (33, (.invokevirtual 125, 3)), (36, (.ireturn, 1)), (37, (.iconst 0, 1)), (38, (.istore_n 2, 1)), (39, (.iload_n 2, 1)), (40, (.sipush 5740, 3)), (43, (.if_icmp .ge 27, 3)), (46, (.aload_n 0, 1)), (47, (.getfield 13, 3)), (50, (.iload_n 2, 1)), (51, (.aload_n 0, 1)), (52, (.getfield 16, 3)), (55, (.sipush 5740, 3)), (58, (.iload_n 1, 1)), (59, (.imul, 1)), (60, (.iload_n 2, 1)), (61, (.iadd, 1)), (62, (.iaload, 1)), (63, (.iastore, 1)), (64, (.iinc 2 1, 3))] : List (Nat × (Instr × Nat))), decode cX12_back r.1 = .ok r.2 := by decide +kernel
theorem dX12_back_0 : decode cX12_back 0 = .ok (.aload_n 0, 1) := dgX12_back_0 (0, (.aload_n 0, 1)) (List.mem_of_getElem? (i := 0) rfl)
theorem dX12_back_1 : decode cX12_back 1 = .ok (.iconst 0, 1) := dgX12_back_0 (1, (.iconst 0, 1)) (List.mem_of_getElem? (i := 1) rfl)
theorem dX12_back_2 : decode cX12_back 2 = .ok (.putfield 107, 3) := dgX12_back_0 (2, (.putfield 107, 3)) (List.mem_of_getElem? (i := 2) rfl)
theorem dX12_back_5 : decode cX12_back 5 = .ok (.iload_n 1, 1) := dgX12_back_0 (5, (.iload_n 1, 1)) (List.mem_of_getElem? (i := 3) rfl)
theorem dX12_back_6 : decode cX12_back 6 = .ok (.i2l, 1) := dgX12_back_0 (6, (.i2l, 1)) (List.mem_of_getElem? (i := 4) rfl)
theorem dX12_back_7 : decode cX12_back 7 = .ok (.lconst 0, 1) := dgX12_back_0 (7, (.lconst 0, 1)) (List.mem_of_getElem? (i := 5) rfl)
theorem dX12_back_8 : decode cX12_back 8 = .ok (.lconst 1, 1) := dgX12_back_0 (8, (.lconst 1, 1)) (List.mem_of_getElem? (i := 6) rfl)
theorem dX12_back_9 : decode cX12_back 9 = .ok (.invokestatic 121, 3) := dgX12_back_0 (9, (.invokestatic 121, 3)) (List.mem_of_getElem? (i := 7) rfl)
theorem dX12_back_12 : decode cX12_back 12 = .ok (.ifCond .ne 9, 3) := dgX12_back_0 (12, (.ifCond .ne 9, 3)) (List.mem_of_getElem? (i := 8) rfl)
theorem dX12_back_15 : decode cX12_back 15 = .ok (.aload_n 0, 1) := dgX12_back_0 (15, (.aload_n 0, 1)) (List.mem_of_getElem? (i := 9) rfl)
theorem dX12_back_16 : decode cX12_back 16 = .ok (.iconst (-1), 1) := dgX12_back_0 (16, (.iconst (-1), 1)) (List.mem_of_getElem? (i := 10) rfl)
theorem dX12_back_17 : decode cX12_back 17 = .ok (.invokevirtual 125, 3) := dgX12_back_0 (17, (.invokevirtual 125, 3)) (List.mem_of_getElem? (i := 11) rfl)
theorem dX12_back_20 : decode cX12_back 20 = .ok (.ireturn, 1) := dgX12_back_0 (20, (.ireturn, 1)) (List.mem_of_getElem? (i := 12) rfl)
theorem dX12_back_21 : decode cX12_back 21 = .ok (.aload_n 0, 1) := dgX12_back_0 (21, (.aload_n 0, 1)) (List.mem_of_getElem? (i := 13) rfl)
theorem dX12_back_22 : decode cX12_back 22 = .ok (.getfield 19, 3) := dgX12_back_0 (22, (.getfield 19, 3)) (List.mem_of_getElem? (i := 14) rfl)
theorem dX12_back_25 : decode cX12_back 25 = .ok (.iload_n 1, 1) := dgX12_back_0 (25, (.iload_n 1, 1)) (List.mem_of_getElem? (i := 15) rfl)
theorem dX12_back_26 : decode cX12_back 26 = .ok (.baload, 1) := dgX12_back_0 (26, (.baload, 1)) (List.mem_of_getElem? (i := 16) rfl)
theorem dX12_back_27 : decode cX12_back 27 = .ok (.ifCond .ne 10, 3) := dgX12_back_0 (27, (.ifCond .ne 10, 3)) (List.mem_of_getElem? (i := 17) rfl)
theorem dX12_back_30 : decode cX12_back 30 = .ok (.aload_n 0, 1) := dgX12_back_0 (30, (.aload_n 0, 1)) (List.mem_of_getElem? (i := 18) rfl)
theorem dX12_back_31 : decode cX12_back 31 = .ok (.bipush (-2), 2) := dgX12_back_0 (31, (.bipush (-2), 2)) (List.mem_of_getElem? (i := 19) rfl)
theorem dX12_back_33 : decode cX12_back 33 = .ok (.invokevirtual 125, 3) := dgX12_back_0 (33, (.invokevirtual 125, 3)) (List.mem_of_getElem? (i := 20) rfl)
theorem dX12_back_36 : decode cX12_back 36 = .ok (.ireturn, 1) := dgX12_back_0 (36, (.ireturn, 1)) (List.mem_of_getElem? (i := 21) rfl)
theorem dX12_back_37 : decode cX12_back 37 = .ok (.iconst 0, 1) := dgX12_back_0 (37, (.iconst 0, 1)) (List.mem_of_getElem? (i := 22) rfl)
theorem dX12_back_38 : decode cX12_back 38 = .ok (.istore_n 2, 1) := dgX12_back_0 (38, (.istore_n 2, 1)) (List.mem_of_getElem? (i := 23) rfl)
theorem dX12_back_39 : decode cX12_back 39 = .ok (.iload_n 2, 1) := dgX12_back_0 (39, (.iload_n 2, 1)) (List.mem_of_getElem? (i := 24) rfl)
theorem dX12_back_40 : decode cX12_back 40 = .ok (.sipush 5740, 3) := dgX12_back_0 (40, (.sipush 5740, 3)) (List.mem_of_getElem? (i := 25) rfl)
theorem dX12_back_43 : decode cX12_back 43 = .ok (.if_icmp .ge 27, 3) := dgX12_back_0 (43, (.if_icmp .ge 27, 3)) (List.mem_of_getElem? (i := 26) rfl)
theorem dX12_back_46 : decode cX12_back 46 = .ok (.aload_n 0, 1) := dgX12_back_0 (46, (.aload_n 0, 1)) (List.mem_of_getElem? (i := 27) rfl)
theorem dX12_back_47 : decode cX12_back 47 = .ok (.getfield 13, 3) := dgX12_back_0 (47, (.getfield 13, 3)) (List.mem_of_getElem? (i := 28) rfl)
theorem dX12_back_50 : decode cX12_back 50 = .ok (.iload_n 2, 1) := dgX12_back_0 (50, (.iload_n 2, 1)) (List.mem_of_getElem? (i := 29) rfl)
theorem dX12_back_51 : decode cX12_back 51 = .ok (.aload_n 0, 1) := dgX12_back_0 (51, (.aload_n 0, 1)) (List.mem_of_getElem? (i := 30) rfl)
theorem dX12_back_52 : decode cX12_back 52 = .ok (.getfield 16, 3) := dgX12_back_0 (52, (.getfield 16, 3)) (List.mem_of_getElem? (i := 31) rfl)
theorem dX12_back_55 : decode cX12_back 55 = .ok (.sipush 5740, 3) := dgX12_back_0 (55, (.sipush 5740, 3)) (List.mem_of_getElem? (i := 32) rfl)
theorem dX12_back_58 : decode cX12_back 58 = .ok (.iload_n 1, 1) := dgX12_back_0 (58, (.iload_n 1, 1)) (List.mem_of_getElem? (i := 33) rfl)
theorem dX12_back_59 : decode cX12_back 59 = .ok (.imul, 1) := dgX12_back_0 (59, (.imul, 1)) (List.mem_of_getElem? (i := 34) rfl)
theorem dX12_back_60 : decode cX12_back 60 = .ok (.iload_n 2, 1) := dgX12_back_0 (60, (.iload_n 2, 1)) (List.mem_of_getElem? (i := 35) rfl)
theorem dX12_back_61 : decode cX12_back 61 = .ok (.iadd, 1) := dgX12_back_0 (61, (.iadd, 1)) (List.mem_of_getElem? (i := 36) rfl)
theorem dX12_back_62 : decode cX12_back 62 = .ok (.iaload, 1) := dgX12_back_0 (62, (.iaload, 1)) (List.mem_of_getElem? (i := 37) rfl)
theorem dX12_back_63 : decode cX12_back 63 = .ok (.iastore, 1) := dgX12_back_0 (63, (.iastore, 1)) (List.mem_of_getElem? (i := 38) rfl)
theorem dX12_back_64 : decode cX12_back 64 = .ok (.iinc 2 1, 3) := dgX12_back_0 (64, (.iinc 2 1, 3)) (List.mem_of_getElem? (i := 39) rfl)
theorem dgX12_back_1 : ∀ r ∈ ([(67, (.goto (-28), 3)), (70, (.aload_n 0, 1)), (71, (.iconst 0, 1)), (72, (.invokevirtual 125, 3)), (75, (.ireturn, 1))] : List (Nat × (Instr × Nat))), decode cX12_back r.1 = .ok r.2 := by decide +kernel
theorem dX12_back_67 : decode cX12_back 67 = .ok (.goto (-28), 3) := dgX12_back_1 (67, (.goto (-28), 3)) (List.mem_of_getElem? (i := 0) rfl)
theorem dX12_back_70 : decode cX12_back 70 = .ok (.aload_n 0, 1) := dgX12_back_1 (70, (.aload_n 0, 1)) (List.mem_of_getElem? (i := 1) rfl)
theorem dX12_back_71 : decode cX12_back 71 = .ok (.iconst 0, 1) := dgX12_back_1 (71, (.iconst 0, 1)) (List.mem_of_getElem? (i := 2) rfl)
theorem dX12_back_72 : decode cX12_back 72 = .ok (.invokevirtual 125, 3) := dgX12_back_1 (72, (.invokevirtual 125, 3)) (List.mem_of_getElem? (i := 3) rfl)
theorem dX12_back_75 : decode cX12_back 75 = .ok (.ireturn, 1) := dgX12_back_1 (75, (.ireturn, 1)) (List.mem_of_getElem? (i := 4) rfl)
theorem dgX12_drop_0 : ∀ r ∈ ([(0, (.aload_n 0, 1)), (1, (.iconst 0, 1)), (2, (.putfield 107, 3)), (5, (.iload_n 1, 1)), (6, (.i2l, 1)), (7, (.lconst 0, 1)), (8, (.aload_n 0, 1)), (9, (.getfield 13, 3)), (12, (.iconst 5, 1)), (13, (.iaload, 1)), (14, (.i2l, 1)), (15, (.lconst 1, 1)), (16, (.lsub, 1)), (17, (.invokestatic 121, 3)), (20, (.ifCond .ne 10, 3)), (23, (.aload_n 0, 1)), (24, (.bipush (-2), 2)), (26, (.invokevirtual 125, 3)), (29, (.ireturn, 1)), (30, (.sipush 230, 3)), (33, (.iconst 4, 1)), (34, (.iload_n 1, 1)), (35, (.imul, 1)), (36, (.iadd, 1)), (37, (.istore_n 2, 1)), (38, (.iload_n 2, 1)), (39, (.sipush 266, 3)), (42, (.if_icmp .ge 23, 3)), (45, (.aload_n 0, 1)), (46, (.getfield 13, 3)), (49, (.iload_n 2, 1)), (50, (.aload_n 0, 1)), (51, (.getfield 13, 3)), (54, (.iload_n 2, 1)), (55, (.iconst 4, 1)), (56, (.iadd, 1)), (57, (.iaload, 1)), (58, (.iastore, 1)), (59, (.iinc 2 1, 3)), (62, (.goto (-24), 3))] : List (Nat × (Instr × Nat))), decode cX12_drop r.1 = .ok r.2 := by decide +kernel
theorem dX12_drop_0 : decode cX12_drop 0 = .ok (.aload_n 0, 1) := dgX12_drop_0 (0, (.aload_n 0, 1)) (List.mem_of_getElem? (i := 0) rfl)
theorem dX12_drop_1 : decode cX12_drop 1 = .ok (.iconst 0, 1) := dgX12_drop_0 (1, (.iconst 0, 1)) (List.mem_of_getElem? (i := 1) rfl)
theorem dX12_drop_2 : decode cX12_drop 2 = .ok (.putfield 107, 3) := dgX12_drop_0 (2, (.putfield 107, 3)) (List.mem_of_getElem? (i := 2) rfl)
theorem dX12_drop_5 : decode cX12_drop 5 = .ok (.iload_n 1, 1) := dgX12_drop_0 (5, (.iload_n 1, 1)) (List.mem_of_getElem? (i := 3) rfl)
theorem dX12_drop_6 : decode cX12_drop 6 = .ok (.i2l, 1) := dgX12_drop_0 (6, (.i2l, 1)) (List.mem_of_getElem? (i := 4) rfl)
theorem dX12_drop_7 : decode cX12_drop 7 = .ok (.lconst 0, 1) := dgX12_drop_0 (7, (.lconst 0, 1)) (List.mem_of_getElem? (i := 5) rfl)
theorem dX12_drop_8 : decode cX12_drop 8 = .ok (.aload_n 0, 1) := dgX12_drop_0 (8, (.aload_n 0, 1)) (List.mem_of_getElem? (i := 6) rfl)
theorem dX12_drop_9 : decode cX12_drop 9 = .ok (.getfield 13, 3) := dgX12_drop_0 (9, (.getfield 13, 3)) (List.mem_of_getElem? (i := 7) rfl)
theorem dX12_drop_12 : decode cX12_drop 12 = .ok (.iconst 5, 1) := dgX12_drop_0 (12, (.iconst 5, 1)) (List.mem_of_getElem? (i := 8) rfl)
theorem dX12_drop_13 : decode cX12_drop 13 = .ok (.iaload, 1) := dgX12_drop_0 (13, (.iaload, 1)) (List.mem_of_getElem? (i := 9) rfl)
theorem dX12_drop_14 : decode cX12_drop 14 = .ok (.i2l, 1) := dgX12_drop_0 (14, (.i2l, 1)) (List.mem_of_getElem? (i := 10) rfl)
theorem dX12_drop_15 : decode cX12_drop 15 = .ok (.lconst 1, 1) := dgX12_drop_0 (15, (.lconst 1, 1)) (List.mem_of_getElem? (i := 11) rfl)
theorem dX12_drop_16 : decode cX12_drop 16 = .ok (.lsub, 1) := dgX12_drop_0 (16, (.lsub, 1)) (List.mem_of_getElem? (i := 12) rfl)
theorem dX12_drop_17 : decode cX12_drop 17 = .ok (.invokestatic 121, 3) := dgX12_drop_0 (17, (.invokestatic 121, 3)) (List.mem_of_getElem? (i := 13) rfl)
theorem dX12_drop_20 : decode cX12_drop 20 = .ok (.ifCond .ne 10, 3) := dgX12_drop_0 (20, (.ifCond .ne 10, 3)) (List.mem_of_getElem? (i := 14) rfl)
theorem dX12_drop_23 : decode cX12_drop 23 = .ok (.aload_n 0, 1) := dgX12_drop_0 (23, (.aload_n 0, 1)) (List.mem_of_getElem? (i := 15) rfl)
theorem dX12_drop_24 : decode cX12_drop 24 = .ok (.bipush (-2), 2) := dgX12_drop_0 (24, (.bipush (-2), 2)) (List.mem_of_getElem? (i := 16) rfl)
theorem dX12_drop_26 : decode cX12_drop 26 = .ok (.invokevirtual 125, 3) := dgX12_drop_0 (26, (.invokevirtual 125, 3)) (List.mem_of_getElem? (i := 17) rfl)
theorem dX12_drop_29 : decode cX12_drop 29 = .ok (.ireturn, 1) := dgX12_drop_0 (29, (.ireturn, 1)) (List.mem_of_getElem? (i := 18) rfl)
theorem dX12_drop_30 : decode cX12_drop 30 = .ok (.sipush 230, 3) := dgX12_drop_0 (30, (.sipush 230, 3)) (List.mem_of_getElem? (i := 19) rfl)
theorem dX12_drop_33 : decode cX12_drop 33 = .ok (.iconst 4, 1) := dgX12_drop_0 (33, (.iconst 4, 1)) (List.mem_of_getElem? (i := 20) rfl)
theorem dX12_drop_34 : decode cX12_drop 34 = .ok (.iload_n 1, 1) := dgX12_drop_0 (34, (.iload_n 1, 1)) (List.mem_of_getElem? (i := 21) rfl)
theorem dX12_drop_35 : decode cX12_drop 35 = .ok (.imul, 1) := dgX12_drop_0 (35, (.imul, 1)) (List.mem_of_getElem? (i := 22) rfl)
theorem dX12_drop_36 : decode cX12_drop 36 = .ok (.iadd, 1) := dgX12_drop_0 (36, (.iadd, 1)) (List.mem_of_getElem? (i := 23) rfl)
theorem dX12_drop_37 : decode cX12_drop 37 = .ok (.istore_n 2, 1) := dgX12_drop_0 (37, (.istore_n 2, 1)) (List.mem_of_getElem? (i := 24) rfl)
theorem dX12_drop_38 : decode cX12_drop 38 = .ok (.iload_n 2, 1) := dgX12_drop_0 (38, (.iload_n 2, 1)) (List.mem_of_getElem? (i := 25) rfl)
theorem dX12_drop_39 : decode cX12_drop 39 = .ok (.sipush 266, 3) := dgX12_drop_0 (39, (.sipush 266, 3)) (List.mem_of_getElem? (i := 26) rfl)
theorem dX12_drop_42 : decode cX12_drop 42 = .ok (.if_icmp .ge 23, 3) := dgX12_drop_0 (42, (.if_icmp .ge 23, 3)) (List.mem_of_getElem? (i := 27) rfl)
theorem dX12_drop_45 : decode cX12_drop 45 = .ok (.aload_n 0, 1) := dgX12_drop_0 (45, (.aload_n 0, 1)) (List.mem_of_getElem? (i := 28) rfl)
theorem dX12_drop_46 : decode cX12_drop 46 = .ok (.getfield 13, 3) := dgX12_drop_0 (46, (.getfield 13, 3)) (List.mem_of_getElem? (i := 29) rfl)
theorem dX12_drop_49 : decode cX12_drop 49 = .ok (.iload_n 2, 1) := dgX12_drop_0 (49, (.iload_n 2, 1)) (List.mem_of_getElem? (i := 30) rfl)
theorem dX12_drop_50 : decode cX12_drop 50 = .ok (.aload_n 0, 1) := dgX12_drop_0 (50, (.aload_n 0, 1)) (List.mem_of_getElem? (i := 31) rfl)
theorem dX12_drop_51 : decode cX12_drop 51 = .ok (.getfield 13, 3) := dgX12_drop_0 (51, (.getfield 13, 3)) (List.mem_of_getElem? (i := 32) rfl)
theorem dX12_drop_54 : decode cX12_drop 54 = .ok (.iload_n 2, 1) := dgX12_drop_0 (54, (.iload_n 2, 1)) (List.mem_of_getElem? (i := 33) rfl)
theorem dX12_drop_55 : decode cX12_drop 55 = .ok (.iconst 4, 1) := dgX12_drop_0 (55, (.iconst 4, 1)) (List.mem_of_getElem? (i := 34) rfl)
theorem dX12_drop_56 : decode cX12_drop 56 = .ok (.iadd, 1) := dgX12_drop_0 (56, (.iadd, 1)) (List.mem_of_getElem? (i := 35) rfl)
theorem dX12_drop_57 : decode cX12_drop 57 = .ok (.iaload, 1) := dgX12_drop_0 (57, (.iaload, 1)) (List.mem_of_getElem? (i := 36) rfl)
theorem dX12_drop_58 : decode cX12_drop 58 = .ok (.iastore, 1) := dgX12_drop_0 (58, (.iastore, 1)) (List.mem_of_getElem? (i := 37) rfl)
theorem dX12_drop_59 : decode cX12_drop 59 = .ok (.iinc 2 1, 3) := dgX12_drop_0 (59, (.iinc 2 1, 3)) (List.mem_of_getElem? (i := 38) rfl)
theorem dX12_drop_62 : decode cX12_drop 62 = .ok (.goto (-24), 3) := dgX12_drop_0 (62, (.goto (-24), 3)) (List.mem_of_getElem? (i := 39) rfl)
theorem dgX12_drop_1 : ∀ r ∈ ([(65, (.aload_n 0, 1)), (66, (.getfield 13, 3)), (69, (.iconst 5, 1)), (70, (.dup2, 1)), (71, (.iaload, 1)), (72, (.iconst 1, 1)), (73, (.isub, 1)), (74, (.iastore, 1)), (75, (.aload_n 0, 1)), (76, (.aload_n 0, 1)), (77, (.getfield 13, 3)), (80, (.iconst 5, 1)), (81, (.iaload, 1)), (82, (.invokevirtual 125, 3)), (85, (.ireturn, 1))] : List (Nat × (Instr × Nat))), decode cX12_drop r.1 = .ok r.2 := by decide +kernel
theorem dX12_drop_65 : decode cX12_drop 65 = .ok (.aload_n 0, 1) := dgX12_drop_1 (65, (.aload_n 0, 1)) (List.mem_of_getElem? (i := 0) rfl)
theorem dX12_drop_66 : decode cX12_drop 66 = .ok (.getfield 13, 3) := dgX12_drop_1 (66, (.getfield 13, 3)) (List.mem_of_getElem? (i := 1) rfl)
theorem dX12_drop_69 : decode cX12_drop 69 = .ok (.iconst 5, 1) := dgX12_drop_1 (69, (.iconst 5, 1)) (List.mem_of_getElem? (i := 2) rfl)
theorem dX12_drop_70 : decode cX12_drop 70 = .ok (.dup2, 1) := dgX12_drop_1 (70, (.dup2, 1)) (List.mem_of_getElem? (i := 3) rfl)
theorem dX12_drop_71 : decode cX12_drop 71 = .ok (.iaload, 1) := dgX12_drop_1 (71, (.iaload, 1)) (List.mem_of_getElem? (i := 4) rfl)
theorem dX12_drop_72 : decode cX12_drop 72 = .ok (.iconst 1, 1) := dgX12_drop_1 (72, (.iconst 1, 1)) (List.mem_of_getElem? (i := 5) rfl)
theorem dX12_drop_73 : decode cX12_drop 73 = .ok (.isub, 1) := dgX12_drop_1 (73, (.isub, 1)) (List.mem_of_getElem? (i := 6) rfl)
theorem dX12_drop_74 : decode cX12_drop 74 = .ok (.iastore, 1) := dgX12_drop_1 (74, (.iastore, 1)) (List.mem_of_getElem? (i := 7) rfl)
theorem dX12_drop_75 : decode cX12_drop 75 = .ok (.aload_n 0, 1) := dgX12_drop_1 (75, (.aload_n 0, 1)) (List.mem_of_getElem? (i := 8) rfl)
theorem dX12_drop_76 : decode cX12_drop 76 = .ok (.aload_n 0, 1) := dgX12_drop_1 (76, (.aload_n 0, 1)) (List.mem_of_getElem? (i := 9) rfl)
theorem dX12_drop_77 : decode cX12_drop 77 = .ok (.getfield 13, 3) := dgX12_drop_1 (77, (.getfield 13, 3)) (List.mem_of_getElem? (i := 10) rfl)
theorem dX12_drop_80 : decode cX12_drop 80 = .ok (.iconst 5, 1) := dgX12_drop_1 (80, (.iconst 5, 1)) (List.mem_of_getElem? (i := 11) rfl)
theorem dX12_drop_81 : decode cX12_drop 81 = .ok (.iaload, 1) := dgX12_drop_1 (81, (.iaload, 1)) (List.mem_of_getElem? (i := 12) rfl)
theorem dX12_drop_82 : decode cX12_drop 82 = .ok (.invokevirtual 125, 3) := dgX12_drop_1 (82, (.invokevirtual 125, 3)) (List.mem_of_getElem? (i := 13) rfl)
theorem dX12_drop_85 : decode cX12_drop 85 = .ok (.ireturn, 1) := dgX12_drop_1 (85, (.ireturn, 1)) (List.mem_of_getElem? (i := 14) rfl)
