theorem dgX12_passes_2 : ∀ r ∈ ([(134, (.iconst 3, 1)), (135, (.iload_n 2, 1)), (136, (.imul, 1)), (137, (.iadd, 1)), (138, (.iconst 2, 1)), (139, (.iadd, 1)), (140, (.iaload, 1)), (141, (.iconst 0, 1)), (142, (.iconst 0, 1)), (143, (.invokevirtual 390, 3)), (146, (.ireturn, 1)), (147, (.iinc 2 1, 3)), (150, (.goto (-80), 3)), (153, (.iconst 1, 1)), (154, (.ireturn, 1))] : List (Nat × (Instr × Nat))), decode cX12_passes r.1 = .ok r.2 := by decide +kernel
theorem dX12_passes_134 : decode cX12_passes 134 = .ok (.iconst 3, 1) := dgX12_passes_2 (134, (.iconst 3, 1)) (List.mem_of_getElem? (i := 0) rfl)
theorem dX12_passes_135 : decode cX12_passes 135 = .ok (.iload_n 2, 1) := dgX12_passes_2 (135, (.iload_n 2, 1)) (List.mem_of_getElem? (i := 1) rfl)
theorem dX12_passes_136 : decode cX12_passes 136 = .ok (.imul, 1) := dgX12_passes_2 (136, (.imul, 1)) (List.mem_of_getElem? (i := 2) rfl)
theorem dX12_passes_137 : decode cX12_passes 137 = .ok (.iadd, 1) := dgX12_passes_2 (137, (.iadd, 1)) (List.mem_of_getElem? (i := 3) rfl)
theorem dX12_passes_138 : decode cX12_passes 138 = .ok (.iconst 2, 1) := dgX12_passes_2 (138, (.iconst 2, 1)) (List.mem_of_getElem? (i := 4) rfl)
theorem dX12_passes_139 : decode cX12_passes 139 = .ok (.iadd, 1) := dgX12_passes_2 (139, (.iadd, 1)) (List.mem_of_getElem? (i := 5) rfl)
theorem dX12_passes_140 : decode cX12_passes 140 = .ok (.iaload, 1) := dgX12_passes_2 (140, (.iaload, 1)) (List.mem_of_getElem? (i := 6) rfl)
theorem dX12_passes_141 : decode cX12_passes 141 = .ok (.iconst 0, 1) := dgX12_passes_2 (141, (.iconst 0, 1)) (List.mem_of_getElem? (i := 7) rfl)
theorem dX12_passes_142 : decode cX12_passes 142 = .ok (.iconst 0, 1) := dgX12_passes_2 (142, (.iconst 0, 1)) (List.mem_of_getElem? (i := 8) rfl)
theorem dX12_passes_143 : decode cX12_passes 143 = .ok (.invokevirtual 390, 3) := dgX12_passes_2 (143, (.invokevirtual 390, 3)) (List.mem_of_getElem? (i := 9) rfl)
theorem dX12_passes_146 : decode cX12_passes 146 = .ok (.ireturn, 1) := dgX12_passes_2 (146, (.ireturn, 1)) (List.mem_of_getElem? (i := 10) rfl)
theorem dX12_passes_147 : decode cX12_passes 147 = .ok (.iinc 2 1, 3) := dgX12_passes_2 (147, (.iinc 2 1, 3)) (List.mem_of_getElem? (i := 11) rfl)
theorem dX12_passes_150 : decode cX12_passes 150 = .ok (.goto (-80), 3) := dgX12_passes_2 (150, (.goto (-80), 3)) (List.mem_of_getElem? (i := 12) rfl)
theorem dX12_passes_153 : decode cX12_passes 153 = .ok (.iconst 1, 1) := dgX12_passes_2 (153, (.iconst 1, 1)) (List.mem_of_getElem? (i := 13) rfl)
theorem dX12_passes_154 : decode cX12_passes 154 = .ok (.ireturn, 1) := dgX12_passes_2 (154, (.ireturn, 1)) (List.mem_of_getElem? (i := 14) rfl)
theorem ml_X12_387 : Cond.methodLink RX12 387 yX12_is ∈ tblG := tg 1644 (by decide +kernel) (by decide +kernel)
theorem st_X12_is : Cond.static yX12_is ∈ tblG := tg 1645 (by decide +kernel) (by decide +kernel)
theorem cd_X12_is : Cond.code yX12_is cX12_is 2 (some .boolean) ∈ tblG := tg 1646 (by decide +kernel) (by decide +kernel)
theorem gW_X12_is : GoodIn tblG (wsG yX12_is cX12_is 2 (some .boolean)) := tgi cd_X12_is
theorem gS_X12_387 : GoodIn tblG (va_wsS RX12 387 yX12_is (wsG yX12_is cX12_is 2 (some .boolean))) := tgS ml_X12_387 st_X12_is ini_X12 gW_X12_is
theorem hs_X12_is : yX12_is.cls ≠ "java/lang/invoke/MethodHandle" ∧ yX12_is.cls ≠ "java/lang/invoke/VarHandle" ∧ (parseMethodDescriptor yX12_is.desc).map (fun d => d.parameters.length) = some 2 := by decide +kernel
theorem ml_X12_390 : Cond.methodLink RX12 390 yX12_turns ∈ tblG := tg 1647 (by decide +kernel) (by decide +kernel)
theorem im_X12_turns : Cond.instanceMethod yX12_turns ∈ tblG := tg 1649 (by decide +kernel) (by decide +kernel)
theorem se_X12_turns : Cond.selects RX12 yX12_turns yX12_turns ∈ tblG := tg 69 (by decide +kernel) (by decide +kernel)
theorem cd_X12_turns : Cond.code yX12_turns cX12_turns 8 (some .boolean) ∈ tblG := tg 1650 (by decide +kernel) (by decide +kernel)
theorem gW_X12_turns : GoodIn tblG (wsG yX12_turns cX12_turns 8 (some .boolean)) := tgi cd_X12_turns
theorem gV_X12_390 : GoodIn tblG (wsV RX12 390 RX12 yX12_turns (wsG yX12_turns cX12_turns 8 (some .boolean))) := tgV ml_X12_390 im_X12_turns se_X12_turns ini_X12 gW_X12_turns
theorem hv_X12_turns : yX12_turns.cls = RX12 ∧ yX12_turns.cls ≠ "java/lang/invoke/MethodHandle" ∧ yX12_turns.cls ≠ "java/lang/invoke/VarHandle" ∧ (parseMethodDescriptor yX12_turns.desc).map (fun d => d.parameters.length) = some 5 := by decide +kernel
set_option maxHeartbeats 4000000 in
set_option maxRecDepth 100000 in
theorem n_passes (l : Launch) (G : g5_G) (b_o b_ro b_se b_re b_rf b_im b_ke b_tp b_nl b_op b_ar b_pi b_pa b_ws b_hw b_pt b_ip b_ah b_be b_me b_tr b_ld b_wn : Nat) (sz : Nat) (u_th : Int32) (u_sa : Int32) (u_fd : Int32) (u_td : Int32) (u_fr : Int32) (u_to : Int32) (u_so : Int32) (u_fa : Int32) (u_bd : Int32) (u_nc : Int32) (u_co : Int32) (u_le : Int32) (u_pd : Int32) (u_od : Int32) (u_la : Int32) (u_bk : Int32) (u_ce : Int32) (u_ho : Int32) (u_wy : Int32) (u_bt : Int32) (u_ps : Int32) (u_tg : Int32) (u_sn : Int32) (u_ic : Int32) (u_wd : Int32) (u_id : Int32) (p_1 : Int32) (u_wo : Int64) (u_va : Int64) (u_su : Int64) (u_st : Int64) (v_ro : Nat → Int32) (v_se : Nat → Int64) (v_re : Nat → Int64) (h_u_td : 0 ≤ u_td.toInt ∧ u_td.toInt ≤ 400) (h_u_fr : 0 ≤ u_fr.toInt ∧ u_fr.toInt ≤ 400) (h_u_to : 0 ≤ u_to.toInt ∧ u_to.toInt ≤ 400) (h_u_bd : 0 ≤ u_bd.toInt ∧ u_bd.toInt ≤ 1) (h_u_nc : 0 ≤ u_nc.toInt ∧ u_nc.toInt ≤ 12) (h_u_co : 0 ≤ u_co.toInt ∧ u_co.toInt ≤ 400) (h_u_pd : 0 ≤ u_pd.toInt ∧ u_pd.toInt ≤ 400) (h_u_la : 0 ≤ u_la.toInt ∧ u_la.toInt ≤ 4840) (h_u_bk : 0 ≤ u_bk.toInt ∧ u_bk.toInt ≤ 1) (h_u_ce : 0 ≤ u_ce.toInt ∧ u_ce.toInt ≤ 63) (h_u_ho : 0 ≤ u_ho.toInt ∧ u_ho.toInt ≤ 23) (h_u_wy : 0 ≤ u_wy.toInt ∧ u_wy.toInt ≤ 3) (h_u_bt : 0 ≤ u_bt.toInt ∧ u_bt.toInt ≤ 1000000) (h_u_ps : 0 ≤ u_ps.toInt ∧ u_ps.toInt ≤ 200) (h_u_ic : 0 ≤ u_ic.toInt ∧ u_ic.toInt ≤ 1) (h_u_id : 0 ≤ u_id.toInt ∧ u_id.toInt ≤ 1) (r_ro : MI v_ro) : Met l yX12_passes (wsG yX12_passes cX12_passes 3 (some .boolean)) ({ frames := 5, cells := 0, slots := 0, locals := 128 }) (va_Pc [.ref b_o, .int p_1] (g5_P G [(b_o, (oc12 u_th u_sa b_rf b_ro b_im b_ke u_fd b_tp u_td u_fr u_to u_so u_wo u_fa u_bd u_nc b_nl u_co b_op b_ar u_le b_pi b_pa u_pd u_od b_ws b_hw u_la b_se b_re u_bk u_va u_su u_ce u_ho u_wy u_bt u_ps b_pt u_tg u_sn b_ip u_ic b_ah b_be b_me u_wd b_tr b_ld u_st b_wn u_id)), (b_ro, (arI G 5740 v_ro)), (b_se, (arJ G 13 v_se)), (b_re, (arJ G 400 v_re))] sz)) (va_Qi (fun (r : Int32) (u : va_W) => (∃ (o_r : Int32) (o_la : Int32) (o_bk : Int32) (o_va : Int64) (o_su : Int64) (o_ho : Int32) (o_wy : Int32) (o_bt : Int32) (o_tg : Int32) (o_se : Nat → Int64) (o_re : Nat → Int64), (0 ≤ o_r.toInt ∧ o_r.toInt ≤ 1) ∧ (0 ≤ o_la.toInt ∧ o_la.toInt ≤ 4840) ∧ (0 ≤ o_bk.toInt ∧ o_bk.toInt ≤ 1) ∧ (0 ≤ o_ho.toInt ∧ o_ho.toInt ≤ 23) ∧ (0 ≤ o_wy.toInt ∧ o_wy.toInt ≤ 3) ∧ (0 ≤ o_bt.toInt ∧ o_bt.toInt ≤ 1000000) ∧ (r = o_r) ∧ (u = [(b_o, (oc12 u_th u_sa b_rf b_ro b_im b_ke u_fd b_tp u_td u_fr u_to u_so u_wo u_fa u_bd u_nc b_nl u_co b_op b_ar u_le b_pi b_pa u_pd u_od b_ws b_hw o_la b_se b_re o_bk o_va o_su u_ce o_ho o_wy o_bt u_ps b_pt o_tg u_sn b_ip u_ic b_ah b_be b_me u_wd b_tr b_ld u_st b_wn u_id)), (b_ro, (arI G 5740 v_ro)), (b_se, (arJ G 13 o_se)), (b_re, (arJ G 400 o_re))]))) (g5_B G (va_A [(b_o, (oc12 u_th u_sa b_rf b_ro b_im b_ke u_fd b_tp u_td u_fr u_to u_so u_wo u_fa u_bd u_nc b_nl u_co b_op b_ar u_le b_pi b_pa u_pd u_od b_ws b_hw u_la b_se b_re u_bk u_va u_su u_ce u_ho u_wy u_bt u_ps b_pt u_tg u_sn b_ip u_ic b_ah b_be b_me u_wd b_tr b_ld u_st b_wn u_id)), (b_ro, (arI G 5740 v_ro)), (b_se, (arJ G 13 v_se)), (b_re, (arJ G 400 v_re))] sz)) (va_A [(b_o, (oc12 u_th u_sa b_rf b_ro b_im b_ke u_fd b_tp u_td u_fr u_to u_so u_wo u_fa u_bd u_nc b_nl u_co b_op b_ar u_le b_pi b_pa u_pd u_od b_ws b_hw u_la b_se b_re u_bk u_va u_su u_ce u_ho u_wy u_bt u_ps b_pt u_tg u_sn b_ip u_ic b_ah b_be b_me u_wd b_tr b_ld u_st b_wn u_id)), (b_ro, (arI G 5740 v_ro)), (b_se, (arJ G 13 v_se)), (b_re, (arJ G 400 v_re))] sz)) 0 0 (va_A [(b_o, (oc12 u_th u_sa b_rf b_ro b_im b_ke u_fd b_tp u_td u_fr u_to u_so u_wo u_fa u_bd u_nc b_nl u_co b_op b_ar u_le b_pi b_pa u_pd u_od b_ws b_hw u_la b_se b_re u_bk u_va u_su u_ce u_ho u_wy u_bt u_ps b_pt u_tg u_sn b_ip u_ic b_ah b_be b_me u_wd b_tr b_ld u_st b_wn u_id)), (b_ro, (arI G 5740 v_ro)), (b_se, (arJ G 13 v_se)), (b_re, (arJ G 400 v_re))] sz) := by
  refine Met.ofW (cc := cX12_passes) (maxL := 3) (ret := (some .boolean)) (by decide +kernel) rfl ?_
  intro p e s m args below meth c s₁ B hml hv
  obtain ⟨rfl, hsz, hP, hK, hD0, hN, hT⟩ := hv
  have hx := B.exec
  have hb := B.bytes
  have hr := B.returns
  have hts : ∀ w ∈ tblG, w.before _ s = true := fun w h => atoms_spec (ws := (wsG yX12_passes cX12_passes 3 (some .boolean))) B.pre w (List.mem_cons_of_mem _ h)
  have hown : s.vm.findClass RX12 = some m.cls := findClass_of_methodNamed B.named
  have hlocks := B.notSynchronized
  subst hsz
  have hD := hD0.self (sz := s.heap.size)
  generalize hAe : va_A [(b_o, (oc12 u_th u_sa b_rf b_ro b_im b_ke u_fd b_tp u_td u_fr u_to u_so u_wo u_fa u_bd u_nc b_nl u_co b_op b_ar u_le b_pi b_pa u_pd u_od b_ws b_hw u_la b_se b_re u_bk u_va u_su u_ce u_ho u_wy u_bt u_ps b_pt u_tg u_sn b_ip u_ic b_ah b_be b_me u_wd b_tr b_ld u_st b_wn u_id)), (b_ro, (arI G 5740 v_ro)), (b_se, (arJ G 13 v_se)), (b_re, (arJ G 400 v_re))] s.heap.size = A at hD hT ⊢
  have hA : ∀ q : Nat, s.heap.size ≤ q → A q := fun q h => by rw [← hAe]; exact Or.inr h
  have hS : va_S A s.heap s.heap [] := va_S.rf
  replace hP : va_P G.1 vwCl [(b_o, (oc12 u_th u_sa b_rf b_ro b_im b_ke u_fd b_tp u_td u_fr u_to u_so u_wo u_fa u_bd u_nc b_nl u_co b_op b_ar u_le b_pi b_pa u_pd u_od b_ws b_hw u_la b_se b_re u_bk u_va u_su u_ce u_ho u_wy u_bt u_ps b_pt u_tg u_sn b_ip u_ic b_ah b_be b_me u_wd b_tr b_ld u_st b_wn u_id)), (b_ro, (arI G 5740 v_ro)), (b_se, (arJ G 13 v_se)), (b_re, (arJ G 400 v_re))] s.heap := hP
  have hl := lv_entry ([.ref b_o, .int p_1]) (n := 3) (Nat.le_of_ble_eq_true rfl)
  rw [lg_entry_eq]
  generalize (lg_sl ([.ref b_o, .int p_1]) ++ List.replicate (3 - (lg_sl ([.ref b_o, .int p_1])).length) Slot.unset).toArray = ls at hl ⊢
  replace hl : lv_has ls 3 [(0, .ref b_o), (1, .int p_1)] := hl
  refine lv_iconst (v := 0) hx hb dX12_passes_0 (by decide +kernel) ?_
  refine lv_istore_n (lv' := [(2, .int 0), (0, .ref b_o), (1, .int p_1)]) hx hb dX12_passes_1 rfl hl (by decide +kernel) rfl ?_
  clear hl
  intro ls hl
  refine g5_loop (α := (Int32) × (Int32) × (Int32) × (Int64) × (Int64) × (Int32) × (Int32) × (Int32) × (Int32) × (Nat → Int64) × (Nat → Int64)) (fun (q : (Int32) × (Int32) × (Int32) × (Int64) × (Int64) × (Int32) × (Int32) × (Int32) × (Int32) × (Nat → Int64) × (Nat → Int64)) (ls : Array Slot) (H : Heap) (locs : List Loc) => match q with | (k2_2, k2_la, k2_bk, k2_va, k2_su, k2_ho, k2_wy, k2_bt, k2_tg, k2_se, k2_re) => lv_has ls 3 [(2, .int k2_2), (0, .ref b_o), (1, .int p_1)] ∧ va_P G.1 vwCl [(b_o, (oc12 u_th u_sa b_rf b_ro b_im b_ke u_fd b_tp u_td u_fr u_to u_so u_wo u_fa u_bd u_nc b_nl u_co b_op b_ar u_le b_pi b_pa u_pd u_od b_ws b_hw k2_la b_se b_re k2_bk k2_va k2_su u_ce k2_ho k2_wy k2_bt u_ps b_pt k2_tg u_sn b_ip u_ic b_ah b_be b_me u_wd b_tr b_ld u_st b_wn u_id)), (b_ro, (arI G 5740 v_ro)), (b_se, (arJ G 13 k2_se)), (b_re, (arJ G 400 k2_re))] H ∧ va_D A [(b_o, (oc12 u_th u_sa b_rf b_ro b_im b_ke u_fd b_tp u_td u_fr u_to u_so u_wo u_fa u_bd u_nc b_nl u_co b_op b_ar u_le b_pi b_pa u_pd u_od b_ws b_hw k2_la b_se b_re k2_bk k2_va k2_su u_ce k2_ho k2_wy k2_bt u_ps b_pt k2_tg u_sn b_ip u_ic b_ah b_be b_me u_wd b_tr b_ld u_st b_wn u_id)), (b_ro, (arI G 5740 v_ro)), (b_se, (arJ G 13 k2_se)), (b_re, (arJ G 400 k2_re))] ∧ va_S A s.heap H locs ∧ (0 ≤ k2_2.toInt ∧ k2_2.toInt ≤ 6) ∧ (0 ≤ k2_la.toInt ∧ k2_la.toInt ≤ 4840) ∧ (0 ≤ k2_bk.toInt ∧ k2_bk.toInt ≤ 1) ∧ (0 ≤ k2_ho.toInt ∧ k2_ho.toInt ≤ 23) ∧ (0 ≤ k2_wy.toInt ∧ k2_wy.toInt ≤ 3) ∧ (0 ≤ k2_bt.toInt ∧ k2_bt.toInt ≤ 1000000)) (fun (q : (Int32) × (Int32) × (Int32) × (Int64) × (Int64) × (Int32) × (Int32) × (Int32) × (Int32) × (Nat → Int64) × (Nat → Int64)) => match q with | (k2_2, k2_la, k2_bk, k2_va, k2_su, k2_ho, k2_wy, k2_bt, k2_tg, k2_se, k2_re) => Int.toNat (6 - k2_2.toInt)) (0, u_la, u_bk, u_va, u_su, u_ho, u_wy, u_bt, u_tg, v_se, v_re) ⟨lv_sub hl [0, 1, 2] rfl, hP, hD, hS, ⟨by decide, by decide⟩, h_u_la, h_u_bk, h_u_ho, h_u_wy, h_u_bt⟩ ?_
  rintro ⟨k2_2, k2_la, k2_bk, k2_va, k2_su, k2_ho, k2_wy, k2_bt, k2_tg, k2_se, k2_re⟩ ls H locs ⟨hl, hP, hD, hS, (i_1 : 0 ≤ k2_2.toInt ∧ k2_2.toInt ≤ 6), (i_2 : 0 ≤ k2_la.toInt ∧ k2_la.toInt ≤ 4840), (i_3 : 0 ≤ k2_bk.toInt ∧ k2_bk.toInt ≤ 1), (i_4 : 0 ≤ k2_ho.toInt ∧ k2_ho.toInt ≤ 23), (i_5 : 0 ≤ k2_wy.toInt ∧ k2_wy.toInt ≤ 3), (i_6 : 0 ≤ k2_bt.toInt ∧ k2_bt.toInt ≤ 1000000)⟩ ih_2_7
  replace hl : lv_has ls 3 [(2, .int k2_2), (0, .ref b_o), (1, .int p_1)] := hl
  refine g5_rs [(b_o, (oc12 u_th u_sa b_rf b_ro b_im b_ke u_fd b_tp u_td u_fr u_to u_so u_wo u_fa u_bd u_nc b_nl u_co b_op b_ar u_le b_pi b_pa u_pd u_od b_ws b_hw k2_la b_se b_re k2_bk k2_va k2_su u_ce k2_ho k2_wy k2_bt u_ps b_pt k2_tg u_sn b_ip u_ic b_ah b_be b_me u_wd b_tr b_ld u_st b_wn u_id)), (b_ro, (arI G 5740 v_ro)), (b_se, (arJ G 13 k2_se)), (b_re, (arJ G 400 k2_re))] hP hD ?_
  clear hP hD
  intro hP hD
  refine lv_iload_n hx hb dX12_passes_2 rfl (lv_at hl 0 rfl) ?_
  refine lv_aload_n hx hb dX12_passes_3 rfl (lv_at hl 1 rfl) ?_
  refine va_get (D := G.1) (ci := 12) (v := .ref b_ro) (C := RX12) (T := TX12) (N := 52) hx hb hts inG_X12 hown hK hP 0 rfl rfl 3 (by decide +kernel) (hts _ fl_X12_13) (fun _ h9 => h9) rfl dX12_passes_4 ?_
  refine lv_iconst (v := 0) hx hb dX12_passes_7 (by decide +kernel) ?_
  refine W.eq (g2 := F0 m 8 ls [.int 0, .ref b_ro, .int k2_2]) rfl ?_
  refine va_iald hx hb hK hP 1 0 rfl rfl (i := 0) (by unfold vp_in; decide) dX12_passes_8 ?_
  refine g5_ti (v := (v_ro 0)) rfl ?_
  have hr_8 : 0 ≤ (v_ro 0).toInt ∧ (v_ro 0).toInt ≤ 6 := mi_0 r_ro
  refine lv_icmp_ge (tgt := 68) hx hb dX12_passes_9 (by decide +kernel) (fun c_9 => ?_) (fun c_9 => ?_)
  ·
    have i_9 : k2_2.toInt ≥ (v_ro 0).toInt := g5_ge (a := k2_2.toInt) (b := (v_ro 0).toInt) rfl rfl c_9
    refine lv_iconst (v := 0) hx hb dX12_passes_68 (by decide +kernel) ?_
    refine lv_istore_n (lv' := [(2, .int 0), (0, .ref b_o), (1, .int p_1)]) hx hb dX12_passes_69 rfl hl (by decide +kernel) rfl ?_
    clear hl
    intro ls hl
    refine g5_loop (α := (Int32) × (Int32) × (Int32) × (Int64) × (Int64) × (Int32) × (Int32) × (Int32) × (Int32) × (Nat → Int64) × (Nat → Int64)) (fun (q : (Int32) × (Int32) × (Int32) × (Int64) × (Int64) × (Int32) × (Int32) × (Int32) × (Int32) × (Nat → Int64) × (Nat → Int64)) (ls : Array Slot) (H : Heap) (locs : List Loc) => match q with | (k70_2, k70_la, k70_bk, k70_va, k70_su, k70_ho, k70_wy, k70_bt, k70_tg, k70_se, k70_re) => lv_has ls 3 [(2, .int k70_2), (0, .ref b_o), (1, .int p_1)] ∧ va_P G.1 vwCl [(b_o, (oc12 u_th u_sa b_rf b_ro b_im b_ke u_fd b_tp u_td u_fr u_to u_so u_wo u_fa u_bd u_nc b_nl u_co b_op b_ar u_le b_pi b_pa u_pd u_od b_ws b_hw k70_la b_se b_re k70_bk k70_va k70_su u_ce k70_ho k70_wy k70_bt u_ps b_pt k70_tg u_sn b_ip u_ic b_ah b_be b_me u_wd b_tr b_ld u_st b_wn u_id)), (b_ro, (arI G 5740 v_ro)), (b_se, (arJ G 13 k70_se)), (b_re, (arJ G 400 k70_re))] H ∧ va_D A [(b_o, (oc12 u_th u_sa b_rf b_ro b_im b_ke u_fd b_tp u_td u_fr u_to u_so u_wo u_fa u_bd u_nc b_nl u_co b_op b_ar u_le b_pi b_pa u_pd u_od b_ws b_hw k70_la b_se b_re k70_bk k70_va k70_su u_ce k70_ho k70_wy k70_bt u_ps b_pt k70_tg u_sn b_ip u_ic b_ah b_be b_me u_wd b_tr b_ld u_st b_wn u_id)), (b_ro, (arI G 5740 v_ro)), (b_se, (arJ G 13 k70_se)), (b_re, (arJ G 400 k70_re))] ∧ va_S A s.heap H locs ∧ (0 ≤ k70_2.toInt ∧ k70_2.toInt ≤ 8) ∧ (0 ≤ k70_la.toInt ∧ k70_la.toInt ≤ 4840) ∧ (0 ≤ k70_bk.toInt ∧ k70_bk.toInt ≤ 1) ∧ (0 ≤ k70_ho.toInt ∧ k70_ho.toInt ≤ 23) ∧ (0 ≤ k70_wy.toInt ∧ k70_wy.toInt ≤ 3) ∧ (0 ≤ k70_bt.toInt ∧ k70_bt.toInt ≤ 1000000)) (fun (q : (Int32) × (Int32) × (Int32) × (Int64) × (Int64) × (Int32) × (Int32) × (Int32) × (Int32) × (Nat → Int64) × (Nat → Int64)) => match q with | (k70_2, k70_la, k70_bk, k70_va, k70_su, k70_ho, k70_wy, k70_bt, k70_tg, k70_se, k70_re) => Int.toNat (8 - k70_2.toInt)) (0, k2_la, k2_bk, k2_va, k2_su, k2_ho, k2_wy, k2_bt, k2_tg, k2_se, k2_re) ⟨lv_sub hl [0, 1, 2] rfl, hP, hD, hS, ⟨by decide, by decide⟩, i_2, i_3, i_4, i_5, i_6⟩ ?_
    rintro ⟨k70_2, k70_la, k70_bk, k70_va, k70_su, k70_ho, k70_wy, k70_bt, k70_tg, k70_se, k70_re⟩ ls H locs ⟨hl, hP, hD, hS, (i_10 : 0 ≤ k70_2.toInt ∧ k70_2.toInt ≤ 8), (i_11 : 0 ≤ k70_la.toInt ∧ k70_la.toInt ≤ 4840), (i_12 : 0 ≤ k70_bk.toInt ∧ k70_bk.toInt ≤ 1), (i_13 : 0 ≤ k70_ho.toInt ∧ k70_ho.toInt ≤ 23), (i_14 : 0 ≤ k70_wy.toInt ∧ k70_wy.toInt ≤ 3), (i_15 : 0 ≤ k70_bt.toInt ∧ k70_bt.toInt ≤ 1000000)⟩ ih_70_16
    replace hl : lv_has ls 3 [(2, .int k70_2), (0, .ref b_o), (1, .int p_1)] := hl
    refine g5_rs [(b_o, (oc12 u_th u_sa b_rf b_ro b_im b_ke u_fd b_tp u_td u_fr u_to u_so u_wo u_fa u_bd u_nc b_nl u_co b_op b_ar u_le b_pi b_pa u_pd u_od b_ws b_hw k70_la b_se b_re k70_bk k70_va k70_su u_ce k70_ho k70_wy k70_bt u_ps b_pt k70_tg u_sn b_ip u_ic b_ah b_be b_me u_wd b_tr b_ld u_st b_wn u_id)), (b_ro, (arI G 5740 v_ro)), (b_se, (arJ G 13 k70_se)), (b_re, (arJ G 400 k70_re))] hP hD ?_
    clear hP hD
    intro hP hD
    refine lv_iload_n hx hb dX12_passes_70 rfl (lv_at hl 0 rfl) ?_
    refine lv_aload_n hx hb dX12_passes_71 rfl (lv_at hl 1 rfl) ?_
    refine va_get (D := G.1) (ci := 12) (v := .ref b_ro) (C := RX12) (T := TX12) (N := 52) hx hb hts inG_X12 hown hK hP 0 rfl rfl 3 (by decide +kernel) (hts _ fl_X12_13) (fun _ h9 => h9) rfl dX12_passes_72 ?_
    refine lv_bipush (v := 7) hx hb dX12_passes_75 (by decide +kernel) ?_
    refine W.eq (g2 := F0 m 77 ls [.int 7, .ref b_ro, .int k70_2]) rfl ?_
    refine va_iald hx hb hK hP 1 0 rfl rfl (i := 7) (by unfold vp_in; decide) dX12_passes_77 ?_
    refine g5_ti (v := (v_ro 7)) rfl ?_
    have hr_17 : 0 ≤ (v_ro 7).toInt ∧ (v_ro 7).toInt ≤ 8 := mi_7 r_ro
    refine lv_icmp_ge (tgt := 153) hx hb dX12_passes_78 (by decide +kernel) (fun c_18 => ?_) (fun c_18 => ?_)
    ·
      have i_18 : k70_2.toInt ≥ (v_ro 7).toInt := g5_ge (a := k70_2.toInt) (b := (v_ro 7).toInt) rfl rfl c_18
      refine lv_iconst (v := 1) hx hb dX12_passes_153 (by decide +kernel) ?_
      exact W.zret (v := 1) hx hb hr rfl (fun t ht hW => ⟨⟨1, [(b_o, (oc12 u_th u_sa b_rf b_ro b_im b_ke u_fd b_tp u_td u_fr u_to u_so u_wo u_fa u_bd u_nc b_nl u_co b_op b_ar u_le b_pi b_pa u_pd u_od b_ws b_hw k70_la b_se b_re k70_bk k70_va k70_su u_ce k70_ho k70_wy k70_bt u_ps b_pt k70_tg u_sn b_ip u_ic b_ah b_be b_me u_wd b_tr b_ld u_st b_wn u_id)), (b_ro, (arI G 5740 v_ro)), (b_se, (arJ G 13 k70_se)), (b_re, (arJ G 400 k70_re))], rfl, ⟨1, k70_la, k70_bk, k70_va, k70_su, k70_ho, k70_wy, k70_bt, k70_tg, k70_se, k70_re, ⟨by have zc_o_r : (1 : Int32).toInt = 1 := (by decide +kernel); omega, by have zc_o_r : (1 : Int32).toInt = 1 := (by decide +kernel); omega⟩, i_11, i_12, i_13, i_14, i_15, rfl, rfl⟩, by rw [ht]; exact hP.sub [0, 1, 2, 3] rfl, hD.sub [0, 1, 2, 3] (by decide +kernel) rfl⟩, hS.F ht⟩) hS.2.2 dX12_passes_154
    ·
      have i_18 : k70_2.toInt < (v_ro 7).toInt := g5_geN (a := k70_2.toInt) (b := (v_ro 7).toInt) rfl rfl c_18
      refine lv_iload_n hx hb dX12_passes_81 rfl (lv_at hl 2 rfl) ?_
      refine lv_iload_n hx hb dX12_passes_82 rfl (lv_at hl 0 rfl) ?_
      obtain ⟨hPc, hDc, hFc⟩ := g5_sub3 (wc := []) hP hD hS hA [] (by decide +kernel) rfl
      refine va_calli (va_runS (As := [.int p_1, .int k70_2]) (rest := []) ⟨hx, hb, hml, hown, hts⟩ (n_is l G H.size p_1 k70_2) (va_cwS 2 hts gS_X12_387 rfl rfl rfl hs_X12_is ⟨Nat.le_of_ble_eq_true rfl, Nat.le_of_ble_eq_true rfl⟩) (g5_preS hPc hK hDc hN hT hS hFc) rfl rfl hl.1 rfl (lv_room (Nat.le_of_ble_eq_true rfl)) dX12_passes_83 ⟨Nat.le_of_ble_eq_true rfl, Nat.le_of_ble_eq_true rfl⟩) hS (fun q _ h => hFc q h) hFc (fun r u t H locs ht hvm hw hB hz1 hk1 hS => ?_)
      obtain ⟨hP1, hD1⟩ := hB
      have hP1 := g5_ht ht hP1
      obtain ⟨z20, (i_19 : 0 ≤ z20.toInt ∧ z20.toInt ≤ 1), y21, rfl⟩ := hw
      have hJ9 := g5_same hP hk1
      clear hP hPc hDc hFc ht hvm hz1 hk1 hP1 hD1
      have hP := hJ9
      clear hJ9
      refine g5_ti (v := z20) y21 ?_
      refine lv_if_eq (tgt := 147) hx hb dX12_passes_86 (by decide +kernel) (fun c_22 => ?_) (fun c_22 => ?_)
      ·
        have i_22 : z20.toInt = 0 := g5_eq (a := z20.toInt) (b := 0) rfl (by decide +kernel) c_22
        refine lv_iinc (v := (k70_2 + 1)) (lv' := [(2, .int (k70_2 + 1)), (0, .ref b_o), (1, .int p_1)]) hx hb dX12_passes_147 hl (k := 0) rfl rfl (by decide +kernel) rfl ?_
        clear hl
        intro ls hl
        have t_23 : (k70_2 + 1).toInt = k70_2.toInt + 1 := g5_iadd (a := k70_2.toInt) (b := 1) rfl (by decide +kernel) (by omega) (by omega)
        refine lv_goto (tgt := 70) hx hb dX12_passes_150 (by decide +kernel) ?_
        exact ih_70_16 ((k70_2 + 1), k70_la, k70_bk, k70_va, k70_su, k70_ho, k70_wy, k70_bt, k70_tg, k70_se, k70_re) ls H locs (show Int.toNat (8 - (k70_2 + 1).toInt) < Int.toNat (8 - k70_2.toInt) from g_up (show k70_2.toInt < (k70_2 + 1).toInt by omega) (show k70_2.toInt < 8 by omega)) ⟨lv_sub hl [0, 1, 2] rfl, hP, hD, hS, ⟨by omega, by omega⟩, i_11, i_12, i_13, i_14, i_15⟩
      ·
        have n_22 : gNe (z20.toInt) (0) := g5_eqN (a := z20.toInt) (b := 0) rfl (by decide +kernel) c_22
        have i_22 : z20.toInt ≥ 1 := by have z := g5_eqN (a := z20.toInt) (b := 0) (by rfl) (by decide +kernel) c_22; omega
        refine lv_aload_n hx hb dX12_passes_89 rfl (lv_at hl 1 rfl) ?_
        refine va_get (D := G.1) (ci := 12) (v := .ref b_ro) (C := RX12) (T := TX12) (N := 52) hx hb hts inG_X12 hown hK hP 0 rfl rfl 3 (by decide +kernel) (hts _ fl_X12_13) (fun _ h9 => h9) rfl dX12_passes_90 ?_
        refine lv_sipush (v := 270) hx hb dX12_passes_93 (by decide +kernel) ?_
        refine lv_iconst (v := 3) hx hb dX12_passes_96 (by decide +kernel) ?_
        refine W.eq (g2 := F0 m 97 ls [.int 3, .int 270, .ref b_ro]) rfl ?_
        refine lv_iload_n hx hb dX12_passes_97 rfl (lv_at hl 0 rfl) ?_
        refine lv_imul hx hb dX12_passes_98 ?_
        have t_24 : (3 * k70_2).toInt = 3 * k70_2.toInt := g5_imul (a := 3) (b := k70_2.toInt) (by decide +kernel) (by rfl) (by omega) (by omega)
        refine lv_iadd hx hb dX12_passes_99 ?_
        have t_25 : (270 + (3 * k70_2)).toInt = 270 + (3 * k70_2).toInt := g5_iadd (a := 270) (b := (3 * k70_2).toInt) (by decide +kernel) (by rfl) (by omega) (by omega)
        refine va_iald hx hb hK hP 1 0 rfl rfl (i := (270 + (3 * k70_2))) (vp_in_iff.mpr ⟨by omega, by omega⟩) dX12_passes_100 ?_
        refine lv_aload_n hx hb dX12_passes_101 rfl (lv_at hl 1 rfl) ?_
        refine W.eq (g2 := F0 m 102 ls [.ref b_o, .int (v_ro (270 + (3 * k70_2)).toNatClampNeg)]) rfl ?_
        refine va_get (D := G.1) (ci := 12) (v := .int u_ce) (C := RX12) (T := TX12) (N := 52) hx hb hts inG_X12 hown hK hP 0 rfl rfl 33 (by decide +kernel) (hts _ fl_X12_349) (fun _ h9 => h9) rfl dX12_passes_102 ?_
        refine lv_icmp_ne (tgt := 147) hx hb dX12_passes_105 (by decide +kernel) (fun c_26 => ?_) (fun c_26 => ?_)
        ·
          have n_26 : gNe ((v_ro (270 + (3 * k70_2)).toNatClampNeg).toInt) (u_ce.toInt) := g5_ne (a := (v_ro (270 + (3 * k70_2)).toNatClampNeg).toInt) (b := u_ce.toInt) rfl rfl c_26
          refine lv_iinc (v := (k70_2 + 1)) (lv' := [(2, .int (k70_2 + 1)), (0, .ref b_o), (1, .int p_1)]) hx hb dX12_passes_147 hl (k := 0) rfl rfl (by decide +kernel) rfl ?_
          clear hl
          intro ls hl
          have t_27 : (k70_2 + 1).toInt = k70_2.toInt + 1 := g5_iadd (a := k70_2.toInt) (b := 1) rfl (by decide +kernel) (by omega) (by omega)
          refine lv_goto (tgt := 70) hx hb dX12_passes_150 (by decide +kernel) ?_
          exact ih_70_16 ((k70_2 + 1), k70_la, k70_bk, k70_va, k70_su, k70_ho, k70_wy, k70_bt, k70_tg, k70_se, k70_re) ls H locs (show Int.toNat (8 - (k70_2 + 1).toInt) < Int.toNat (8 - k70_2.toInt) from g_up (show k70_2.toInt < (k70_2 + 1).toInt by omega) (show k70_2.toInt < 8 by omega)) ⟨lv_sub hl [0, 1, 2] rfl, hP, hD, hS, ⟨by omega, by omega⟩, i_11, i_12, i_13, i_14, i_15⟩
        ·
          have i_26 : (v_ro (270 + (3 * k70_2)).toNatClampNeg).toInt = u_ce.toInt := g5_neN (a := (v_ro (270 + (3 * k70_2)).toNatClampNeg).toInt) (b := u_ce.toInt) rfl rfl c_26
          refine lv_aload_n hx hb dX12_passes_108 rfl (lv_at hl 1 rfl) ?_
          refine lv_bipush (v := 6) hx hb dX12_passes_109 (by decide +kernel) ?_
          refine lv_iload_n hx hb dX12_passes_111 rfl (lv_at hl 0 rfl) ?_
          refine lv_iadd hx hb dX12_passes_112 ?_
          have t_28 : (6 + k70_2).toInt = 6 + k70_2.toInt := g5_iadd (a := 6) (b := k70_2.toInt) (by decide +kernel) (by rfl) (by omega) (by omega)
          refine W.eq (g2 := F0 m 113 ls [.int (6 + k70_2), .ref b_o]) rfl ?_
          refine lv_aload_n hx hb dX12_passes_113 rfl (lv_at hl 1 rfl) ?_
          refine va_get (D := G.1) (ci := 12) (v := .ref b_ro) (C := RX12) (T := TX12) (N := 52) hx hb hts inG_X12 hown hK hP 0 rfl rfl 3 (by decide +kernel) (hts _ fl_X12_13) (fun _ h9 => h9) rfl dX12_passes_114 ?_
          refine lv_sipush (v := 270) hx hb dX12_passes_117 (by decide +kernel) ?_
          refine lv_iconst (v := 3) hx hb dX12_passes_120 (by decide +kernel) ?_
          refine lv_iload_n hx hb dX12_passes_121 rfl (lv_at hl 0 rfl) ?_
          refine W.eq (g2 := F0 m 122 ls [.int k70_2, .int 3, .int 270, .ref b_ro, .int (6 + k70_2), .ref b_o]) rfl ?_
          refine lv_imul hx hb dX12_passes_122 ?_
          have t_29 : (3 * k70_2).toInt = 3 * k70_2.toInt := g5_imul (a := 3) (b := k70_2.toInt) (by decide +kernel) (by rfl) (by omega) (by omega)
          refine lv_iadd hx hb dX12_passes_123 ?_
          have t_30 : (270 + (3 * k70_2)).toInt = 270 + (3 * k70_2).toInt := g5_iadd (a := 270) (b := (3 * k70_2).toInt) (by decide +kernel) (by rfl) (by omega) (by omega)
          refine lv_iconst (v := 1) hx hb dX12_passes_124 (by decide +kernel) ?_
          refine lv_iadd hx hb dX12_passes_125 ?_
          have t_31 : ((270 + (3 * k70_2)) + 1).toInt = (270 + (3 * k70_2)).toInt + 1 := g5_iadd (a := (270 + (3 * k70_2)).toInt) (b := 1) (by rfl) (by decide +kernel) (by omega) (by omega)
          refine va_iald hx hb hK hP 1 0 rfl rfl (i := ((270 + (3 * k70_2)) + 1)) (vp_in_iff.mpr ⟨by omega, by omega⟩) dX12_passes_126 ?_
          have hv_32 : 0 ≤ (v_ro ((270 + (3 * k70_2)) + 1).toNatClampNeg).toInt ∧ (v_ro ((270 + (3 * k70_2)) + 1).toNatClampNeg).toInt ≤ 5 := mi_270_1 r_ro (by have zz := g5_clamp ((270 + (3 * k70_2)) + 1); omega) (by have zz := g5_clamp ((270 + (3 * k70_2)) + 1); omega) (by have zz := g5_clamp ((270 + (3 * k70_2)) + 1); omega)
          refine W.eq (g2 := F0 m 127 ls [.int (v_ro ((270 + (3 * k70_2)) + 1).toNatClampNeg), .int (6 + k70_2), .ref b_o]) rfl ?_
          refine lv_aload_n hx hb dX12_passes_127 rfl (lv_at hl 1 rfl) ?_
          refine va_get (D := G.1) (ci := 12) (v := .ref b_ro) (C := RX12) (T := TX12) (N := 52) hx hb hts inG_X12 hown hK hP 0 rfl rfl 3 (by decide +kernel) (hts _ fl_X12_13) (fun _ h9 => h9) rfl dX12_passes_128 ?_
          refine lv_sipush (v := 270) hx hb dX12_passes_131 (by decide +kernel) ?_
          refine lv_iconst (v := 3) hx hb dX12_passes_134 (by decide +kernel) ?_
          refine lv_iload_n hx hb dX12_passes_135 rfl (lv_at hl 0 rfl) ?_
          refine W.eq (g2 := F0 m 136 ls [.int k70_2, .int 3, .int 270, .ref b_ro, .int (v_ro ((270 + (3 * k70_2)) + 1).toNatClampNeg), .int (6 + k70_2), .ref b_o]) rfl ?_
          refine lv_imul hx hb dX12_passes_136 ?_
          have t_33 : (3 * k70_2).toInt = 3 * k70_2.toInt := g5_imul (a := 3) (b := k70_2.toInt) (by decide +kernel) (by rfl) (by omega) (by omega)
          refine lv_iadd hx hb dX12_passes_137 ?_
          have t_34 : (270 + (3 * k70_2)).toInt = 270 + (3 * k70_2).toInt := g5_iadd (a := 270) (b := (3 * k70_2).toInt) (by decide +kernel) (by rfl) (by omega) (by omega)
          refine lv_iconst (v := 2) hx hb dX12_passes_138 (by decide +kernel) ?_
          refine lv_iadd hx hb dX12_passes_139 ?_
          have t_35 : ((270 + (3 * k70_2)) + 2).toInt = (270 + (3 * k70_2)).toInt + 2 := g5_iadd (a := (270 + (3 * k70_2)).toInt) (b := 2) (by rfl) (by decide +kernel) (by omega) (by omega)
          refine va_iald hx hb hK hP 1 0 rfl rfl (i := ((270 + (3 * k70_2)) + 2)) (vp_in_iff.mpr ⟨by omega, by omega⟩) dX12_passes_140 ?_
          have hv_36 : 0 ≤ (v_ro ((270 + (3 * k70_2)) + 2).toNatClampNeg).toInt ∧ (v_ro ((270 + (3 * k70_2)) + 2).toNatClampNeg).toInt ≤ 23 := mi_270_2 r_ro (by have zz := g5_clamp ((270 + (3 * k70_2)) + 2); omega) (by have zz := g5_clamp ((270 + (3 * k70_2)) + 2); omega) (by have zz := g5_clamp ((270 + (3 * k70_2)) + 2); omega)
          refine W.eq (g2 := F0 m 141 ls [.int (v_ro ((270 + (3 * k70_2)) + 2).toNatClampNeg), .int (v_ro ((270 + (3 * k70_2)) + 1).toNatClampNeg), .int (6 + k70_2), .ref b_o]) rfl ?_
          refine lv_iconst (v := 0) hx hb dX12_passes_141 (by decide +kernel) ?_
          refine lv_iconst (v := 0) hx hb dX12_passes_142 (by decide +kernel) ?_
          obtain ⟨hPc, hDc, hFc⟩ := g5_sub3 (wc := [(b_o, (oc12 u_th u_sa b_rf b_ro b_im b_ke u_fd b_tp u_td u_fr u_to u_so u_wo u_fa u_bd u_nc b_nl u_co b_op b_ar u_le b_pi b_pa u_pd u_od b_ws b_hw k70_la b_se b_re k70_bk k70_va k70_su u_ce k70_ho k70_wy k70_bt u_ps b_pt k70_tg u_sn b_ip u_ic b_ah b_be b_me u_wd b_tr b_ld u_st b_wn u_id)), (b_ro, (arI G 5740 v_ro)), (b_se, (arJ G 13 k70_se)), (b_re, (arJ G 400 k70_re))]) hP hD hS hA [0, 1, 2, 3] (by decide +kernel) rfl
          refine va_calli (va_runV (As := [.int (6 + k70_2), .int (v_ro ((270 + (3 * k70_2)) + 1).toNatClampNeg), .int (v_ro ((270 + (3 * k70_2)) + 2).toNatClampNeg), .int 0, .int 0]) (rest := []) ⟨hx, hb, hml, hown, hts⟩ (n_turns l G b_o b_ro b_se b_re b_rf b_im b_ke b_tp b_nl b_op b_ar b_pi b_pa b_ws b_hw b_pt b_ip b_ah b_be b_me b_tr b_ld b_wn H.size u_th u_sa u_fd u_td u_fr u_to u_so u_fa u_bd u_nc u_co u_le u_pd u_od k70_la k70_bk u_ce k70_ho k70_wy k70_bt u_ps k70_tg u_sn u_ic u_wd u_id (6 + k70_2) (v_ro ((270 + (3 * k70_2)) + 1).toNatClampNeg) (v_ro ((270 + (3 * k70_2)) + 2).toNatClampNeg) 0 0 u_wo k70_va k70_su u_st v_ro k70_se k70_re h_u_td h_u_fr h_u_to h_u_bd h_u_nc h_u_co h_u_pd i_11 i_12 h_u_ce i_13 i_14 i_15 h_u_ps h_u_ic h_u_id ⟨by omega, by omega⟩ ⟨by omega, by omega⟩ ⟨by decide, by decide⟩ ⟨by decide, by decide⟩ (r_ro)) (cwV 5 hts gV_X12_390 rfl rfl rfl hv_X12_turns ⟨Nat.le_of_ble_eq_true rfl, Nat.le_of_ble_eq_true rfl⟩) (g5_preV hPc hK hDc hN hT hS hFc (ci := 12) (q0 := 0) rfl rfl) rfl rfl hl.1 rfl (lv_room (Nat.le_of_ble_eq_true rfl)) dX12_passes_143 ⟨Nat.le_of_ble_eq_true rfl, Nat.le_of_ble_eq_true rfl⟩) hS (fun q _ h => hFc q h) hFc (fun r u t H locs ht hvm hw hB hz1 hk1 hS => ?_)
          obtain ⟨hP1, hD1⟩ := hB
          have hP1 := g5_ht ht hP1
          obtain ⟨z43, z44, z45, z46, z47, z48, z49, z50, z51, z52, z53, (i_37 : 0 ≤ z43.toInt ∧ z43.toInt ≤ 1), (i_38 : 0 ≤ z44.toInt ∧ z44.toInt ≤ 4840), (i_39 : 0 ≤ z45.toInt ∧ z45.toInt ≤ 1), (i_40 : 0 ≤ z48.toInt ∧ z48.toInt ≤ 23), (i_41 : 0 ≤ z49.toInt ∧ z49.toInt ≤ 3), (i_42 : 0 ≤ z50.toInt ∧ z50.toInt ≤ 1000000), y54, rfl⟩ := hw
          have hJ9 := va_join (wr := []) hP hD [0, 1, 2, 3] [] rfl rfl (by decide +kernel) (by decide +kernel) hk1 hFc hP1 hD1
          clear hP hD hPc hDc hFc ht hvm hz1 hk1 hP1 hD1
          obtain ⟨hP, hD⟩ := hJ9
          refine g5_rs [(b_o, (oc12 u_th u_sa b_rf b_ro b_im b_ke u_fd b_tp u_td u_fr u_to u_so u_wo u_fa u_bd u_nc b_nl u_co b_op b_ar u_le b_pi b_pa u_pd u_od b_ws b_hw z44 b_se b_re z45 z46 z47 u_ce z48 z49 z50 u_ps b_pt z51 u_sn b_ip u_ic b_ah b_be b_me u_wd b_tr b_ld u_st b_wn u_id)), (b_ro, (arI G 5740 v_ro)), (b_se, (arJ G 13 z52)), (b_re, (arJ G 400 z53))] hP hD ?_
          clear hP hD
          intro hP hD
          refine g5_ti (v := z43) y54 ?_
          exact W.zret (v := z43) hx hb hr (g_nb (by omega) (by omega)) (fun t ht hW => ⟨⟨z43, [(b_o, (oc12 u_th u_sa b_rf b_ro b_im b_ke u_fd b_tp u_td u_fr u_to u_so u_wo u_fa u_bd u_nc b_nl u_co b_op b_ar u_le b_pi b_pa u_pd u_od b_ws b_hw z44 b_se b_re z45 z46 z47 u_ce z48 z49 z50 u_ps b_pt z51 u_sn b_ip u_ic b_ah b_be b_me u_wd b_tr b_ld u_st b_wn u_id)), (b_ro, (arI G 5740 v_ro)), (b_se, (arJ G 13 z52)), (b_re, (arJ G 400 z53))], rfl, ⟨z43, z44, z45, z46, z47, z48, z49, z50, z51, z52, z53, i_37, i_38, i_39, i_40, i_41, i_42, rfl, rfl⟩, by rw [ht]; exact hP.sub [0, 1, 2, 3] rfl, hD.sub [0, 1, 2, 3] (by decide +kernel) rfl⟩, hS.F ht⟩) hS.2.2 dX12_passes_146
  ·
    have i_9 : k2_2.toInt < (v_ro 0).toInt := g5_geN (a := k2_2.toInt) (b := (v_ro 0).toInt) rfl rfl c_9
    refine lv_aload_n hx hb dX12_passes_12 rfl (lv_at hl 1 rfl) ?_
    refine lv_iload_n hx hb dX12_passes_13 rfl (lv_at hl 0 rfl) ?_
    refine lv_iconst (v := 0) hx hb dX12_passes_14 (by decide +kernel) ?_
    obtain ⟨hPc, hDc, hFc⟩ := g5_sub3 (wc := [(b_o, (oc12 u_th u_sa b_rf b_ro b_im b_ke u_fd b_tp u_td u_fr u_to u_so u_wo u_fa u_bd u_nc b_nl u_co b_op b_ar u_le b_pi b_pa u_pd u_od b_ws b_hw k2_la b_se b_re k2_bk k2_va k2_su u_ce k2_ho k2_wy k2_bt u_ps b_pt k2_tg u_sn b_ip u_ic b_ah b_be b_me u_wd b_tr b_ld u_st b_wn u_id)), (b_ro, (arI G 5740 v_ro))]) hP hD hS hA [0, 1] (by decide +kernel) rfl
    refine va_calli (va_runV (As := [.int k2_2, .int 0]) (rest := []) ⟨hx, hb, hml, hown, hts⟩ (n_ofGlass0 l G b_o b_ro b_rf b_im b_ke b_tp b_nl b_op b_ar b_pi b_pa b_ws b_hw b_se b_re b_pt b_ip b_ah b_be b_me b_tr b_ld b_wn H.size u_th u_sa u_fd u_td u_fr u_to u_so u_fa u_bd u_nc u_co u_le u_pd u_od k2_la k2_bk u_ce k2_ho k2_wy k2_bt u_ps k2_tg u_sn u_ic u_wd u_id k2_2 u_wo k2_va k2_su u_st v_ro h_u_td h_u_fr h_u_to h_u_bd h_u_nc h_u_co h_u_pd i_2 i_3 h_u_ce i_4 i_5 i_6 h_u_ps h_u_ic h_u_id ⟨by omega, by omega⟩ (r_ro)) (cwV 2 hts gV_X12_134 rfl rfl rfl hv_X12_ofGlass ⟨Nat.le_of_ble_eq_true rfl, Nat.le_of_ble_eq_true rfl⟩) (g5_preV hPc hK hDc hN hT hS hFc (ci := 12) (q0 := 0) rfl rfl) rfl rfl hl.1 rfl (lv_room (Nat.le_of_ble_eq_true rfl)) dX12_passes_15 ⟨Nat.le_of_ble_eq_true rfl, Nat.le_of_ble_eq_true rfl⟩) hS (fun q _ h => hFc q h) hFc (fun r u t H locs ht hvm hw hB hz1 hk1 hS => ?_)
    obtain ⟨hP1, hD1⟩ := hB
    have hP1 := g5_ht ht hP1
    obtain ⟨z56, (i_55 : 0 ≤ z56.toInt ∧ z56.toInt ≤ 63), y57, rfl⟩ := hw
    have hJ9 := va_join (wr := [(b_se, (arJ G 13 k2_se)), (b_re, (arJ G 400 k2_re))]) hP hD [0, 1] [2, 3] rfl rfl (by decide +kernel) (by decide +kernel) hk1 hFc hP1 hD1
    clear hP hD hPc hDc hFc ht hvm hz1 hk1 hP1 hD1
    obtain ⟨hP, hD⟩ := hJ9
    refine g5_rs [(b_se, (arJ G 13 k2_se)), (b_re, (arJ G 400 k2_re)), (b_o, (oc12 u_th u_sa b_rf b_ro b_im b_ke u_fd b_tp u_td u_fr u_to u_so u_wo u_fa u_bd u_nc b_nl u_co b_op b_ar u_le b_pi b_pa u_pd u_od b_ws b_hw k2_la b_se b_re k2_bk k2_va k2_su u_ce k2_ho k2_wy k2_bt u_ps b_pt k2_tg u_sn b_ip u_ic b_ah b_be b_me u_wd b_tr b_ld u_st b_wn u_id)), (b_ro, (arI G 5740 v_ro))] hP hD ?_
    clear hP hD
    intro hP hD
    refine g5_ti (v := z56) y57 ?_
    refine W.eq (g2 := F0 m 18 ls [.int z56]) rfl ?_
    refine lv_aload_n hx hb dX12_passes_18 rfl (lv_at hl 1 rfl) ?_
    refine va_get (D := G.1) (ci := 12) (v := .int u_ce) (C := RX12) (T := TX12) (N := 52) hx hb hts inG_X12 hown hK hP 2 rfl rfl 33 (by decide +kernel) (hts _ fl_X12_349) (fun _ h9 => h9) rfl dX12_passes_19 ?_
    refine lv_icmp_ne (tgt := 62) hx hb dX12_passes_22 (by decide +kernel) (fun c_58 => ?_) (fun c_58 => ?_)
    ·
      have n_58 : gNe (z56.toInt) (u_ce.toInt) := g5_ne (a := z56.toInt) (b := u_ce.toInt) rfl rfl c_58
      refine lv_iinc (v := (k2_2 + 1)) (lv' := [(2, .int (k2_2 + 1)), (0, .ref b_o), (1, .int p_1)]) hx hb dX12_passes_62 hl (k := 0) rfl rfl (by decide +kernel) rfl ?_
      clear hl
      intro ls hl
      have t_59 : (k2_2 + 1).toInt = k2_2.toInt + 1 := g5_iadd (a := k2_2.toInt) (b := 1) rfl (by decide +kernel) (by omega) (by omega)
      refine lv_goto (tgt := 2) hx hb dX12_passes_65 (by decide +kernel) ?_
      exact ih_2_7 ((k2_2 + 1), k2_la, k2_bk, k2_va, k2_su, k2_ho, k2_wy, k2_bt, k2_tg, k2_se, k2_re) ls H locs (show Int.toNat (6 - (k2_2 + 1).toInt) < Int.toNat (6 - k2_2.toInt) from g_up (show k2_2.toInt < (k2_2 + 1).toInt by omega) (show k2_2.toInt < 6 by omega)) ⟨lv_sub hl [0, 1, 2] rfl, hP.sub [2, 3, 0, 1] rfl, hD.sub [2, 3, 0, 1] (by decide +kernel) rfl, hS, ⟨by omega, by omega⟩, i_2, i_3, i_4, i_5, i_6⟩
    ·
      have i_58 : z56.toInt = u_ce.toInt := g5_neN (a := z56.toInt) (b := u_ce.toInt) rfl rfl c_58
      refine lv_aload_n hx hb dX12_passes_25 rfl (lv_at hl 1 rfl) ?_
      refine lv_iload_n hx hb dX12_passes_26 rfl (lv_at hl 0 rfl) ?_
      refine lv_aload_n hx hb dX12_passes_27 rfl (lv_at hl 1 rfl) ?_
      refine lv_iload_n hx hb dX12_passes_28 rfl (lv_at hl 0 rfl) ?_
      refine W.eq (g2 := F0 m 29 ls [.int k2_2, .ref b_o, .int k2_2, .ref b_o]) rfl ?_
      refine lv_iconst (v := 1) hx hb dX12_passes_29 (by decide +kernel) ?_
      obtain ⟨hPc, hDc, hFc⟩ := g5_sub3 (wc := [(b_o, (oc12 u_th u_sa b_rf b_ro b_im b_ke u_fd b_tp u_td u_fr u_to u_so u_wo u_fa u_bd u_nc b_nl u_co b_op b_ar u_le b_pi b_pa u_pd u_od b_ws b_hw k2_la b_se b_re k2_bk k2_va k2_su u_ce k2_ho k2_wy k2_bt u_ps b_pt k2_tg u_sn b_ip u_ic b_ah b_be b_me u_wd b_tr b_ld u_st b_wn u_id)), (b_ro, (arI G 5740 v_ro))]) hP hD hS hA [2, 3] (by decide +kernel) rfl
      refine va_calli (va_runV (As := [.int k2_2, .int 1]) (rest := [.int k2_2, .ref b_o]) ⟨hx, hb, hml, hown, hts⟩ (n_ofGlass1 l G b_o b_ro b_rf b_im b_ke b_tp b_nl b_op b_ar b_pi b_pa b_ws b_hw b_se b_re b_pt b_ip b_ah b_be b_me b_tr b_ld b_wn H.size u_th u_sa u_fd u_td u_fr u_to u_so u_fa u_bd u_nc u_co u_le u_pd u_od k2_la k2_bk u_ce k2_ho k2_wy k2_bt u_ps k2_tg u_sn u_ic u_wd u_id k2_2 u_wo k2_va k2_su u_st v_ro h_u_td h_u_fr h_u_to h_u_bd h_u_nc h_u_co h_u_pd i_2 i_3 h_u_ce i_4 i_5 i_6 h_u_ps h_u_ic h_u_id ⟨by omega, by omega⟩ (r_ro)) (cwV 2 hts gV_X12_134 rfl rfl rfl hv_X12_ofGlass ⟨Nat.le_of_ble_eq_true rfl, Nat.le_of_ble_eq_true rfl⟩) (g5_preV hPc hK hDc hN hT hS hFc (ci := 12) (q0 := 0) rfl rfl) rfl rfl hl.1 rfl (lv_room (Nat.le_of_ble_eq_true rfl)) dX12_passes_30 ⟨Nat.le_of_ble_eq_true rfl, Nat.le_of_ble_eq_true rfl⟩) hS (fun q _ h => hFc q h) hFc (fun r u t H locs ht hvm hw hB hz1 hk1 hS => ?_)
      obtain ⟨hP1, hD1⟩ := hB
      have hP1 := g5_ht ht hP1
      obtain ⟨z61, (i_60 : 0 ≤ z61.toInt ∧ z61.toInt ≤ 5), y62, rfl⟩ := hw
      have hJ9 := va_join (wr := [(b_se, (arJ G 13 k2_se)), (b_re, (arJ G 400 k2_re))]) hP hD [2, 3] [0, 1] rfl rfl (by decide +kernel) (by decide +kernel) hk1 hFc hP1 hD1
      clear hP hD hPc hDc hFc ht hvm hz1 hk1 hP1 hD1
      obtain ⟨hP, hD⟩ := hJ9
      refine g5_rs [(b_se, (arJ G 13 k2_se)), (b_re, (arJ G 400 k2_re)), (b_o, (oc12 u_th u_sa b_rf b_ro b_im b_ke u_fd b_tp u_td u_fr u_to u_so u_wo u_fa u_bd u_nc b_nl u_co b_op b_ar u_le b_pi b_pa u_pd u_od b_ws b_hw k2_la b_se b_re k2_bk k2_va k2_su u_ce k2_ho k2_wy k2_bt u_ps b_pt k2_tg u_sn b_ip u_ic b_ah b_be b_me u_wd b_tr b_ld u_st b_wn u_id)), (b_ro, (arI G 5740 v_ro))] hP hD ?_
      clear hP hD
      intro hP hD
      refine g5_ti (v := z61) y62 ?_
      refine lv_aload_n hx hb dX12_passes_33 rfl (lv_at hl 1 rfl) ?_
      refine lv_iload_n hx hb dX12_passes_34 rfl (lv_at hl 0 rfl) ?_
      refine lv_iconst (v := 2) hx hb dX12_passes_35 (by decide +kernel) ?_
      refine W.eq (g2 := F0 m 36 ls [.int 2, .int k2_2, .ref b_o, .int z61, .int k2_2, .ref b_o]) rfl ?_
      obtain ⟨hPc, hDc, hFc⟩ := g5_sub3 (wc := [(b_o, (oc12 u_th u_sa b_rf b_ro b_im b_ke u_fd b_tp u_td u_fr u_to u_so u_wo u_fa u_bd u_nc b_nl u_co b_op b_ar u_le b_pi b_pa u_pd u_od b_ws b_hw k2_la b_se b_re k2_bk k2_va k2_su u_ce k2_ho k2_wy k2_bt u_ps b_pt k2_tg u_sn b_ip u_ic b_ah b_be b_me u_wd b_tr b_ld u_st b_wn u_id)), (b_ro, (arI G 5740 v_ro))]) hP hD hS hA [2, 3] (by decide +kernel) rfl
      refine va_calli (va_runV (As := [.int k2_2, .int 2]) (rest := [.int z61, .int k2_2, .ref b_o]) ⟨hx, hb, hml, hown, hts⟩ (n_ofGlass2 l G b_o b_ro b_rf b_im b_ke b_tp b_nl b_op b_ar b_pi b_pa b_ws b_hw b_se b_re b_pt b_ip b_ah b_be b_me b_tr b_ld b_wn H.size u_th u_sa u_fd u_td u_fr u_to u_so u_fa u_bd u_nc u_co u_le u_pd u_od k2_la k2_bk u_ce k2_ho k2_wy k2_bt u_ps k2_tg u_sn u_ic u_wd u_id k2_2 u_wo k2_va k2_su u_st v_ro h_u_td h_u_fr h_u_to h_u_bd h_u_nc h_u_co h_u_pd i_2 i_3 h_u_ce i_4 i_5 i_6 h_u_ps h_u_ic h_u_id ⟨by omega, by omega⟩ (r_ro)) (cwV 2 hts gV_X12_134 rfl rfl rfl hv_X12_ofGlass ⟨Nat.le_of_ble_eq_true rfl, Nat.le_of_ble_eq_true rfl⟩) (g5_preV hPc hK hDc hN hT hS hFc (ci := 12) (q0 := 0) rfl rfl) rfl rfl hl.1 rfl (lv_room (Nat.le_of_ble_eq_true rfl)) dX12_passes_36 ⟨Nat.le_of_ble_eq_true rfl, Nat.le_of_ble_eq_true rfl⟩) hS (fun q _ h => hFc q h) hFc (fun r u t H locs ht hvm hw hB hz1 hk1 hS => ?_)
      obtain ⟨hP1, hD1⟩ := hB
      have hP1 := g5_ht ht hP1
      obtain ⟨z64, (i_63 : 0 ≤ z64.toInt ∧ z64.toInt ≤ 23), y65, rfl⟩ := hw
      have hJ9 := va_join (wr := [(b_se, (arJ G 13 k2_se)), (b_re, (arJ G 400 k2_re))]) hP hD [2, 3] [0, 1] rfl rfl (by decide +kernel) (by decide +kernel) hk1 hFc hP1 hD1
      clear hP hD hPc hDc hFc ht hvm hz1 hk1 hP1 hD1
      obtain ⟨hP, hD⟩ := hJ9
      refine g5_rs [(b_se, (arJ G 13 k2_se)), (b_re, (arJ G 400 k2_re)), (b_o, (oc12 u_th u_sa b_rf b_ro b_im b_ke u_fd b_tp u_td u_fr u_to u_so u_wo u_fa u_bd u_nc b_nl u_co b_op b_ar u_le b_pi b_pa u_pd u_od b_ws b_hw k2_la b_se b_re k2_bk k2_va k2_su u_ce k2_ho k2_wy k2_bt u_ps b_pt k2_tg u_sn b_ip u_ic b_ah b_be b_me u_wd b_tr b_ld u_st b_wn u_id)), (b_ro, (arI G 5740 v_ro))] hP hD ?_
      clear hP hD
      intro hP hD
      refine g5_ti (v := z64) y65 ?_
      refine lv_aload_n hx hb dX12_passes_39 rfl (lv_at hl 1 rfl) ?_
      refine lv_iload_n hx hb dX12_passes_40 rfl (lv_at hl 0 rfl) ?_
      refine lv_iconst (v := 3) hx hb dX12_passes_41 (by decide +kernel) ?_
      obtain ⟨hPc, hDc, hFc⟩ := g5_sub3 (wc := [(b_o, (oc12 u_th u_sa b_rf b_ro b_im b_ke u_fd b_tp u_td u_fr u_to u_so u_wo u_fa u_bd u_nc b_nl u_co b_op b_ar u_le b_pi b_pa u_pd u_od b_ws b_hw k2_la b_se b_re k2_bk k2_va k2_su u_ce k2_ho k2_wy k2_bt u_ps b_pt k2_tg u_sn b_ip u_ic b_ah b_be b_me u_wd b_tr b_ld u_st b_wn u_id)), (b_ro, (arI G 5740 v_ro))]) hP hD hS hA [2, 3] (by decide +kernel) rfl
      refine va_calli (va_runV (As := [.int k2_2, .int 3]) (rest := [.int z64, .int z61, .int k2_2, .ref b_o]) ⟨hx, hb, hml, hown, hts⟩ (n_ofGlass3 l G b_o b_ro b_rf b_im b_ke b_tp b_nl b_op b_ar b_pi b_pa b_ws b_hw b_se b_re b_pt b_ip b_ah b_be b_me b_tr b_ld b_wn H.size u_th u_sa u_fd u_td u_fr u_to u_so u_fa u_bd u_nc u_co u_le u_pd u_od k2_la k2_bk u_ce k2_ho k2_wy k2_bt u_ps k2_tg u_sn u_ic u_wd u_id k2_2 u_wo k2_va k2_su u_st v_ro h_u_td h_u_fr h_u_to h_u_bd h_u_nc h_u_co h_u_pd i_2 i_3 h_u_ce i_4 i_5 i_6 h_u_ps h_u_ic h_u_id ⟨by omega, by omega⟩ (r_ro)) (cwV 2 hts gV_X12_134 rfl rfl rfl hv_X12_ofGlass ⟨Nat.le_of_ble_eq_true rfl, Nat.le_of_ble_eq_true rfl⟩) (g5_preV hPc hK hDc hN hT hS hFc (ci := 12) (q0 := 0) rfl rfl) rfl rfl hl.1 rfl (lv_room (Nat.le_of_ble_eq_true rfl)) dX12_passes_42 ⟨Nat.le_of_ble_eq_true rfl, Nat.le_of_ble_eq_true rfl⟩) hS (fun q _ h => hFc q h) hFc (fun r u t H locs ht hvm hw hB hz1 hk1 hS => ?_)
      obtain ⟨hP1, hD1⟩ := hB
      have hP1 := g5_ht ht hP1
      obtain ⟨z67, (i_66 : 0 ≤ z67.toInt ∧ z67.toInt ≤ 10), y68, rfl⟩ := hw
      have hJ9 := va_join (wr := [(b_se, (arJ G 13 k2_se)), (b_re, (arJ G 400 k2_re))]) hP hD [2, 3] [0, 1] rfl rfl (by decide +kernel) (by decide +kernel) hk1 hFc hP1 hD1
      clear hP hD hPc hDc hFc ht hvm hz1 hk1 hP1 hD1
      obtain ⟨hP, hD⟩ := hJ9
      refine g5_rs [(b_se, (arJ G 13 k2_se)), (b_re, (arJ G 400 k2_re)), (b_o, (oc12 u_th u_sa b_rf b_ro b_im b_ke u_fd b_tp u_td u_fr u_to u_so u_wo u_fa u_bd u_nc b_nl u_co b_op b_ar u_le b_pi b_pa u_pd u_od b_ws b_hw k2_la b_se b_re k2_bk k2_va k2_su u_ce k2_ho k2_wy k2_bt u_ps b_pt k2_tg u_sn b_ip u_ic b_ah b_be b_me u_wd b_tr b_ld u_st b_wn u_id)), (b_ro, (arI G 5740 v_ro))] hP hD ?_
      clear hP hD
      intro hP hD
      refine g5_ti (v := z67) y68 ?_
      refine W.eq (g2 := F0 m 45 ls [.int z67, .int z64, .int z61, .int k2_2, .ref b_o]) rfl ?_
      refine lv_aload_n hx hb dX12_passes_45 rfl (lv_at hl 1 rfl) ?_
      refine lv_iload_n hx hb dX12_passes_46 rfl (lv_at hl 0 rfl) ?_
      refine lv_iconst (v := 4) hx hb dX12_passes_47 (by decide +kernel) ?_
      obtain ⟨hPc, hDc, hFc⟩ := g5_sub3 (wc := [(b_o, (oc12 u_th u_sa b_rf b_ro b_im b_ke u_fd b_tp u_td u_fr u_to u_so u_wo u_fa u_bd u_nc b_nl u_co b_op b_ar u_le b_pi b_pa u_pd u_od b_ws b_hw k2_la b_se b_re k2_bk k2_va k2_su u_ce k2_ho k2_wy k2_bt u_ps b_pt k2_tg u_sn b_ip u_ic b_ah b_be b_me u_wd b_tr b_ld u_st b_wn u_id)), (b_ro, (arI G 5740 v_ro))]) hP hD hS hA [2, 3] (by decide +kernel) rfl
      refine va_calli (va_runV (As := [.int k2_2, .int 4]) (rest := [.int z67, .int z64, .int z61, .int k2_2, .ref b_o]) ⟨hx, hb, hml, hown, hts⟩ (n_ofGlass l G b_o b_ro b_rf b_im b_ke b_tp b_nl b_op b_ar b_pi b_pa b_ws b_hw b_se b_re b_pt b_ip b_ah b_be b_me b_tr b_ld b_wn H.size u_th u_sa u_fd u_td u_fr u_to u_so u_fa u_bd u_nc u_co u_le u_pd u_od k2_la k2_bk u_ce k2_ho k2_wy k2_bt u_ps k2_tg u_sn u_ic u_wd u_id k2_2 4 u_wo k2_va k2_su u_st v_ro h_u_td h_u_fr h_u_to h_u_bd h_u_nc h_u_co h_u_pd i_2 i_3 h_u_ce i_4 i_5 i_6 h_u_ps h_u_ic h_u_id ⟨by omega, by omega⟩ ⟨by decide, by decide⟩ (r_ro)) (cwV 2 hts gV_X12_134 rfl rfl rfl hv_X12_ofGlass ⟨Nat.le_of_ble_eq_true rfl, Nat.le_of_ble_eq_true rfl⟩) (g5_preV hPc hK hDc hN hT hS hFc (ci := 12) (q0 := 0) rfl rfl) rfl rfl hl.1 rfl (lv_room (Nat.le_of_ble_eq_true rfl)) dX12_passes_48 ⟨Nat.le_of_ble_eq_true rfl, Nat.le_of_ble_eq_true rfl⟩) hS (fun q _ h => hFc q h) hFc (fun r u t H locs ht hvm hw hB hz1 hk1 hS => ?_)
      obtain ⟨hP1, hD1⟩ := hB
      have hP1 := g5_ht ht hP1
      obtain ⟨z69, y70, rfl⟩ := hw
      have hJ9 := va_join (wr := [(b_se, (arJ G 13 k2_se)), (b_re, (arJ G 400 k2_re))]) hP hD [2, 3] [0, 1] rfl rfl (by decide +kernel) (by decide +kernel) hk1 hFc hP1 hD1
      clear hP hD hPc hDc hFc ht hvm hz1 hk1 hP1 hD1
      obtain ⟨hP, hD⟩ := hJ9
      refine g5_rs [(b_se, (arJ G 13 k2_se)), (b_re, (arJ G 400 k2_re)), (b_o, (oc12 u_th u_sa b_rf b_ro b_im b_ke u_fd b_tp u_td u_fr u_to u_so u_wo u_fa u_bd u_nc b_nl u_co b_op b_ar u_le b_pi b_pa u_pd u_od b_ws b_hw k2_la b_se b_re k2_bk k2_va k2_su u_ce k2_ho k2_wy k2_bt u_ps b_pt k2_tg u_sn b_ip u_ic b_ah b_be b_me u_wd b_tr b_ld u_st b_wn u_id)), (b_ro, (arI G 5740 v_ro))] hP hD ?_
      clear hP hD
      intro hP hD
      refine g5_ti (v := z69) y70 ?_
      refine lv_aload_n hx hb dX12_passes_51 rfl (lv_at hl 1 rfl) ?_
      refine W.eq (g2 := F0 m 52 ls [.ref b_o, .int z69, .int z67, .int z64, .int z61, .int k2_2, .ref b_o]) rfl ?_
      refine va_get (D := G.1) (ci := 12) (v := .int k2_ho) (C := RX12) (T := TX12) (N := 52) hx hb hts inG_X12 hown hK hP 2 rfl rfl 34 (by decide +kernel) (hts _ fl_X12_352) (fun _ h9 => h9) rfl dX12_passes_52 ?_
      obtain ⟨hPc, hDc, hFc⟩ := g5_sub3 (wc := []) hP hD hS hA [] (by decide +kernel) rfl
      refine va_calli (va_runS (As := [.int z69, .int k2_ho]) (rest := [.int z67, .int z64, .int z61, .int k2_2, .ref b_o]) ⟨hx, hb, hml, hown, hts⟩ (n_is l G H.size z69 k2_ho) (va_cwS 2 hts gS_X12_387 rfl rfl rfl hs_X12_is ⟨Nat.le_of_ble_eq_true rfl, Nat.le_of_ble_eq_true rfl⟩) (g5_preS hPc hK hDc hN hT hS hFc) rfl rfl hl.1 rfl (lv_room (Nat.le_of_ble_eq_true rfl)) dX12_passes_55 ⟨Nat.le_of_ble_eq_true rfl, Nat.le_of_ble_eq_true rfl⟩) hS (fun q _ h => hFc q h) hFc (fun r u t H locs ht hvm hw hB hz1 hk1 hS => ?_)
      obtain ⟨hP1, hD1⟩ := hB
      have hP1 := g5_ht ht hP1
      obtain ⟨z72, (i_71 : 0 ≤ z72.toInt ∧ z72.toInt ≤ 1), y73, rfl⟩ := hw
      have hJ9 := g5_same hP hk1
      clear hP hPc hDc hFc ht hvm hz1 hk1 hP1 hD1
      have hP := hJ9
      clear hJ9
      refine g5_ti (v := z72) y73 ?_
      obtain ⟨hPc, hDc, hFc⟩ := g5_sub3 (wc := [(b_o, (oc12 u_th u_sa b_rf b_ro b_im b_ke u_fd b_tp u_td u_fr u_to u_so u_wo u_fa u_bd u_nc b_nl u_co b_op b_ar u_le b_pi b_pa u_pd u_od b_ws b_hw k2_la b_se b_re k2_bk k2_va k2_su u_ce k2_ho k2_wy k2_bt u_ps b_pt k2_tg u_sn b_ip u_ic b_ah b_be b_me u_wd b_tr b_ld u_st b_wn u_id)), (b_ro, (arI G 5740 v_ro)), (b_se, (arJ G 13 k2_se)), (b_re, (arJ G 400 k2_re))]) hP hD hS hA [2, 3, 0, 1] (by decide +kernel) rfl
      refine va_calli (va_runV (As := [.int k2_2, .int z61, .int z64, .int z67, .int z72]) (rest := []) ⟨hx, hb, hml, hown, hts⟩ (n_turns l G b_o b_ro b_se b_re b_rf b_im b_ke b_tp b_nl b_op b_ar b_pi b_pa b_ws b_hw b_pt b_ip b_ah b_be b_me b_tr b_ld b_wn H.size u_th u_sa u_fd u_td u_fr u_to u_so u_fa u_bd u_nc u_co u_le u_pd u_od k2_la k2_bk u_ce k2_ho k2_wy k2_bt u_ps k2_tg u_sn u_ic u_wd u_id k2_2 z61 z64 z67 z72 u_wo k2_va k2_su u_st v_ro k2_se k2_re h_u_td h_u_fr h_u_to h_u_bd h_u_nc h_u_co h_u_pd i_2 i_3 h_u_ce i_4 i_5 i_6 h_u_ps h_u_ic h_u_id i_60 i_63 i_66 i_71 (r_ro)) (cwV 5 hts gV_X12_390 rfl rfl rfl hv_X12_turns ⟨Nat.le_of_ble_eq_true rfl, Nat.le_of_ble_eq_true rfl⟩) (g5_preV hPc hK hDc hN hT hS hFc (ci := 12) (q0 := 0) rfl rfl) rfl rfl hl.1 rfl (lv_room (Nat.le_of_ble_eq_true rfl)) dX12_passes_58 ⟨Nat.le_of_ble_eq_true rfl, Nat.le_of_ble_eq_true rfl⟩) hS (fun q _ h => hFc q h) hFc (fun r u t H locs ht hvm hw hB hz1 hk1 hS => ?_)
      obtain ⟨hP1, hD1⟩ := hB
      have hP1 := g5_ht ht hP1
      obtain ⟨z80, z81, z82, z83, z84, z85, z86, z87, z88, z89, z90, (i_74 : 0 ≤ z80.toInt ∧ z80.toInt ≤ 1), (i_75 : 0 ≤ z81.toInt ∧ z81.toInt ≤ 4840), (i_76 : 0 ≤ z82.toInt ∧ z82.toInt ≤ 1), (i_77 : 0 ≤ z85.toInt ∧ z85.toInt ≤ 23), (i_78 : 0 ≤ z86.toInt ∧ z86.toInt ≤ 3), (i_79 : 0 ≤ z87.toInt ∧ z87.toInt ≤ 1000000), y91, rfl⟩ := hw
      have hJ9 := va_join (wr := []) hP hD [2, 3, 0, 1] [] rfl rfl (by decide +kernel) (by decide +kernel) hk1 hFc hP1 hD1
      clear hP hD hPc hDc hFc ht hvm hz1 hk1 hP1 hD1
      obtain ⟨hP, hD⟩ := hJ9
      refine g5_rs [(b_o, (oc12 u_th u_sa b_rf b_ro b_im b_ke u_fd b_tp u_td u_fr u_to u_so u_wo u_fa u_bd u_nc b_nl u_co b_op b_ar u_le b_pi b_pa u_pd u_od b_ws b_hw z81 b_se b_re z82 z83 z84 u_ce z85 z86 z87 u_ps b_pt z88 u_sn b_ip u_ic b_ah b_be b_me u_wd b_tr b_ld u_st b_wn u_id)), (b_ro, (arI G 5740 v_ro)), (b_se, (arJ G 13 z89)), (b_re, (arJ G 400 z90))] hP hD ?_
      clear hP hD
      intro hP hD
      refine g5_ti (v := z80) y91 ?_
      exact W.zret (v := z80) hx hb hr (g_nb (by omega) (by omega)) (fun t ht hW => ⟨⟨z80, [(b_o, (oc12 u_th u_sa b_rf b_ro b_im b_ke u_fd b_tp u_td u_fr u_to u_so u_wo u_fa u_bd u_nc b_nl u_co b_op b_ar u_le b_pi b_pa u_pd u_od b_ws b_hw z81 b_se b_re z82 z83 z84 u_ce z85 z86 z87 u_ps b_pt z88 u_sn b_ip u_ic b_ah b_be b_me u_wd b_tr b_ld u_st b_wn u_id)), (b_ro, (arI G 5740 v_ro)), (b_se, (arJ G 13 z89)), (b_re, (arJ G 400 z90))], rfl, ⟨z80, z81, z82, z83, z84, z85, z86, z87, z88, z89, z90, i_74, i_75, i_76, i_77, i_78, i_79, rfl, rfl⟩, by rw [ht]; exact hP.sub [0, 1, 2, 3] rfl, hD.sub [0, 1, 2, 3] (by decide +kernel) rfl⟩, hS.F ht⟩) hS.2.2 dX12_passes_61
theorem dgX12_go_0 : ∀ r ∈ ([(0, (.aload_n 0, 1)), (1, (.iload_n 1, 1)), (2, (.putfield 349, 3)), (5, (.aload_n 0, 1)), (6, (.iload_n 2, 1)), (7, (.putfield 355, 3)), (10, (.aload_n 0, 1)), (11, (.iload_n 3, 1)), (12, (.putfield 352, 3)), (15, (.aload_n 0, 1)), (16, (.ldc_w 367, 3)), (19, (.putfield 361, 3)), (22, (.aload_n 0, 1)), (23, (.iconst 0, 1)), (24, (.putfield 358, 3)), (27, (.aload_n 0, 1)), (28, (.iconst 0, 1)), (29, (.putfield 368, 3)), (32, (.aload_n 0, 1)), (33, (.iconst (-1), 1)), (34, (.putfield 371, 3)), (37, (.iconst 1, 1)), (38, (.istore 5, 2)), (40, (.iload 5, 2)), (42, (.ifCond .eq 125, 3)), (45, (.aload_n 0, 1)), (46, (.getfield 358, 3)), (49, (.sipush 200, 3)), (52, (.if_icmp .ge 115, 3)), (55, (.aload_n 0, 1)), (56, (.getfield 349, 3)), (59, (.aload_n 0, 1)), (60, (.getfield 355, 3)), (63, (.invokestatic 374, 3)), (66, (.istore 6, 2)), (68, (.iload 6, 2)), (70, (.iconst (-1), 1)), (71, (.if_icmp .eq 25, 3)), (74, (.aload_n 0, 1)), (75, (.iload 6, 2))] : List (Nat × (Instr × Nat))), decode cX12_go r.1 = .ok r.2 := by decide +kernel
theorem dX12_go_0 : decode cX12_go 0 = .ok (.aload_n 0, 1) := dgX12_go_0 (0, (.aload_n 0, 1)) (List.mem_of_getElem? (i := 0) rfl)
theorem dX12_go_1 : decode cX12_go 1 = .ok (.iload_n 1, 1) := dgX12_go_0 (1, (.iload_n 1, 1)) (List.mem_of_getElem? (i := 1) rfl)
theorem dX12_go_2 : decode cX12_go 2 = .ok (.putfield 349, 3) := dgX12_go_0 (2, (.putfield 349, 3)) (List.mem_of_getElem? (i := 2) rfl)
theorem dX12_go_5 : decode cX12_go 5 = .ok (.aload_n 0, 1) := dgX12_go_0 (5, (.aload_n 0, 1)) (List.mem_of_getElem? (i := 3) rfl)
theorem dX12_go_6 : decode cX12_go 6 = .ok (.iload_n 2, 1) := dgX12_go_0 (6, (.iload_n 2, 1)) (List.mem_of_getElem? (i := 4) rfl)
theorem dX12_go_7 : decode cX12_go 7 = .ok (.putfield 355, 3) := dgX12_go_0 (7, (.putfield 355, 3)) (List.mem_of_getElem? (i := 5) rfl)
theorem dX12_go_10 : decode cX12_go 10 = .ok (.aload_n 0, 1) := dgX12_go_0 (10, (.aload_n 0, 1)) (List.mem_of_getElem? (i := 6) rfl)
theorem dX12_go_11 : decode cX12_go 11 = .ok (.iload_n 3, 1) := dgX12_go_0 (11, (.iload_n 3, 1)) (List.mem_of_getElem? (i := 7) rfl)
theorem dX12_go_12 : decode cX12_go 12 = .ok (.putfield 352, 3) := dgX12_go_0 (12, (.putfield 352, 3)) (List.mem_of_getElem? (i := 8) rfl)
theorem dX12_go_15 : decode cX12_go 15 = .ok (.aload_n 0, 1) := dgX12_go_0 (15, (.aload_n 0, 1)) (List.mem_of_getElem? (i := 9) rfl)
theorem dX12_go_16 : decode cX12_go 16 = .ok (.ldc_w 367, 3) := dgX12_go_0 (16, (.ldc_w 367, 3)) (List.mem_of_getElem? (i := 10) rfl)
theorem dX12_go_19 : decode cX12_go 19 = .ok (.putfield 361, 3) := dgX12_go_0 (19, (.putfield 361, 3)) (List.mem_of_getElem? (i := 11) rfl)
theorem dX12_go_22 : decode cX12_go 22 = .ok (.aload_n 0, 1) := dgX12_go_0 (22, (.aload_n 0, 1)) (List.mem_of_getElem? (i := 12) rfl)
theorem dX12_go_23 : decode cX12_go 23 = .ok (.iconst 0, 1) := dgX12_go_0 (23, (.iconst 0, 1)) (List.mem_of_getElem? (i := 13) rfl)
theorem dX12_go_24 : decode cX12_go 24 = .ok (.putfield 358, 3) := dgX12_go_0 (24, (.putfield 358, 3)) (List.mem_of_getElem? (i := 14) rfl)
theorem dX12_go_27 : decode cX12_go 27 = .ok (.aload_n 0, 1) := dgX12_go_0 (27, (.aload_n 0, 1)) (List.mem_of_getElem? (i := 15) rfl)
theorem dX12_go_28 : decode cX12_go 28 = .ok (.iconst 0, 1) := dgX12_go_0 (28, (.iconst 0, 1)) (List.mem_of_getElem? (i := 16) rfl)
theorem dX12_go_29 : decode cX12_go 29 = .ok (.putfield 368, 3) := dgX12_go_0 (29, (.putfield 368, 3)) (List.mem_of_getElem? (i := 17) rfl)
theorem dX12_go_32 : decode cX12_go 32 = .ok (.aload_n 0, 1) := dgX12_go_0 (32, (.aload_n 0, 1)) (List.mem_of_getElem? (i := 18) rfl)
theorem dX12_go_33 : decode cX12_go 33 = .ok (.iconst (-1), 1) := dgX12_go_0 (33, (.iconst (-1), 1)) (List.mem_of_getElem? (i := 19) rfl)
theorem dX12_go_34 : decode cX12_go 34 = .ok (.putfield 371, 3) := dgX12_go_0 (34, (.putfield 371, 3)) (List.mem_of_getElem? (i := 20) rfl)
theorem dX12_go_37 : decode cX12_go 37 = .ok (.iconst 1, 1) := dgX12_go_0 (37, (.iconst 1, 1)) (List.mem_of_getElem? (i := 21) rfl)
theorem dX12_go_38 : decode cX12_go 38 = .ok (.istore 5, 2) := dgX12_go_0 (38, (.istore 5, 2)) (List.mem_of_getElem? (i := 22) rfl)
theorem dX12_go_40 : decode cX12_go 40 = .ok (.iload 5, 2) := dgX12_go_0 (40, (.iload 5, 2)) (List.mem_of_getElem? (i := 23) rfl)
theorem dX12_go_42 : decode cX12_go 42 = .ok (.ifCond .eq 125, 3) := dgX12_go_0 (42, (.ifCond .eq 125, 3)) (List.mem_of_getElem? (i := 24) rfl)
theorem dX12_go_45 : decode cX12_go 45 = .ok (.aload_n 0, 1) := dgX12_go_0 (45, (.aload_n 0, 1)) (List.mem_of_getElem? (i := 25) rfl)
theorem dX12_go_46 : decode cX12_go 46 = .ok (.getfield 358, 3) := dgX12_go_0 (46, (.getfield 358, 3)) (List.mem_of_getElem? (i := 26) rfl)
theorem dX12_go_49 : decode cX12_go 49 = .ok (.sipush 200, 3) := dgX12_go_0 (49, (.sipush 200, 3)) (List.mem_of_getElem? (i := 27) rfl)
theorem dX12_go_52 : decode cX12_go 52 = .ok (.if_icmp .ge 115, 3) := dgX12_go_0 (52, (.if_icmp .ge 115, 3)) (List.mem_of_getElem? (i := 28) rfl)
theorem dX12_go_55 : decode cX12_go 55 = .ok (.aload_n 0, 1) := dgX12_go_0 (55, (.aload_n 0, 1)) (List.mem_of_getElem? (i := 29) rfl)
theorem dX12_go_56 : decode cX12_go 56 = .ok (.getfield 349, 3) := dgX12_go_0 (56, (.getfield 349, 3)) (List.mem_of_getElem? (i := 30) rfl)
theorem dX12_go_59 : decode cX12_go 59 = .ok (.aload_n 0, 1) := dgX12_go_0 (59, (.aload_n 0, 1)) (List.mem_of_getElem? (i := 31) rfl)
theorem dX12_go_60 : decode cX12_go 60 = .ok (.getfield 355, 3) := dgX12_go_0 (60, (.getfield 355, 3)) (List.mem_of_getElem? (i := 32) rfl)
theorem dX12_go_63 : decode cX12_go 63 = .ok (.invokestatic 374, 3) := dgX12_go_0 (63, (.invokestatic 374, 3)) (List.mem_of_getElem? (i := 33) rfl)
theorem dX12_go_66 : decode cX12_go 66 = .ok (.istore 6, 2) := dgX12_go_0 (66, (.istore 6, 2)) (List.mem_of_getElem? (i := 34) rfl)
theorem dX12_go_68 : decode cX12_go 68 = .ok (.iload 6, 2) := dgX12_go_0 (68, (.iload 6, 2)) (List.mem_of_getElem? (i := 35) rfl)
theorem dX12_go_70 : decode cX12_go 70 = .ok (.iconst (-1), 1) := dgX12_go_0 (70, (.iconst (-1), 1)) (List.mem_of_getElem? (i := 36) rfl)
theorem dX12_go_71 : decode cX12_go 71 = .ok (.if_icmp .eq 25, 3) := dgX12_go_0 (71, (.if_icmp .eq 25, 3)) (List.mem_of_getElem? (i := 37) rfl)
theorem dX12_go_74 : decode cX12_go 74 = .ok (.aload_n 0, 1) := dgX12_go_0 (74, (.aload_n 0, 1)) (List.mem_of_getElem? (i := 38) rfl)
theorem dX12_go_75 : decode cX12_go 75 = .ok (.iload 6, 2) := dgX12_go_0 (75, (.iload 6, 2)) (List.mem_of_getElem? (i := 39) rfl)
theorem dgX12_go_1 : ∀ r ∈ ([(77, (.ifCond .ge 7, 3)), (80, (.iconst 0, 1)), (81, (.goto 5, 3)), (84, (.iload 6, 2)), (86, (.invokevirtual 160, 3)), (89, (.ifCond .ne 7, 3)), (92, (.iconst 1, 1)), (93, (.goto 4, 3)), (96, (.iconst 0, 1)), (97, (.istore 5, 2)), (99, (.iload 5, 2)), (101, (.ifCond .eq 63, 3)), (104, (.aload_n 0, 1)), (105, (.iload 6, 2)), (107, (.putfield 349, 3)), (110, (.aload_n 0, 1)), (111, (.getfield 82, 3)), (114, (.aload_n 0, 1)), (115, (.getfield 358, 3)), (118, (.bipush 64, 2)), (120, (.aload_n 0, 1)), (121, (.getfield 352, 3)), (124, (.imul, 1)), (125, (.aload_n 0, 1)), (126, (.getfield 349, 3)), (129, (.iadd, 1)), (130, (.iastore, 1)), (131, (.aload_n 0, 1)), (132, (.dup, 1)), (133, (.getfield 358, 3)), (136, (.iconst 1, 1)), (137, (.iadd, 1)), (138, (.putfield 358, 3)), (141, (.aload_n 0, 1)), (142, (.invokevirtual 377, 3)), (145, (.ifCond .eq 16, 3)), (148, (.aload_n 0, 1)), (149, (.iload 4, 2)), (151, (.invokevirtual 380, 3)), (154, (.ifCond .eq 7, 3))] : List (Nat × (Instr × Nat))), decode cX12_go r.1 = .ok r.2 := by decide +kernel
theorem dX12_go_77 : decode cX12_go 77 = .ok (.ifCond .ge 7, 3) := dgX12_go_1 (77, (.ifCond .ge 7, 3)) (List.mem_of_getElem? (i := 0) rfl)
theorem dX12_go_84 : decode cX12_go 84 = .ok (.iload 6, 2) := dgX12_go_1 (84, (.iload 6, 2)) (List.mem_of_getElem? (i := 3) rfl)
theorem dX12_go_86 : decode cX12_go 86 = .ok (.invokevirtual 160, 3) := dgX12_go_1 (86, (.invokevirtual 160, 3)) (List.mem_of_getElem? (i := 4) rfl)
theorem dX12_go_89 : decode cX12_go 89 = .ok (.ifCond .ne 7, 3) := dgX12_go_1 (89, (.ifCond .ne 7, 3)) (List.mem_of_getElem? (i := 5) rfl)
theorem dX12_go_92 : decode cX12_go 92 = .ok (.iconst 1, 1) := dgX12_go_1 (92, (.iconst 1, 1)) (List.mem_of_getElem? (i := 6) rfl)
theorem dX12_go_93 : decode cX12_go 93 = .ok (.goto 4, 3) := dgX12_go_1 (93, (.goto 4, 3)) (List.mem_of_getElem? (i := 7) rfl)
theorem dX12_go_96 : decode cX12_go 96 = .ok (.iconst 0, 1) := dgX12_go_1 (96, (.iconst 0, 1)) (List.mem_of_getElem? (i := 8) rfl)
theorem dX12_go_97 : decode cX12_go 97 = .ok (.istore 5, 2) := dgX12_go_1 (97, (.istore 5, 2)) (List.mem_of_getElem? (i := 9) rfl)
theorem dX12_go_99 : decode cX12_go 99 = .ok (.iload 5, 2) := dgX12_go_1 (99, (.iload 5, 2)) (List.mem_of_getElem? (i := 10) rfl)
theorem dX12_go_101 : decode cX12_go 101 = .ok (.ifCond .eq 63, 3) := dgX12_go_1 (101, (.ifCond .eq 63, 3)) (List.mem_of_getElem? (i := 11) rfl)
theorem dX12_go_104 : decode cX12_go 104 = .ok (.aload_n 0, 1) := dgX12_go_1 (104, (.aload_n 0, 1)) (List.mem_of_getElem? (i := 12) rfl)
theorem dX12_go_105 : decode cX12_go 105 = .ok (.iload 6, 2) := dgX12_go_1 (105, (.iload 6, 2)) (List.mem_of_getElem? (i := 13) rfl)
theorem dX12_go_107 : decode cX12_go 107 = .ok (.putfield 349, 3) := dgX12_go_1 (107, (.putfield 349, 3)) (List.mem_of_getElem? (i := 14) rfl)
theorem dX12_go_110 : decode cX12_go 110 = .ok (.aload_n 0, 1) := dgX12_go_1 (110, (.aload_n 0, 1)) (List.mem_of_getElem? (i := 15) rfl)
theorem dX12_go_111 : decode cX12_go 111 = .ok (.getfield 82, 3) := dgX12_go_1 (111, (.getfield 82, 3)) (List.mem_of_getElem? (i := 16) rfl)
theorem dX12_go_114 : decode cX12_go 114 = .ok (.aload_n 0, 1) := dgX12_go_1 (114, (.aload_n 0, 1)) (List.mem_of_getElem? (i := 17) rfl)
theorem dX12_go_115 : decode cX12_go 115 = .ok (.getfield 358, 3) := dgX12_go_1 (115, (.getfield 358, 3)) (List.mem_of_getElem? (i := 18) rfl)
theorem dX12_go_118 : decode cX12_go 118 = .ok (.bipush 64, 2) := dgX12_go_1 (118, (.bipush 64, 2)) (List.mem_of_getElem? (i := 19) rfl)
theorem dX12_go_120 : decode cX12_go 120 = .ok (.aload_n 0, 1) := dgX12_go_1 (120, (.aload_n 0, 1)) (List.mem_of_getElem? (i := 20) rfl)
theorem dX12_go_121 : decode cX12_go 121 = .ok (.getfield 352, 3) := dgX12_go_1 (121, (.getfield 352, 3)) (List.mem_of_getElem? (i := 21) rfl)
theorem dX12_go_124 : decode cX12_go 124 = .ok (.imul, 1) := dgX12_go_1 (124, (.imul, 1)) (List.mem_of_getElem? (i := 22) rfl)
theorem dX12_go_125 : decode cX12_go 125 = .ok (.aload_n 0, 1) := dgX12_go_1 (125, (.aload_n 0, 1)) (List.mem_of_getElem? (i := 23) rfl)
theorem dX12_go_126 : decode cX12_go 126 = .ok (.getfield 349, 3) := dgX12_go_1 (126, (.getfield 349, 3)) (List.mem_of_getElem? (i := 24) rfl)
theorem dX12_go_129 : decode cX12_go 129 = .ok (.iadd, 1) := dgX12_go_1 (129, (.iadd, 1)) (List.mem_of_getElem? (i := 25) rfl)
theorem dX12_go_130 : decode cX12_go 130 = .ok (.iastore, 1) := dgX12_go_1 (130, (.iastore, 1)) (List.mem_of_getElem? (i := 26) rfl)
theorem dX12_go_131 : decode cX12_go 131 = .ok (.aload_n 0, 1) := dgX12_go_1 (131, (.aload_n 0, 1)) (List.mem_of_getElem? (i := 27) rfl)
theorem dX12_go_132 : decode cX12_go 132 = .ok (.dup, 1) := dgX12_go_1 (132, (.dup, 1)) (List.mem_of_getElem? (i := 28) rfl)
theorem dX12_go_133 : decode cX12_go 133 = .ok (.getfield 358, 3) := dgX12_go_1 (133, (.getfield 358, 3)) (List.mem_of_getElem? (i := 29) rfl)
theorem dX12_go_136 : decode cX12_go 136 = .ok (.iconst 1, 1) := dgX12_go_1 (136, (.iconst 1, 1)) (List.mem_of_getElem? (i := 30) rfl)
theorem dX12_go_137 : decode cX12_go 137 = .ok (.iadd, 1) := dgX12_go_1 (137, (.iadd, 1)) (List.mem_of_getElem? (i := 31) rfl)
theorem dX12_go_138 : decode cX12_go 138 = .ok (.putfield 358, 3) := dgX12_go_1 (138, (.putfield 358, 3)) (List.mem_of_getElem? (i := 32) rfl)
theorem dX12_go_141 : decode cX12_go 141 = .ok (.aload_n 0, 1) := dgX12_go_1 (141, (.aload_n 0, 1)) (List.mem_of_getElem? (i := 33) rfl)
theorem dX12_go_142 : decode cX12_go 142 = .ok (.invokevirtual 377, 3) := dgX12_go_1 (142, (.invokevirtual 377, 3)) (List.mem_of_getElem? (i := 34) rfl)
theorem dX12_go_145 : decode cX12_go 145 = .ok (.ifCond .eq 16, 3) := dgX12_go_1 (145, (.ifCond .eq 16, 3)) (List.mem_of_getElem? (i := 35) rfl)
theorem dX12_go_148 : decode cX12_go 148 = .ok (.aload_n 0, 1) := dgX12_go_1 (148, (.aload_n 0, 1)) (List.mem_of_getElem? (i := 36) rfl)
theorem dX12_go_149 : decode cX12_go 149 = .ok (.iload 4, 2) := dgX12_go_1 (149, (.iload 4, 2)) (List.mem_of_getElem? (i := 37) rfl)
theorem dX12_go_151 : decode cX12_go 151 = .ok (.invokevirtual 380, 3) := dgX12_go_1 (151, (.invokevirtual 380, 3)) (List.mem_of_getElem? (i := 38) rfl)
theorem dX12_go_154 : decode cX12_go 154 = .ok (.ifCond .eq 7, 3) := dgX12_go_1 (154, (.ifCond .eq 7, 3)) (List.mem_of_getElem? (i := 39) rfl)
theorem dgX12_go_2 : ∀ r ∈ ([(157, (.iconst 1, 1)), (158, (.goto 4, 3)), (161, (.iconst 0, 1)), (162, (.istore 5, 2)), (164, (.goto (-124), 3)), (167, (.return_, 1))] : List (Nat × (Instr × Nat))), decode cX12_go r.1 = .ok r.2 := by decide +kernel
theorem dX12_go_157 : decode cX12_go 157 = .ok (.iconst 1, 1) := dgX12_go_2 (157, (.iconst 1, 1)) (List.mem_of_getElem? (i := 0) rfl)
theorem dX12_go_158 : decode cX12_go 158 = .ok (.goto 4, 3) := dgX12_go_2 (158, (.goto 4, 3)) (List.mem_of_getElem? (i := 1) rfl)
theorem dX12_go_161 : decode cX12_go 161 = .ok (.iconst 0, 1) := dgX12_go_2 (161, (.iconst 0, 1)) (List.mem_of_getElem? (i := 2) rfl)
theorem dX12_go_162 : decode cX12_go 162 = .ok (.istore 5, 2) := dgX12_go_2 (162, (.istore 5, 2)) (List.mem_of_getElem? (i := 3) rfl)
theorem dX12_go_164 : decode cX12_go 164 = .ok (.goto (-124), 3) := dgX12_go_2 (164, (.goto (-124), 3)) (List.mem_of_getElem? (i := 4) rfl)
theorem dX12_go_167 : decode cX12_go 167 = .ok (.return_, 1) := dgX12_go_2 (167, (.return_, 1)) (List.mem_of_getElem? (i := 5) rfl)
theorem ki_X12_367 : Cond.constant RX12 367 1000000 ∈ tblG := tg 1614 (by decide +kernel) (by decide +kernel)
theorem ml_X12_374 : Cond.methodLink RX12 374 yX12_beside ∈ tblG := tg 1615 (by decide +kernel) (by decide +kernel)
theorem st_X12_beside : Cond.static yX12_beside ∈ tblG := tg 1616 (by decide +kernel) (by decide +kernel)
theorem cd_X12_beside : Cond.code yX12_beside cX12_beside 2 (some .int) ∈ tblG := tg 1617 (by decide +kernel) (by decide +kernel)
theorem gW_X12_beside : GoodIn tblG (wsG yX12_beside cX12_beside 2 (some .int)) := tgi cd_X12_beside
theorem gS_X12_374 : GoodIn tblG (va_wsS RX12 374 yX12_beside (wsG yX12_beside cX12_beside 2 (some .int))) := tgS ml_X12_374 st_X12_beside ini_X12 gW_X12_beside
theorem hs_X12_beside : yX12_beside.cls ≠ "java/lang/invoke/MethodHandle" ∧ yX12_beside.cls ≠ "java/lang/invoke/VarHandle" ∧ (parseMethodDescriptor yX12_beside.desc).map (fun d => d.parameters.length) = some 2 := by decide +kernel
theorem fl_X12_82 : Cond.fieldLink RX12 82 "LateGlassModel" "point" "[I" ∈ tblG := tg 1241 (by decide +kernel) (by decide +kernel)
theorem ml_X12_377 : Cond.methodLink RX12 377 yX12_isFree ∈ tblG := tg 1618 (by decide +kernel) (by decide +kernel)
theorem im_X12_isFree : Cond.instanceMethod yX12_isFree ∈ tblG := tg 1620 (by decide +kernel) (by decide +kernel)
theorem se_X12_isFree : Cond.selects RX12 yX12_isFree yX12_isFree ∈ tblG := tg 63 (by decide +kernel) (by decide +kernel)
theorem cd_X12_isFree : Cond.code yX12_isFree cX12_isFree 2 (some .boolean) ∈ tblG := tg 1621 (by decide +kernel) (by decide +kernel)
theorem gW_X12_isFree : GoodIn tblG (wsG yX12_isFree cX12_isFree 2 (some .boolean)) := tgi cd_X12_isFree
theorem gV_X12_377 : GoodIn tblG (wsV RX12 377 RX12 yX12_isFree (wsG yX12_isFree cX12_isFree 2 (some .boolean))) := tgV ml_X12_377 im_X12_isFree se_X12_isFree ini_X12 gW_X12_isFree
theorem hv_X12_isFree : yX12_isFree.cls = RX12 ∧ yX12_isFree.cls ≠ "java/lang/invoke/MethodHandle" ∧ yX12_isFree.cls ≠ "java/lang/invoke/VarHandle" ∧ (parseMethodDescriptor yX12_isFree.desc).map (fun d => d.parameters.length) = some 0 := by decide +kernel
theorem ml_X12_380 : Cond.methodLink RX12 380 yX12_passes ∈ tblG := tg 1640 (by decide +kernel) (by decide +kernel)
theorem im_X12_passes : Cond.instanceMethod yX12_passes ∈ tblG := tg 1642 (by decide +kernel) (by decide +kernel)
theorem se_X12_passes : Cond.selects RX12 yX12_passes yX12_passes ∈ tblG := tg 68 (by decide +kernel) (by decide +kernel)
theorem cd_X12_passes : Cond.code yX12_passes cX12_passes 3 (some .boolean) ∈ tblG := tg 1643 (by decide +kernel) (by decide +kernel)
theorem gW_X12_passes : GoodIn tblG (wsG yX12_passes cX12_passes 3 (some .boolean)) := tgi cd_X12_passes
theorem gV_X12_380 : GoodIn tblG (wsV RX12 380 RX12 yX12_passes (wsG yX12_passes cX12_passes 3 (some .boolean))) := tgV ml_X12_380 im_X12_passes se_X12_passes ini_X12 gW_X12_passes
theorem hv_X12_passes : yX12_passes.cls = RX12 ∧ yX12_passes.cls ≠ "java/lang/invoke/MethodHandle" ∧ yX12_passes.cls ≠ "java/lang/invoke/VarHandle" ∧ (parseMethodDescriptor yX12_passes.desc).map (fun d => d.parameters.length) = some 1 := by decide +kernel
set_option maxHeartbeats 4000000 in
set_option maxRecDepth 100000 in
theorem n_go (l : Launch) (G : g5_G) (b_o b_ro b_se b_re b_pt b_rf b_im b_ke b_tp b_nl b_op b_ar b_pi b_pa b_ws b_hw b_ip b_ah b_be b_me b_tr b_ld b_wn : Nat) (sz : Nat) (u_th : Int32) (u_sa : Int32) (u_fd : Int32) (u_td : Int32) (u_fr : Int32) (u_to : Int32) (u_so : Int32) (u_fa : Int32) (u_bd : Int32) (u_nc : Int32) (u_co : Int32) (u_le : Int32) (u_pd : Int32) (u_od : Int32) (u_la : Int32) (u_bk : Int32) (u_ce : Int32) (u_ho : Int32) (u_wy : Int32) (u_bt : Int32) (u_ps : Int32) (u_tg : Int32) (u_sn : Int32) (u_ic : Int32) (u_wd : Int32) (u_id : Int32) (p_1 : Int32) (p_2 : Int32) (p_3 : Int32) (p_4 : Int32) (u_wo : Int64) (u_va : Int64) (u_su : Int64) (u_st : Int64) (v_ro : Nat → Int32) (v_se : Nat → Int64) (v_re : Nat → Int64) (v_pt : Nat → Int32) (h_u_td : 0 ≤ u_td.toInt ∧ u_td.toInt ≤ 400) (h_u_fr : 0 ≤ u_fr.toInt ∧ u_fr.toInt ≤ 400) (h_u_to : 0 ≤ u_to.toInt ∧ u_to.toInt ≤ 400) (h_u_bd : 0 ≤ u_bd.toInt ∧ u_bd.toInt ≤ 1) (h_u_nc : 0 ≤ u_nc.toInt ∧ u_nc.toInt ≤ 12) (h_u_co : 0 ≤ u_co.toInt ∧ u_co.toInt ≤ 400) (h_u_pd : 0 ≤ u_pd.toInt ∧ u_pd.toInt ≤ 400) (h_u_la : 0 ≤ u_la.toInt ∧ u_la.toInt ≤ 4840) (h_u_bk : 0 ≤ u_bk.toInt ∧ u_bk.toInt ≤ 1) (h_u_ce : 0 ≤ u_ce.toInt ∧ u_ce.toInt ≤ 63) (h_u_ho : 0 ≤ u_ho.toInt ∧ u_ho.toInt ≤ 23) (h_u_wy : 0 ≤ u_wy.toInt ∧ u_wy.toInt ≤ 3) (h_u_bt : 0 ≤ u_bt.toInt ∧ u_bt.toInt ≤ 1000000) (h_u_ps : 0 ≤ u_ps.toInt ∧ u_ps.toInt ≤ 200) (h_u_ic : 0 ≤ u_ic.toInt ∧ u_ic.toInt ≤ 1) (h_u_id : 0 ≤ u_id.toInt ∧ u_id.toInt ≤ 1) (h_p_1 : 0 ≤ p_1.toInt ∧ p_1.toInt ≤ 63) (h_p_2 : 0 ≤ p_2.toInt ∧ p_2.toInt ≤ 3) (h_p_3 : 0 ≤ p_3.toInt ∧ p_3.toInt ≤ 23) (r_ro : MI v_ro) (r_pt : PTI v_pt) : Met l yX12_go (wsG yX12_go cX12_go 7 none) ({ frames := 6, cells := 0, slots := 0, locals := 150 }) (va_Pc [.ref b_o, .int p_1, .int p_2, .int p_3, .int p_4] (g5_P G [(b_o, (oc12 u_th u_sa b_rf b_ro b_im b_ke u_fd b_tp u_td u_fr u_to u_so u_wo u_fa u_bd u_nc b_nl u_co b_op b_ar u_le b_pi b_pa u_pd u_od b_ws b_hw u_la b_se b_re u_bk u_va u_su u_ce u_ho u_wy u_bt u_ps b_pt u_tg u_sn b_ip u_ic b_ah b_be b_me u_wd b_tr b_ld u_st b_wn u_id)), (b_ro, (arI G 5740 v_ro)), (b_se, (arJ G 13 v_se)), (b_re, (arJ G 400 v_re)), (b_pt, (arI G 200 v_pt))] sz)) (va_Qv (fun (u : va_W) => (∃ (o_la : Int32) (o_bk : Int32) (o_va : Int64) (o_su : Int64) (o_ce : Int32) (o_ho : Int32) (o_wy : Int32) (o_bt : Int32) (o_ps : Int32) (o_tg : Int32) (o_sn : Int32) (o_se : Nat → Int64) (o_re : Nat → Int64) (o_pt : Nat → Int32), (0 ≤ o_la.toInt ∧ o_la.toInt ≤ 4840) ∧ (0 ≤ o_bk.toInt ∧ o_bk.toInt ≤ 1) ∧ (0 ≤ o_ce.toInt ∧ o_ce.toInt ≤ 63) ∧ (0 ≤ o_ho.toInt ∧ o_ho.toInt ≤ 23) ∧ (0 ≤ o_wy.toInt ∧ o_wy.toInt ≤ 3) ∧ (0 ≤ o_bt.toInt ∧ o_bt.toInt ≤ 1000000) ∧ (0 ≤ o_ps.toInt ∧ o_ps.toInt ≤ 200) ∧ (PTI o_pt) ∧ (u = [(b_o, (oc12 u_th u_sa b_rf b_ro b_im b_ke u_fd b_tp u_td u_fr u_to u_so u_wo u_fa u_bd u_nc b_nl u_co b_op b_ar u_le b_pi b_pa u_pd u_od b_ws b_hw o_la b_se b_re o_bk o_va o_su o_ce o_ho o_wy o_bt o_ps b_pt o_tg o_sn b_ip u_ic b_ah b_be b_me u_wd b_tr b_ld u_st b_wn u_id)), (b_ro, (arI G 5740 v_ro)), (b_se, (arJ G 13 o_se)), (b_re, (arJ G 400 o_re)), (b_pt, (arI G 200 o_pt))]))) (g5_B G (va_A [(b_o, (oc12 u_th u_sa b_rf b_ro b_im b_ke u_fd b_tp u_td u_fr u_to u_so u_wo u_fa u_bd u_nc b_nl u_co b_op b_ar u_le b_pi b_pa u_pd u_od b_ws b_hw u_la b_se b_re u_bk u_va u_su u_ce u_ho u_wy u_bt u_ps b_pt u_tg u_sn b_ip u_ic b_ah b_be b_me u_wd b_tr b_ld u_st b_wn u_id)), (b_ro, (arI G 5740 v_ro)), (b_se, (arJ G 13 v_se)), (b_re, (arJ G 400 v_re)), (b_pt, (arI G 200 v_pt))] sz)) (va_A [(b_o, (oc12 u_th u_sa b_rf b_ro b_im b_ke u_fd b_tp u_td u_fr u_to u_so u_wo u_fa u_bd u_nc b_nl u_co b_op b_ar u_le b_pi b_pa u_pd u_od b_ws b_hw u_la b_se b_re u_bk u_va u_su u_ce u_ho u_wy u_bt u_ps b_pt u_tg u_sn b_ip u_ic b_ah b_be b_me u_wd b_tr b_ld u_st b_wn u_id)), (b_ro, (arI G 5740 v_ro)), (b_se, (arJ G 13 v_se)), (b_re, (arJ G 400 v_re)), (b_pt, (arI G 200 v_pt))] sz)) 0 0 (va_A [(b_o, (oc12 u_th u_sa b_rf b_ro b_im b_ke u_fd b_tp u_td u_fr u_to u_so u_wo u_fa u_bd u_nc b_nl u_co b_op b_ar u_le b_pi b_pa u_pd u_od b_ws b_hw u_la b_se b_re u_bk u_va u_su u_ce u_ho u_wy u_bt u_ps b_pt u_tg u_sn b_ip u_ic b_ah b_be b_me u_wd b_tr b_ld u_st b_wn u_id)), (b_ro, (arI G 5740 v_ro)), (b_se, (arJ G 13 v_se)), (b_re, (arJ G 400 v_re)), (b_pt, (arI G 200 v_pt))] sz) := by
  refine Met.ofW (cc := cX12_go) (maxL := 7) (ret := none) (by decide +kernel) rfl ?_
  intro p e s m args below meth c s₁ B hml hv
  obtain ⟨rfl, hsz, hP, hK, hD0, hN, hT⟩ := hv
  have hx := B.exec
  have hb := B.bytes
  have hr := B.returns
  have hts : ∀ w ∈ tblG, w.before _ s = true := fun w h => atoms_spec (ws := (wsG yX12_go cX12_go 7 none)) B.pre w (List.mem_cons_of_mem _ h)
  have hown : s.vm.findClass RX12 = some m.cls := findClass_of_methodNamed B.named
  have hlocks := B.notSynchronized
  subst hsz
  have hD := hD0.self (sz := s.heap.size)
  generalize hAe : va_A [(b_o, (oc12 u_th u_sa b_rf b_ro b_im b_ke u_fd b_tp u_td u_fr u_to u_so u_wo u_fa u_bd u_nc b_nl u_co b_op b_ar u_le b_pi b_pa u_pd u_od b_ws b_hw u_la b_se b_re u_bk u_va u_su u_ce u_ho u_wy u_bt u_ps b_pt u_tg u_sn b_ip u_ic b_ah b_be b_me u_wd b_tr b_ld u_st b_wn u_id)), (b_ro, (arI G 5740 v_ro)), (b_se, (arJ G 13 v_se)), (b_re, (arJ G 400 v_re)), (b_pt, (arI G 200 v_pt))] s.heap.size = A at hD hT ⊢
  have hA : ∀ q : Nat, s.heap.size ≤ q → A q := fun q h => by rw [← hAe]; exact Or.inr h
  have hS : va_S A s.heap s.heap [] := va_S.rf
  replace hP : va_P G.1 vwCl [(b_o, (oc12 u_th u_sa b_rf b_ro b_im b_ke u_fd b_tp u_td u_fr u_to u_so u_wo u_fa u_bd u_nc b_nl u_co b_op b_ar u_le b_pi b_pa u_pd u_od b_ws b_hw u_la b_se b_re u_bk u_va u_su u_ce u_ho u_wy u_bt u_ps b_pt u_tg u_sn b_ip u_ic b_ah b_be b_me u_wd b_tr b_ld u_st b_wn u_id)), (b_ro, (arI G 5740 v_ro)), (b_se, (arJ G 13 v_se)), (b_re, (arJ G 400 v_re)), (b_pt, (arI G 200 v_pt))] s.heap := hP
  have hl := lv_entry ([.ref b_o, .int p_1, .int p_2, .int p_3, .int p_4]) (n := 7) (Nat.le_of_ble_eq_true rfl)
  rw [lg_entry_eq]
  generalize (lg_sl ([.ref b_o, .int p_1, .int p_2, .int p_3, .int p_4]) ++ List.replicate (7 - (lg_sl ([.ref b_o, .int p_1, .int p_2, .int p_3, .int p_4])).length) Slot.unset).toArray = ls at hl ⊢
  replace hl : lv_has ls 7 [(0, .ref b_o), (1, .int p_1), (2, .int p_2), (3, .int p_3), (4, .int p_4)] := hl
  refine lv_aload_n hx hb dX12_go_0 rfl (lv_at hl 0 rfl) ?_
  refine lv_iload_n hx hb dX12_go_1 rfl (lv_at hl 1 rfl) ?_
  refine va_put (D := G.1) (ci := 12) (v := .int p_1) (ty := .int) (C := RX12) (T := TX12) (N := 52) hx hb hts inG_X12 tyX12 tyX12_ok nmX12 hown hK hP hD hS 0 rfl rfl 33 (by decide +kernel) (hts _ fl_X12_349) (fun _ h9 => h9) rfl (by decide +kernel) rfl rfl (Nat.le_of_ble_eq_true rfl) dX12_go_2 ?_
  clear hP hD hS
  intro H locs hP hD hS
  refine g5_rs [(b_o, (oc12 u_th u_sa b_rf b_ro b_im b_ke u_fd b_tp u_td u_fr u_to u_so u_wo u_fa u_bd u_nc b_nl u_co b_op b_ar u_le b_pi b_pa u_pd u_od b_ws b_hw u_la b_se b_re u_bk u_va u_su p_1 u_ho u_wy u_bt u_ps b_pt u_tg u_sn b_ip u_ic b_ah b_be b_me u_wd b_tr b_ld u_st b_wn u_id)), (b_ro, (arI G 5740 v_ro)), (b_se, (arJ G 13 v_se)), (b_re, (arJ G 400 v_re)), (b_pt, (arI G 200 v_pt))] hP hD ?_
  clear hP hD
  intro hP hD
  refine lv_aload_n hx hb dX12_go_5 rfl (lv_at hl 0 rfl) ?_
  refine W.eq (g2 := F0 m 6 ls [.ref b_o]) rfl ?_
  refine lv_iload_n hx hb dX12_go_6 rfl (lv_at hl 2 rfl) ?_
  refine va_put (D := G.1) (ci := 12) (v := .int p_2) (ty := .int) (C := RX12) (T := TX12) (N := 52) hx hb hts inG_X12 tyX12 tyX12_ok nmX12 hown hK hP hD hS 0 rfl rfl 35 (by decide +kernel) (hts _ fl_X12_355) (fun _ h9 => h9) rfl (by decide +kernel) rfl rfl (Nat.le_of_ble_eq_true rfl) dX12_go_7 ?_
  clear hP hD hS
  intro H locs hP hD hS
  refine g5_rs [(b_o, (oc12 u_th u_sa b_rf b_ro b_im b_ke u_fd b_tp u_td u_fr u_to u_so u_wo u_fa u_bd u_nc b_nl u_co b_op b_ar u_le b_pi b_pa u_pd u_od b_ws b_hw u_la b_se b_re u_bk u_va u_su p_1 u_ho p_2 u_bt u_ps b_pt u_tg u_sn b_ip u_ic b_ah b_be b_me u_wd b_tr b_ld u_st b_wn u_id)), (b_ro, (arI G 5740 v_ro)), (b_se, (arJ G 13 v_se)), (b_re, (arJ G 400 v_re)), (b_pt, (arI G 200 v_pt))] hP hD ?_
  clear hP hD
  intro hP hD
  refine lv_aload_n hx hb dX12_go_10 rfl (lv_at hl 0 rfl) ?_
  refine lv_iload_n hx hb dX12_go_11 rfl (lv_at hl 3 rfl) ?_
  refine va_put (D := G.1) (ci := 12) (v := .int p_3) (ty := .int) (C := RX12) (T := TX12) (N := 52) hx hb hts inG_X12 tyX12 tyX12_ok nmX12 hown hK hP hD hS 0 rfl rfl 34 (by decide +kernel) (hts _ fl_X12_352) (fun _ h9 => h9) rfl (by decide +kernel) rfl rfl (Nat.le_of_ble_eq_true rfl) dX12_go_12 ?_
  clear hP hD hS
  intro H locs hP hD hS
  refine g5_rs [(b_o, (oc12 u_th u_sa b_rf b_ro b_im b_ke u_fd b_tp u_td u_fr u_to u_so u_wo u_fa u_bd u_nc b_nl u_co b_op b_ar u_le b_pi b_pa u_pd u_od b_ws b_hw u_la b_se b_re u_bk u_va u_su p_1 p_3 p_2 u_bt u_ps b_pt u_tg u_sn b_ip u_ic b_ah b_be b_me u_wd b_tr b_ld u_st b_wn u_id)), (b_ro, (arI G 5740 v_ro)), (b_se, (arJ G 13 v_se)), (b_re, (arJ G 400 v_re)), (b_pt, (arI G 200 v_pt))] hP hD ?_
  clear hP hD
  intro hP hD
  refine W.eq (g2 := F0 m 15 ls []) rfl ?_
  refine lv_aload_n hx hb dX12_go_15 rfl (lv_at hl 0 rfl) ?_
  refine lv_ldcw (v := 1000000) hx hb hown (hts _ ki_X12_367) dX12_go_16 ?_
  refine va_put (D := G.1) (ci := 12) (v := .int 1000000) (ty := .int) (C := RX12) (T := TX12) (N := 52) hx hb hts inG_X12 tyX12 tyX12_ok nmX12 hown hK hP hD hS 0 rfl rfl 36 (by decide +kernel) (hts _ fl_X12_361) (fun _ h9 => h9) rfl (by decide +kernel) rfl rfl (Nat.le_of_ble_eq_true rfl) dX12_go_19 ?_
  clear hP hD hS
  intro H locs hP hD hS
  refine g5_rs [(b_o, (oc12 u_th u_sa b_rf b_ro b_im b_ke u_fd b_tp u_td u_fr u_to u_so u_wo u_fa u_bd u_nc b_nl u_co b_op b_ar u_le b_pi b_pa u_pd u_od b_ws b_hw u_la b_se b_re u_bk u_va u_su p_1 p_3 p_2 1000000 u_ps b_pt u_tg u_sn b_ip u_ic b_ah b_be b_me u_wd b_tr b_ld u_st b_wn u_id)), (b_ro, (arI G 5740 v_ro)), (b_se, (arJ G 13 v_se)), (b_re, (arJ G 400 v_re)), (b_pt, (arI G 200 v_pt))] hP hD ?_
  clear hP hD
  intro hP hD
  refine lv_aload_n hx hb dX12_go_22 rfl (lv_at hl 0 rfl) ?_
  refine lv_iconst (v := 0) hx hb dX12_go_23 (by decide +kernel) ?_
  refine W.eq (g2 := F0 m 24 ls [.int 0, .ref b_o]) rfl ?_
  refine va_put (D := G.1) (ci := 12) (v := .int 0) (ty := .int) (C := RX12) (T := TX12) (N := 52) hx hb hts inG_X12 tyX12 tyX12_ok nmX12 hown hK hP hD hS 0 rfl rfl 37 (by decide +kernel) (hts _ fl_X12_358) (fun _ h9 => h9) rfl (by decide +kernel) rfl rfl (Nat.le_of_ble_eq_true rfl) dX12_go_24 ?_
  clear hP hD hS
  intro H locs hP hD hS
  refine g5_rs [(b_o, (oc12 u_th u_sa b_rf b_ro b_im b_ke u_fd b_tp u_td u_fr u_to u_so u_wo u_fa u_bd u_nc b_nl u_co b_op b_ar u_le b_pi b_pa u_pd u_od b_ws b_hw u_la b_se b_re u_bk u_va u_su p_1 p_3 p_2 1000000 0 b_pt u_tg u_sn b_ip u_ic b_ah b_be b_me u_wd b_tr b_ld u_st b_wn u_id)), (b_ro, (arI G 5740 v_ro)), (b_se, (arJ G 13 v_se)), (b_re, (arJ G 400 v_re)), (b_pt, (arI G 200 v_pt))] hP hD ?_
  clear hP hD
  intro hP hD
  refine lv_aload_n hx hb dX12_go_27 rfl (lv_at hl 0 rfl) ?_
  refine lv_iconst (v := 0) hx hb dX12_go_28 (by decide +kernel) ?_
  refine va_put (D := G.1) (ci := 12) (v := .int 0) (ty := .int) (C := RX12) (T := TX12) (N := 52) hx hb hts inG_X12 tyX12 tyX12_ok nmX12 hown hK hP hD hS 0 rfl rfl 39 (by decide +kernel) (hts _ fl_X12_368) (fun _ h9 => h9) rfl (by decide +kernel) rfl rfl (Nat.le_of_ble_eq_true rfl) dX12_go_29 ?_
  clear hP hD hS
  intro H locs hP hD hS
  refine g5_rs [(b_o, (oc12 u_th u_sa b_rf b_ro b_im b_ke u_fd b_tp u_td u_fr u_to u_so u_wo u_fa u_bd u_nc b_nl u_co b_op b_ar u_le b_pi b_pa u_pd u_od b_ws b_hw u_la b_se b_re u_bk u_va u_su p_1 p_3 p_2 1000000 0 b_pt 0 u_sn b_ip u_ic b_ah b_be b_me u_wd b_tr b_ld u_st b_wn u_id)), (b_ro, (arI G 5740 v_ro)), (b_se, (arJ G 13 v_se)), (b_re, (arJ G 400 v_re)), (b_pt, (arI G 200 v_pt))] hP hD ?_
  clear hP hD
  intro hP hD
  refine lv_aload_n hx hb dX12_go_32 rfl (lv_at hl 0 rfl) ?_
  refine W.eq (g2 := F0 m 33 ls [.ref b_o]) rfl ?_
  refine lv_iconst (v := (-1)) hx hb dX12_go_33 (by decide +kernel) ?_
  refine va_put (D := G.1) (ci := 12) (v := .int (-1)) (ty := .int) (C := RX12) (T := TX12) (N := 52) hx hb hts inG_X12 tyX12 tyX12_ok nmX12 hown hK hP hD hS 0 rfl rfl 40 (by decide +kernel) (hts _ fl_X12_371) (fun _ h9 => h9) rfl (by decide +kernel) rfl rfl (Nat.le_of_ble_eq_true rfl) dX12_go_34 ?_
  clear hP hD hS
  intro H locs hP hD hS
  refine g5_rs [(b_o, (oc12 u_th u_sa b_rf b_ro b_im b_ke u_fd b_tp u_td u_fr u_to u_so u_wo u_fa u_bd u_nc b_nl u_co b_op b_ar u_le b_pi b_pa u_pd u_od b_ws b_hw u_la b_se b_re u_bk u_va u_su p_1 p_3 p_2 1000000 0 b_pt 0 (-1) b_ip u_ic b_ah b_be b_me u_wd b_tr b_ld u_st b_wn u_id)), (b_ro, (arI G 5740 v_ro)), (b_se, (arJ G 13 v_se)), (b_re, (arJ G 400 v_re)), (b_pt, (arI G 200 v_pt))] hP hD ?_
  clear hP hD
  intro hP hD
  refine lv_iconst (v := 1) hx hb dX12_go_37 (by decide +kernel) ?_
  refine lv_istore (lv' := [(5, .int 1), (0, .ref b_o), (1, .int p_1), (2, .int p_2), (3, .int p_3), (4, .int p_4)]) hx hb dX12_go_38 hl (by decide +kernel) rfl ?_
  clear hl
  intro ls hl
  refine g5_loop (α := (Int32) × (Int32) × (Int32) × (Int64) × (Int64) × (Int32) × (Int32) × (Int32) × (Int32) × (Int32) × (Int32) × (Int32) × (Nat → Int64) × (Nat → Int64) × (Nat → Int32)) (fun (q : (Int32) × (Int32) × (Int32) × (Int64) × (Int64) × (Int32) × (Int32) × (Int32) × (Int32) × (Int32) × (Int32) × (Int32) × (Nat → Int64) × (Nat → Int64) × (Nat → Int32)) (ls : Array Slot) (H : Heap) (locs : List Loc) => match q with | (k40_5, k40_la, k40_bk, k40_va, k40_su, k40_ce, k40_ho, k40_wy, k40_bt, k40_ps, k40_tg, k40_sn, k40_se, k40_re, k40_pt) => lv_has ls 7 [(5, .int k40_5), (0, .ref b_o), (1, .int p_1), (2, .int p_2), (3, .int p_3), (4, .int p_4)] ∧ va_P G.1 vwCl [(b_o, (oc12 u_th u_sa b_rf b_ro b_im b_ke u_fd b_tp u_td u_fr u_to u_so u_wo u_fa u_bd u_nc b_nl u_co b_op b_ar u_le b_pi b_pa u_pd u_od b_ws b_hw k40_la b_se b_re k40_bk k40_va k40_su k40_ce k40_ho k40_wy k40_bt k40_ps b_pt k40_tg k40_sn b_ip u_ic b_ah b_be b_me u_wd b_tr b_ld u_st b_wn u_id)), (b_ro, (arI G 5740 v_ro)), (b_se, (arJ G 13 k40_se)), (b_re, (arJ G 400 k40_re)), (b_pt, (arI G 200 k40_pt))] H ∧ va_D A [(b_o, (oc12 u_th u_sa b_rf b_ro b_im b_ke u_fd b_tp u_td u_fr u_to u_so u_wo u_fa u_bd u_nc b_nl u_co b_op b_ar u_le b_pi b_pa u_pd u_od b_ws b_hw k40_la b_se b_re k40_bk k40_va k40_su k40_ce k40_ho k40_wy k40_bt k40_ps b_pt k40_tg k40_sn b_ip u_ic b_ah b_be b_me u_wd b_tr b_ld u_st b_wn u_id)), (b_ro, (arI G 5740 v_ro)), (b_se, (arJ G 13 k40_se)), (b_re, (arJ G 400 k40_re)), (b_pt, (arI G 200 k40_pt))] ∧ va_S A s.heap H locs ∧ (0 ≤ k40_5.toInt ∧ k40_5.toInt ≤ 1) ∧ (0 ≤ k40_la.toInt ∧ k40_la.toInt ≤ 4840) ∧ (0 ≤ k40_bk.toInt ∧ k40_bk.toInt ≤ 1) ∧ (0 ≤ k40_ce.toInt ∧ k40_ce.toInt ≤ 63) ∧ (0 ≤ k40_ho.toInt ∧ k40_ho.toInt ≤ 23) ∧ (0 ≤ k40_wy.toInt ∧ k40_wy.toInt ≤ 3) ∧ (0 ≤ k40_bt.toInt ∧ k40_bt.toInt ≤ 1000000) ∧ (0 ≤ k40_ps.toInt ∧ k40_ps.toInt ≤ 200) ∧ (PTI k40_pt)) (fun (q : (Int32) × (Int32) × (Int32) × (Int64) × (Int64) × (Int32) × (Int32) × (Int32) × (Int32) × (Int32) × (Int32) × (Int32) × (Nat → Int64) × (Nat → Int64) × (Nat → Int32)) => match q with | (k40_5, k40_la, k40_bk, k40_va, k40_su, k40_ce, k40_ho, k40_wy, k40_bt, k40_ps, k40_tg, k40_sn, k40_se, k40_re, k40_pt) => Int.toNat (2 * (200 - k40_ps.toInt) + k40_5.toInt)) (1, u_la, u_bk, u_va, u_su, p_1, p_3, p_2, 1000000, 0, 0, (-1), v_se, v_re, v_pt) ⟨lv_sub hl [0, 1, 2, 3, 4, 5] rfl, hP, hD, hS, ⟨by decide, by decide⟩, h_u_la, h_u_bk, h_p_1, h_p_3, h_p_2, ⟨by decide, by decide⟩, ⟨by decide, by decide⟩, r_pt⟩ ?_
  rintro ⟨k40_5, k40_la, k40_bk, k40_va, k40_su, k40_ce, k40_ho, k40_wy, k40_bt, k40_ps, k40_tg, k40_sn, k40_se, k40_re, k40_pt⟩ ls H locs ⟨hl, hP, hD, hS, (i_1 : 0 ≤ k40_5.toInt ∧ k40_5.toInt ≤ 1), (i_2 : 0 ≤ k40_la.toInt ∧ k40_la.toInt ≤ 4840), (i_3 : 0 ≤ k40_bk.toInt ∧ k40_bk.toInt ≤ 1), (i_4 : 0 ≤ k40_ce.toInt ∧ k40_ce.toInt ≤ 63), (i_5 : 0 ≤ k40_ho.toInt ∧ k40_ho.toInt ≤ 23), (i_6 : 0 ≤ k40_wy.toInt ∧ k40_wy.toInt ≤ 3), (i_7 : 0 ≤ k40_bt.toInt ∧ k40_bt.toInt ≤ 1000000), (i_8 : 0 ≤ k40_ps.toInt ∧ k40_ps.toInt ≤ 200), (i_9 : PTI k40_pt)⟩ ih_40_10
  replace hl : lv_has ls 7 [(5, .int k40_5), (0, .ref b_o), (1, .int p_1), (2, .int p_2), (3, .int p_3), (4, .int p_4)] := hl
  refine g5_rs [(b_o, (oc12 u_th u_sa b_rf b_ro b_im b_ke u_fd b_tp u_td u_fr u_to u_so u_wo u_fa u_bd u_nc b_nl u_co b_op b_ar u_le b_pi b_pa u_pd u_od b_ws b_hw k40_la b_se b_re k40_bk k40_va k40_su k40_ce k40_ho k40_wy k40_bt k40_ps b_pt k40_tg k40_sn b_ip u_ic b_ah b_be b_me u_wd b_tr b_ld u_st b_wn u_id)), (b_ro, (arI G 5740 v_ro)), (b_se, (arJ G 13 k40_se)), (b_re, (arJ G 400 k40_re)), (b_pt, (arI G 200 k40_pt))] hP hD ?_
  clear hP hD
  intro hP hD
  refine lv_iload hx hb dX12_go_40 (lv_at hl 0 rfl) ?_
  refine lv_if_eq (tgt := 167) hx hb dX12_go_42 (by decide +kernel) (fun c_11 => ?_) (fun c_11 => ?_)
  ·
    have i_11 : k40_5.toInt = 0 := g5_eq (a := k40_5.toInt) (b := 0) rfl (by decide +kernel) c_11
    exact W.vret hx hb hr (fun t ht hW => ⟨⟨[(b_o, (oc12 u_th u_sa b_rf b_ro b_im b_ke u_fd b_tp u_td u_fr u_to u_so u_wo u_fa u_bd u_nc b_nl u_co b_op b_ar u_le b_pi b_pa u_pd u_od b_ws b_hw k40_la b_se b_re k40_bk k40_va k40_su k40_ce k40_ho k40_wy k40_bt k40_ps b_pt k40_tg k40_sn b_ip u_ic b_ah b_be b_me u_wd b_tr b_ld u_st b_wn u_id)), (b_ro, (arI G 5740 v_ro)), (b_se, (arJ G 13 k40_se)), (b_re, (arJ G 400 k40_re)), (b_pt, (arI G 200 k40_pt))], rfl, ⟨k40_la, k40_bk, k40_va, k40_su, k40_ce, k40_ho, k40_wy, k40_bt, k40_ps, k40_tg, k40_sn, k40_se, k40_re, k40_pt, i_2, i_3, i_4, i_5, i_6, i_7, i_8, i_9, rfl⟩, by rw [ht]; exact hP.sub [0, 1, 2, 3, 4] rfl, hD.sub [0, 1, 2, 3, 4] (by decide +kernel) rfl⟩, hS.F ht⟩) hS.2.2 dX12_go_167
  ·
    have n_11 : gNe (k40_5.toInt) (0) := g5_eqN (a := k40_5.toInt) (b := 0) rfl (by decide +kernel) c_11
    have i_11 : k40_5.toInt ≥ 1 := by have z := g5_eqN (a := k40_5.toInt) (b := 0) (by rfl) (by decide +kernel) c_11; omega
    refine lv_aload_n hx hb dX12_go_45 rfl (lv_at hl 1 rfl) ?_
    refine va_get (D := G.1) (ci := 12) (v := .int k40_ps) (C := RX12) (T := TX12) (N := 52) hx hb hts inG_X12 hown hK hP 0 rfl rfl 37 (by decide +kernel) (hts _ fl_X12_358) (fun _ h9 => h9) rfl dX12_go_46 ?_
    refine lv_sipush (v := 200) hx hb dX12_go_49 (by decide +kernel) ?_
    refine lv_icmp_ge (tgt := 167) hx hb dX12_go_52 (by decide +kernel) (fun c_12 => ?_) (fun c_12 => ?_)
    ·
      have i_12 : k40_ps.toInt ≥ 200 := g5_ge (a := k40_ps.toInt) (b := 200) rfl (by decide +kernel) c_12
      exact W.vret hx hb hr (fun t ht hW => ⟨⟨[(b_o, (oc12 u_th u_sa b_rf b_ro b_im b_ke u_fd b_tp u_td u_fr u_to u_so u_wo u_fa u_bd u_nc b_nl u_co b_op b_ar u_le b_pi b_pa u_pd u_od b_ws b_hw k40_la b_se b_re k40_bk k40_va k40_su k40_ce k40_ho k40_wy k40_bt k40_ps b_pt k40_tg k40_sn b_ip u_ic b_ah b_be b_me u_wd b_tr b_ld u_st b_wn u_id)), (b_ro, (arI G 5740 v_ro)), (b_se, (arJ G 13 k40_se)), (b_re, (arJ G 400 k40_re)), (b_pt, (arI G 200 k40_pt))], rfl, ⟨k40_la, k40_bk, k40_va, k40_su, k40_ce, k40_ho, k40_wy, k40_bt, k40_ps, k40_tg, k40_sn, k40_se, k40_re, k40_pt, i_2, i_3, i_4, i_5, i_6, i_7, i_8, i_9, rfl⟩, by rw [ht]; exact hP.sub [0, 1, 2, 3, 4] rfl, hD.sub [0, 1, 2, 3, 4] (by decide +kernel) rfl⟩, hS.F ht⟩) hS.2.2 dX12_go_167
    ·
      have i_12 : k40_ps.toInt < 200 := g5_geN (a := k40_ps.toInt) (b := 200) rfl (by decide +kernel) c_12
      refine lv_aload_n hx hb dX12_go_55 rfl (lv_at hl 1 rfl) ?_
      refine va_get (D := G.1) (ci := 12) (v := .int k40_ce) (C := RX12) (T := TX12) (N := 52) hx hb hts inG_X12 hown hK hP 0 rfl rfl 33 (by decide +kernel) (hts _ fl_X12_349) (fun _ h9 => h9) rfl dX12_go_56 ?_
      refine lv_aload_n hx hb dX12_go_59 rfl (lv_at hl 1 rfl) ?_
      refine va_get (D := G.1) (ci := 12) (v := .int k40_wy) (C := RX12) (T := TX12) (N := 52) hx hb hts inG_X12 hown hK hP 0 rfl rfl 35 (by decide +kernel) (hts _ fl_X12_355) (fun _ h9 => h9) rfl dX12_go_60 ?_
      refine W.eq (g2 := F0 m 63 ls [.int k40_wy, .int k40_ce]) rfl ?_
      obtain ⟨hPc, hDc, hFc⟩ := g5_sub3 (wc := []) hP hD hS hA [] (by decide +kernel) rfl
      refine va_calli (va_runS (As := [.int k40_ce, .int k40_wy]) (rest := []) ⟨hx, hb, hml, hown, hts⟩ (n_beside l G H.size k40_ce k40_wy i_4) (va_cwS 2 hts gS_X12_374 rfl rfl rfl hs_X12_beside ⟨Nat.le_of_ble_eq_true rfl, Nat.le_of_ble_eq_true rfl⟩) (g5_preS hPc hK hDc hN hT hS hFc) rfl rfl hl.1 rfl (lv_room (Nat.le_of_ble_eq_true rfl)) dX12_go_63 ⟨Nat.le_of_ble_eq_true rfl, Nat.le_of_ble_eq_true rfl⟩) hS (fun q _ h => hFc q h) hFc (fun r u t H locs ht hvm hw hB hz1 hk1 hS => ?_)
      obtain ⟨hP1, hD1⟩ := hB
      have hP1 := g5_ht ht hP1
      obtain ⟨z14, (i_13 : -1 ≤ z14.toInt ∧ z14.toInt ≤ 63), y15, rfl⟩ := hw
      have hJ9 := g5_same hP hk1
      clear hP hPc hDc hFc ht hvm hz1 hk1 hP1 hD1
      have hP := hJ9
      clear hJ9
      refine g5_ti (v := z14) y15 ?_
      refine lv_istore (lv' := [(6, .int z14), (5, .int k40_5), (0, .ref b_o), (1, .int p_1), (2, .int p_2), (3, .int p_3), (4, .int p_4)]) hx hb dX12_go_66 hl (by decide +kernel) rfl ?_
      clear hl
      intro ls hl
      refine lv_iload hx hb dX12_go_68 (lv_at hl 0 rfl) ?_
      refine lv_iconst (v := (-1)) hx hb dX12_go_70 (by decide +kernel) ?_
      refine lv_icmp_eq (tgt := 96) hx hb dX12_go_71 (by decide +kernel) (fun c_16 => ?_) (fun c_16 => ?_)
      ·
        have i_16 : z14.toInt = (-1) := g5_eq (a := z14.toInt) (b := (-1)) rfl (by decide +kernel) c_16
        refine lv_iconst (v := 0) hx hb dX12_go_96 (by decide +kernel) ?_
        refine lv_istore (lv' := [(5, .int 0), (6, .int z14), (0, .ref b_o), (1, .int p_1), (2, .int p_2), (3, .int p_3), (4, .int p_4)]) hx hb dX12_go_97 hl (by decide +kernel) rfl ?_
        clear hl
        intro ls hl
        refine lv_iload hx hb dX12_go_99 (lv_at hl 0 rfl) ?_
        refine lv_if_eq (tgt := 164) hx hb dX12_go_101 (by decide +kernel) (fun c_17 => ?_) (fun c_17 => ?_)
        ·
          refine lv_goto (tgt := 40) hx hb dX12_go_164 (by decide +kernel) ?_
          exact ih_40_10 (0, k40_la, k40_bk, k40_va, k40_su, k40_ce, k40_ho, k40_wy, k40_bt, k40_ps, k40_tg, k40_sn, k40_se, k40_re, k40_pt) ls H locs (show Int.toNat (2 * (200 - k40_ps.toInt) + (0 : Int32).toInt) < Int.toNat (2 * (200 - k40_ps.toInt) + k40_5.toInt) by have zc_k40_5 : (0 : Int32).toInt = 0 := (by decide +kernel); omega) ⟨lv_sub hl [0, 2, 3, 4, 5, 6] rfl, hP, hD, hS, ⟨by decide, by decide⟩, i_2, i_3, i_4, i_5, i_6, i_7, i_8, i_9⟩
        ·
          exact absurd c_17 (by decide +kernel)
      ·
        have n_16 : gNe (z14.toInt) ((-1)) := g5_eqN (a := z14.toInt) (b := (-1)) rfl (by decide +kernel) c_16
        have i_16 : z14.toInt ≥ 0 := by have z := g5_eqN (a := z14.toInt) (b := (-1)) (by rfl) (by decide +kernel) c_16; omega
        refine lv_aload_n hx hb dX12_go_74 rfl (lv_at hl 2 rfl) ?_
        refine lv_iload hx hb dX12_go_75 (lv_at hl 0 rfl) ?_
        refine lv_if_ge (tgt := 84) hx hb dX12_go_77 (by decide +kernel) (fun c_18 => ?_) (fun c_18 => ?_)
        ·
          have i_18 : z14.toInt ≥ 0 := g5_ge (a := z14.toInt) (b := 0) rfl (by decide +kernel) c_18
          refine lv_iload hx hb dX12_go_84 (lv_at hl 0 rfl) ?_
          obtain ⟨hPc, hDc, hFc⟩ := g5_sub3 (wc := [(b_o, (oc12 u_th u_sa b_rf b_ro b_im b_ke u_fd b_tp u_td u_fr u_to u_so u_wo u_fa u_bd u_nc b_nl u_co b_op b_ar u_le b_pi b_pa u_pd u_od b_ws b_hw k40_la b_se b_re k40_bk k40_va k40_su k40_ce k40_ho k40_wy k40_bt k40_ps b_pt k40_tg k40_sn b_ip u_ic b_ah b_be b_me u_wd b_tr b_ld u_st b_wn u_id)), (b_ro, (arI G 5740 v_ro))]) hP hD hS hA [0, 1] (by decide +kernel) rfl
          refine va_calli (va_runV (As := [.int z14]) (rest := []) ⟨hx, hb, hml, hown, hts⟩ (n_isWall l G b_o b_ro b_rf b_im b_ke b_tp b_nl b_op b_ar b_pi b_pa b_ws b_hw b_se b_re b_pt b_ip b_ah b_be b_me b_tr b_ld b_wn H.size u_th u_sa u_fd u_td u_fr u_to u_so u_fa u_bd u_nc u_co u_le u_pd u_od k40_la k40_bk k40_ce k40_ho k40_wy k40_bt k40_ps k40_tg k40_sn u_ic u_wd u_id z14 u_wo k40_va k40_su u_st v_ro h_u_td h_u_fr h_u_to h_u_bd h_u_nc h_u_co h_u_pd i_2 i_3 i_4 i_5 i_6 i_7 i_8 h_u_ic h_u_id ⟨by omega, by omega⟩ (r_ro)) (cwV 1 hts gV_X12_160 rfl rfl rfl hv_X12_isWall ⟨Nat.le_of_ble_eq_true rfl, Nat.le_of_ble_eq_true rfl⟩) (g5_preV hPc hK hDc hN hT hS hFc (ci := 12) (q0 := 0) rfl rfl) rfl rfl hl.1 rfl (lv_room (Nat.le_of_ble_eq_true rfl)) dX12_go_86 ⟨Nat.le_of_ble_eq_true rfl, Nat.le_of_ble_eq_true rfl⟩) hS (fun q _ h => hFc q h) hFc (fun r u t H locs ht hvm hw hB hz1 hk1 hS => ?_)
          obtain ⟨hP1, hD1⟩ := hB
          have hP1 := g5_ht ht hP1
          obtain ⟨z20, (i_19 : 0 ≤ z20.toInt ∧ z20.toInt ≤ 1), y21, rfl⟩ := hw
          have hJ9 := va_join (wr := [(b_se, (arJ G 13 k40_se)), (b_re, (arJ G 400 k40_re)), (b_pt, (arI G 200 k40_pt))]) hP hD [0, 1] [2, 3, 4] rfl rfl (by decide +kernel) (by decide +kernel) hk1 hFc hP1 hD1
          clear hP hD hPc hDc hFc ht hvm hz1 hk1 hP1 hD1
          obtain ⟨hP, hD⟩ := hJ9
          refine g5_rs [(b_se, (arJ G 13 k40_se)), (b_re, (arJ G 400 k40_re)), (b_pt, (arI G 200 k40_pt)), (b_o, (oc12 u_th u_sa b_rf b_ro b_im b_ke u_fd b_tp u_td u_fr u_to u_so u_wo u_fa u_bd u_nc b_nl u_co b_op b_ar u_le b_pi b_pa u_pd u_od b_ws b_hw k40_la b_se b_re k40_bk k40_va k40_su k40_ce k40_ho k40_wy k40_bt k40_ps b_pt k40_tg k40_sn b_ip u_ic b_ah b_be b_me u_wd b_tr b_ld u_st b_wn u_id)), (b_ro, (arI G 5740 v_ro))] hP hD ?_
          clear hP hD
          intro hP hD
          refine g5_ti (v := z20) y21 ?_
          refine lv_if_ne (tgt := 96) hx hb dX12_go_89 (by decide +kernel) (fun c_22 => ?_) (fun c_22 => ?_)
          ·
            have n_22 : gNe (z20.toInt) (0) := g5_ne (a := z20.toInt) (b := 0) rfl (by decide +kernel) c_22
            have i_22 : z20.toInt ≥ 1 := by have z := g5_ne (a := z20.toInt) (b := 0) (by rfl) (by decide +kernel) c_22; omega
            refine lv_iconst (v := 0) hx hb dX12_go_96 (by decide +kernel) ?_
            refine lv_istore (lv' := [(5, .int 0), (6, .int z14), (0, .ref b_o), (1, .int p_1), (2, .int p_2), (3, .int p_3), (4, .int p_4)]) hx hb dX12_go_97 hl (by decide +kernel) rfl ?_
            clear hl
            intro ls hl
            refine lv_iload hx hb dX12_go_99 (lv_at hl 0 rfl) ?_
            refine lv_if_eq (tgt := 164) hx hb dX12_go_101 (by decide +kernel) (fun c_23 => ?_) (fun c_23 => ?_)
            ·
              refine lv_goto (tgt := 40) hx hb dX12_go_164 (by decide +kernel) ?_
              exact ih_40_10 (0, k40_la, k40_bk, k40_va, k40_su, k40_ce, k40_ho, k40_wy, k40_bt, k40_ps, k40_tg, k40_sn, k40_se, k40_re, k40_pt) ls H locs (show Int.toNat (2 * (200 - k40_ps.toInt) + (0 : Int32).toInt) < Int.toNat (2 * (200 - k40_ps.toInt) + k40_5.toInt) by have zc_k40_5 : (0 : Int32).toInt = 0 := (by decide +kernel); omega) ⟨lv_sub hl [0, 2, 3, 4, 5, 6] rfl, hP.sub [3, 4, 0, 1, 2] rfl, hD.sub [3, 4, 0, 1, 2] (by decide +kernel) rfl, hS, ⟨by decide, by decide⟩, i_2, i_3, i_4, i_5, i_6, i_7, i_8, i_9⟩
            ·
              exact absurd c_23 (by decide +kernel)
          ·
            have i_22 : z20.toInt = 0 := g5_neN (a := z20.toInt) (b := 0) rfl (by decide +kernel) c_22
            refine lv_iconst (v := 1) hx hb dX12_go_92 (by decide +kernel) ?_
            refine lv_goto (tgt := 97) hx hb dX12_go_93 (by decide +kernel) ?_
            refine lv_istore (lv' := [(5, .int 1), (6, .int z14), (0, .ref b_o), (1, .int p_1), (2, .int p_2), (3, .int p_3), (4, .int p_4)]) hx hb dX12_go_97 hl (by decide +kernel) rfl ?_
            clear hl
            intro ls hl
            refine lv_iload hx hb dX12_go_99 (lv_at hl 0 rfl) ?_
            refine W.eq (g2 := F0 m 101 ls [.int 1]) rfl ?_
            refine lv_if_eq (tgt := 164) hx hb dX12_go_101 (by decide +kernel) (fun c_24 => ?_) (fun c_24 => ?_)
            ·
              exact absurd c_24 (by decide +kernel)
            ·
              refine lv_aload_n hx hb dX12_go_104 rfl (lv_at hl 2 rfl) ?_
              refine lv_iload hx hb dX12_go_105 (lv_at hl 1 rfl) ?_
              refine va_put (D := G.1) (ci := 12) (v := .int z14) (ty := .int) (C := RX12) (T := TX12) (N := 52) hx hb hts inG_X12 tyX12 tyX12_ok nmX12 hown hK hP hD hS 3 rfl rfl 33 (by decide +kernel) (hts _ fl_X12_349) (fun _ h9 => h9) rfl (by decide +kernel) rfl rfl (Nat.le_of_ble_eq_true rfl) dX12_go_107 ?_
              clear hP hD hS
              intro H locs hP hD hS
              refine g5_rs [(b_se, (arJ G 13 k40_se)), (b_re, (arJ G 400 k40_re)), (b_pt, (arI G 200 k40_pt)), (b_o, (oc12 u_th u_sa b_rf b_ro b_im b_ke u_fd b_tp u_td u_fr u_to u_so u_wo u_fa u_bd u_nc b_nl u_co b_op b_ar u_le b_pi b_pa u_pd u_od b_ws b_hw k40_la b_se b_re k40_bk k40_va k40_su z14 k40_ho k40_wy k40_bt k40_ps b_pt k40_tg k40_sn b_ip u_ic b_ah b_be b_me u_wd b_tr b_ld u_st b_wn u_id)), (b_ro, (arI G 5740 v_ro))] hP hD ?_
              clear hP hD
              intro hP hD
              refine lv_aload_n hx hb dX12_go_110 rfl (lv_at hl 2 rfl) ?_
              refine W.eq (g2 := F0 m 111 ls [.ref b_o]) rfl ?_
              refine va_get (D := G.1) (ci := 12) (v := .ref b_pt) (C := RX12) (T := TX12) (N := 52) hx hb hts inG_X12 hown hK hP 3 rfl rfl 38 (by decide +kernel) (hts _ fl_X12_82) (fun _ h9 => h9) rfl dX12_go_111 ?_
              refine lv_aload_n hx hb dX12_go_114 rfl (lv_at hl 2 rfl) ?_
              refine va_get (D := G.1) (ci := 12) (v := .int k40_ps) (C := RX12) (T := TX12) (N := 52) hx hb hts inG_X12 hown hK hP 3 rfl rfl 37 (by decide +kernel) (hts _ fl_X12_358) (fun _ h9 => h9) rfl dX12_go_115 ?_
              refine lv_bipush (v := 64) hx hb dX12_go_118 (by decide +kernel) ?_
              refine lv_aload_n hx hb dX12_go_120 rfl (lv_at hl 2 rfl) ?_
              refine W.eq (g2 := F0 m 121 ls [.ref b_o, .int 64, .int k40_ps, .ref b_pt]) rfl ?_
              refine va_get (D := G.1) (ci := 12) (v := .int k40_ho) (C := RX12) (T := TX12) (N := 52) hx hb hts inG_X12 hown hK hP 3 rfl rfl 34 (by decide +kernel) (hts _ fl_X12_352) (fun _ h9 => h9) rfl dX12_go_121 ?_
              refine lv_imul hx hb dX12_go_124 ?_
              have t_25 : (64 * k40_ho).toInt = 64 * k40_ho.toInt := g5_imul (a := 64) (b := k40_ho.toInt) (by decide +kernel) (by rfl) (by omega) (by omega)
              refine lv_aload_n hx hb dX12_go_125 rfl (lv_at hl 2 rfl) ?_
              refine va_get (D := G.1) (ci := 12) (v := .int z14) (C := RX12) (T := TX12) (N := 52) hx hb hts inG_X12 hown hK hP 3 rfl rfl 33 (by decide +kernel) (hts _ fl_X12_349) (fun _ h9 => h9) rfl dX12_go_126 ?_
              refine lv_iadd hx hb dX12_go_129 ?_
              have t_26 : ((64 * k40_ho) + z14).toInt = (64 * k40_ho).toInt + z14.toInt := g5_iadd (a := (64 * k40_ho).toInt) (b := z14.toInt) (by rfl) (by rfl) (by omega) (by omega)
              refine W.eq (g2 := F0 m 130 ls [.int ((64 * k40_ho) + z14), .int k40_ps, .ref b_pt]) rfl ?_
              refine va_iast hx hb hK hP hD hS 2 0 rfl rfl (i := k40_ps) (x := ((64 * k40_ho) + z14)) (vp_in_iff.mpr ⟨by omega, by omega⟩) dX12_go_130 ?_
              clear hP hD hS
              intro H locs hP hD hS
              refine g5_rs [(b_se, (arJ G 13 k40_se)), (b_re, (arJ G 400 k40_re)), (b_pt, (arI G 200 (upd k40_pt k40_ps.toNatClampNeg ((64 * k40_ho) + z14)))), (b_o, (oc12 u_th u_sa b_rf b_ro b_im b_ke u_fd b_tp u_td u_fr u_to u_so u_wo u_fa u_bd u_nc b_nl u_co b_op b_ar u_le b_pi b_pa u_pd u_od b_ws b_hw k40_la b_se b_re k40_bk k40_va k40_su z14 k40_ho k40_wy k40_bt k40_ps b_pt k40_tg k40_sn b_ip u_ic b_ah b_be b_me u_wd b_tr b_ld u_st b_wn u_id)), (b_ro, (arI G 5740 v_ro))] hP hD ?_
              clear hP hD
              intro hP hD
              refine lv_aload_n hx hb dX12_go_131 rfl (lv_at hl 2 rfl) ?_
              refine lv_dup hx hb dX12_go_132 rfl ?_
              refine va_get (D := G.1) (ci := 12) (v := .int k40_ps) (C := RX12) (T := TX12) (N := 52) hx hb hts inG_X12 hown hK hP 3 rfl rfl 37 (by decide +kernel) (hts _ fl_X12_358) (fun _ h9 => h9) rfl dX12_go_133 ?_
              refine lv_iconst (v := 1) hx hb dX12_go_136 (by decide +kernel) ?_
              refine W.eq (g2 := F0 m 137 ls [.int 1, .int k40_ps, .ref b_o]) rfl ?_
              refine lv_iadd hx hb dX12_go_137 ?_
              have t_27 : (k40_ps + 1).toInt = k40_ps.toInt + 1 := g5_iadd (a := k40_ps.toInt) (b := 1) (by rfl) (by decide +kernel) (by omega) (by omega)
              refine va_put (D := G.1) (ci := 12) (v := .int (k40_ps + 1)) (ty := .int) (C := RX12) (T := TX12) (N := 52) hx hb hts inG_X12 tyX12 tyX12_ok nmX12 hown hK hP hD hS 3 rfl rfl 37 (by decide +kernel) (hts _ fl_X12_358) (fun _ h9 => h9) rfl (by decide +kernel) rfl rfl (Nat.le_of_ble_eq_true rfl) dX12_go_138 ?_
              clear hP hD hS
              intro H locs hP hD hS
              refine g5_rs [(b_se, (arJ G 13 k40_se)), (b_re, (arJ G 400 k40_re)), (b_pt, (arI G 200 (upd k40_pt k40_ps.toNatClampNeg ((64 * k40_ho) + z14)))), (b_o, (oc12 u_th u_sa b_rf b_ro b_im b_ke u_fd b_tp u_td u_fr u_to u_so u_wo u_fa u_bd u_nc b_nl u_co b_op b_ar u_le b_pi b_pa u_pd u_od b_ws b_hw k40_la b_se b_re k40_bk k40_va k40_su z14 k40_ho k40_wy k40_bt (k40_ps + 1) b_pt k40_tg k40_sn b_ip u_ic b_ah b_be b_me u_wd b_tr b_ld u_st b_wn u_id)), (b_ro, (arI G 5740 v_ro))] hP hD ?_
              clear hP hD
              intro hP hD
              refine lv_aload_n hx hb dX12_go_141 rfl (lv_at hl 2 rfl) ?_
              obtain ⟨hPc, hDc, hFc⟩ := g5_sub3 (wc := [(b_o, (oc12 u_th u_sa b_rf b_ro b_im b_ke u_fd b_tp u_td u_fr u_to u_so u_wo u_fa u_bd u_nc b_nl u_co b_op b_ar u_le b_pi b_pa u_pd u_od b_ws b_hw k40_la b_se b_re k40_bk k40_va k40_su z14 k40_ho k40_wy k40_bt (k40_ps + 1) b_pt k40_tg k40_sn b_ip u_ic b_ah b_be b_me u_wd b_tr b_ld u_st b_wn u_id)), (b_ro, (arI G 5740 v_ro)), (b_se, (arJ G 13 k40_se)), (b_re, (arJ G 400 k40_re))]) hP hD hS hA [3, 4, 0, 1] (by decide +kernel) rfl
              refine va_calli (va_runV (As := []) (rest := []) ⟨hx, hb, hml, hown, hts⟩ (n_isFree l G b_o b_ro b_se b_re b_rf b_im b_ke b_tp b_nl b_op b_ar b_pi b_pa b_ws b_hw b_pt b_ip b_ah b_be b_me b_tr b_ld b_wn H.size u_th u_sa u_fd u_td u_fr u_to u_so u_fa u_bd u_nc u_co u_le u_pd u_od k40_la k40_bk z14 k40_ho k40_wy k40_bt (k40_ps + 1) k40_tg k40_sn u_ic u_wd u_id u_wo k40_va k40_su u_st v_ro k40_se k40_re h_u_td h_u_fr h_u_to h_u_bd h_u_nc h_u_co h_u_pd i_2 i_3 ⟨by omega, by omega⟩ i_5 i_6 i_7 ⟨by omega, by omega⟩ h_u_ic h_u_id (r_ro)) (cwV 0 hts gV_X12_377 rfl rfl rfl hv_X12_isFree ⟨Nat.le_of_ble_eq_true rfl, Nat.le_of_ble_eq_true rfl⟩) (g5_preV hPc hK hDc hN hT hS hFc (ci := 12) (q0 := 0) rfl rfl) rfl rfl hl.1 rfl (lv_room (Nat.le_of_ble_eq_true rfl)) dX12_go_142 ⟨Nat.le_of_ble_eq_true rfl, Nat.le_of_ble_eq_true rfl⟩) hS (fun q _ h => hFc q h) hFc (fun r u t H locs ht hvm hw hB hz1 hk1 hS => ?_)
              obtain ⟨hP1, hD1⟩ := hB
              have hP1 := g5_ht ht hP1
              obtain ⟨z31, z32, z33, z34, z35, z36, z37, z38, (i_28 : 0 ≤ z31.toInt ∧ z31.toInt ≤ 1), (i_29 : 0 ≤ z32.toInt ∧ z32.toInt ≤ 4840), (i_30 : 0 ≤ z33.toInt ∧ z33.toInt ≤ 1), y39, rfl⟩ := hw
              have hJ9 := va_join (wr := [(b_pt, (arI G 200 (upd k40_pt k40_ps.toNatClampNeg ((64 * k40_ho) + z14))))]) hP hD [3, 4, 0, 1] [2] rfl rfl (by decide +kernel) (by decide +kernel) hk1 hFc hP1 hD1
              clear hP hD hPc hDc hFc ht hvm hz1 hk1 hP1 hD1
              obtain ⟨hP, hD⟩ := hJ9
              refine g5_rs [(b_pt, (arI G 200 (upd k40_pt k40_ps.toNatClampNeg ((64 * k40_ho) + z14)))), (b_o, (oc12 u_th u_sa b_rf b_ro b_im b_ke u_fd b_tp u_td u_fr u_to u_so u_wo u_fa u_bd u_nc b_nl u_co b_op b_ar u_le b_pi b_pa u_pd u_od b_ws b_hw z32 b_se b_re z33 z34 z35 z14 k40_ho k40_wy k40_bt (k40_ps + 1) b_pt k40_tg z36 b_ip u_ic b_ah b_be b_me u_wd b_tr b_ld u_st b_wn u_id)), (b_ro, (arI G 5740 v_ro)), (b_se, (arJ G 13 z37)), (b_re, (arJ G 400 z38))] hP hD ?_
              clear hP hD
              intro hP hD
              refine g5_ti (v := z31) y39 ?_
              refine lv_if_eq (tgt := 161) hx hb dX12_go_145 (by decide +kernel) (fun c_40 => ?_) (fun c_40 => ?_)
              ·
                have i_40 : z31.toInt = 0 := g5_eq (a := z31.toInt) (b := 0) rfl (by decide +kernel) c_40
                refine lv_iconst (v := 0) hx hb dX12_go_161 (by decide +kernel) ?_
                refine lv_istore (lv' := [(5, .int 0), (6, .int z14), (0, .ref b_o), (1, .int p_1), (2, .int p_2), (3, .int p_3), (4, .int p_4)]) hx hb dX12_go_162 hl (by decide +kernel) rfl ?_
                clear hl
                intro ls hl
                refine lv_goto (tgt := 40) hx hb dX12_go_164 (by decide +kernel) ?_
                exact ih_40_10 (0, z32, z33, z34, z35, z14, k40_ho, k40_wy, k40_bt, (k40_ps + 1), k40_tg, z36, z37, z38, (upd k40_pt k40_ps.toNatClampNeg ((64 * k40_ho) + z14))) ls H locs (show Int.toNat (2 * (200 - (k40_ps + 1).toInt) + (0 : Int32).toInt) < Int.toNat (2 * (200 - k40_ps.toInt) + k40_5.toInt) by have zc_k40_5 : (0 : Int32).toInt = 0 := (by decide +kernel); omega) ⟨lv_sub hl [0, 2, 3, 4, 5, 6] rfl, hP.sub [1, 2, 3, 4, 0] rfl, hD.sub [1, 2, 3, 4, 0] (by decide +kernel) rfl, hS, ⟨by decide, by decide⟩, i_29, i_30, ⟨by omega, by omega⟩, i_5, i_6, i_7, ⟨by omega, by omega⟩, pt_upd i_9 (by omega)⟩
              ·
                have n_40 : gNe (z31.toInt) (0) := g5_eqN (a := z31.toInt) (b := 0) rfl (by decide +kernel) c_40
                have i_40 : z31.toInt ≥ 1 := by have z := g5_eqN (a := z31.toInt) (b := 0) (by rfl) (by decide +kernel) c_40; omega
                refine lv_aload_n hx hb dX12_go_148 rfl (lv_at hl 2 rfl) ?_
                refine lv_iload hx hb dX12_go_149 (lv_at hl 6 rfl) ?_
                obtain ⟨hPc, hDc, hFc⟩ := g5_sub3 (wc := [(b_o, (oc12 u_th u_sa b_rf b_ro b_im b_ke u_fd b_tp u_td u_fr u_to u_so u_wo u_fa u_bd u_nc b_nl u_co b_op b_ar u_le b_pi b_pa u_pd u_od b_ws b_hw z32 b_se b_re z33 z34 z35 z14 k40_ho k40_wy k40_bt (k40_ps + 1) b_pt k40_tg z36 b_ip u_ic b_ah b_be b_me u_wd b_tr b_ld u_st b_wn u_id)), (b_ro, (arI G 5740 v_ro)), (b_se, (arJ G 13 z37)), (b_re, (arJ G 400 z38))]) hP hD hS hA [1, 2, 3, 4] (by decide +kernel) rfl
                refine va_calli (va_runV (As := [.int p_4]) (rest := []) ⟨hx, hb, hml, hown, hts⟩ (n_passes l G b_o b_ro b_se b_re b_rf b_im b_ke b_tp b_nl b_op b_ar b_pi b_pa b_ws b_hw b_pt b_ip b_ah b_be b_me b_tr b_ld b_wn H.size u_th u_sa u_fd u_td u_fr u_to u_so u_fa u_bd u_nc u_co u_le u_pd u_od z32 z33 z14 k40_ho k40_wy k40_bt (k40_ps + 1) k40_tg z36 u_ic u_wd u_id p_4 u_wo z34 z35 u_st v_ro z37 z38 h_u_td h_u_fr h_u_to h_u_bd h_u_nc h_u_co h_u_pd i_29 i_30 ⟨by omega, by omega⟩ i_5 i_6 i_7 ⟨by omega, by omega⟩ h_u_ic h_u_id (r_ro)) (cwV 1 hts gV_X12_380 rfl rfl rfl hv_X12_passes ⟨Nat.le_of_ble_eq_true rfl, Nat.le_of_ble_eq_true rfl⟩) (g5_preV hPc hK hDc hN hT hS hFc (ci := 12) (q0 := 0) rfl rfl) rfl rfl hl.1 rfl (lv_room (Nat.le_of_ble_eq_true rfl)) dX12_go_151 ⟨Nat.le_of_ble_eq_true rfl, Nat.le_of_ble_eq_true rfl⟩) hS (fun q _ h => hFc q h) hFc (fun r u t H locs ht hvm hw hB hz1 hk1 hS => ?_)
                obtain ⟨hP1, hD1⟩ := hB
                have hP1 := g5_ht ht hP1
                obtain ⟨z47, z48, z49, z50, z51, z52, z53, z54, z55, z56, z57, (i_41 : 0 ≤ z47.toInt ∧ z47.toInt ≤ 1), (i_42 : 0 ≤ z48.toInt ∧ z48.toInt ≤ 4840), (i_43 : 0 ≤ z49.toInt ∧ z49.toInt ≤ 1), (i_44 : 0 ≤ z52.toInt ∧ z52.toInt ≤ 23), (i_45 : 0 ≤ z53.toInt ∧ z53.toInt ≤ 3), (i_46 : 0 ≤ z54.toInt ∧ z54.toInt ≤ 1000000), y58, rfl⟩ := hw
                have hJ9 := va_join (wr := [(b_pt, (arI G 200 (upd k40_pt k40_ps.toNatClampNeg ((64 * k40_ho) + z14))))]) hP hD [1, 2, 3, 4] [0] rfl rfl (by decide +kernel) (by decide +kernel) hk1 hFc hP1 hD1
                clear hP hD hPc hDc hFc ht hvm hz1 hk1 hP1 hD1
                obtain ⟨hP, hD⟩ := hJ9
                refine g5_rs [(b_pt, (arI G 200 (upd k40_pt k40_ps.toNatClampNeg ((64 * k40_ho) + z14)))), (b_o, (oc12 u_th u_sa b_rf b_ro b_im b_ke u_fd b_tp u_td u_fr u_to u_so u_wo u_fa u_bd u_nc b_nl u_co b_op b_ar u_le b_pi b_pa u_pd u_od b_ws b_hw z48 b_se b_re z49 z50 z51 z14 z52 z53 z54 (k40_ps + 1) b_pt z55 z36 b_ip u_ic b_ah b_be b_me u_wd b_tr b_ld u_st b_wn u_id)), (b_ro, (arI G 5740 v_ro)), (b_se, (arJ G 13 z56)), (b_re, (arJ G 400 z57))] hP hD ?_
                clear hP hD
                intro hP hD
                refine g5_ti (v := z47) y58 ?_
                refine lv_if_eq (tgt := 161) hx hb dX12_go_154 (by decide +kernel) (fun c_59 => ?_) (fun c_59 => ?_)
                ·
                  have i_59 : z47.toInt = 0 := g5_eq (a := z47.toInt) (b := 0) rfl (by decide +kernel) c_59
                  refine lv_iconst (v := 0) hx hb dX12_go_161 (by decide +kernel) ?_
                  refine lv_istore (lv' := [(5, .int 0), (6, .int z14), (0, .ref b_o), (1, .int p_1), (2, .int p_2), (3, .int p_3), (4, .int p_4)]) hx hb dX12_go_162 hl (by decide +kernel) rfl ?_
                  clear hl
                  intro ls hl
                  refine lv_goto (tgt := 40) hx hb dX12_go_164 (by decide +kernel) ?_
                  exact ih_40_10 (0, z48, z49, z50, z51, z14, z52, z53, z54, (k40_ps + 1), z55, z36, z56, z57, (upd k40_pt k40_ps.toNatClampNeg ((64 * k40_ho) + z14))) ls H locs (show Int.toNat (2 * (200 - (k40_ps + 1).toInt) + (0 : Int32).toInt) < Int.toNat (2 * (200 - k40_ps.toInt) + k40_5.toInt) by have zc_k40_5 : (0 : Int32).toInt = 0 := (by decide +kernel); omega) ⟨lv_sub hl [0, 2, 3, 4, 5, 6] rfl, hP.sub [1, 2, 3, 4, 0] rfl, hD.sub [1, 2, 3, 4, 0] (by decide +kernel) rfl, hS, ⟨by decide, by decide⟩, i_42, i_43, ⟨by omega, by omega⟩, i_44, i_45, i_46, ⟨by omega, by omega⟩, pt_upd i_9 (by omega)⟩
                ·
                  have n_59 : gNe (z47.toInt) (0) := g5_eqN (a := z47.toInt) (b := 0) rfl (by decide +kernel) c_59
                  have i_59 : z47.toInt ≥ 1 := by have z := g5_eqN (a := z47.toInt) (b := 0) (by rfl) (by decide +kernel) c_59; omega
                  refine lv_iconst (v := 1) hx hb dX12_go_157 (by decide +kernel) ?_
                  refine lv_goto (tgt := 162) hx hb dX12_go_158 (by decide +kernel) ?_
                  refine lv_istore (lv' := [(5, .int 1), (6, .int z14), (0, .ref b_o), (1, .int p_1), (2, .int p_2), (3, .int p_3), (4, .int p_4)]) hx hb dX12_go_162 hl (by decide +kernel) rfl ?_
                  clear hl
                  intro ls hl
                  refine lv_goto (tgt := 40) hx hb dX12_go_164 (by decide +kernel) ?_
                  exact ih_40_10 (1, z48, z49, z50, z51, z14, z52, z53, z54, (k40_ps + 1), z55, z36, z56, z57, (upd k40_pt k40_ps.toNatClampNeg ((64 * k40_ho) + z14))) ls H locs (show Int.toNat (2 * (200 - (k40_ps + 1).toInt) + (1 : Int32).toInt) < Int.toNat (2 * (200 - k40_ps.toInt) + k40_5.toInt) by have zc_k40_5 : (1 : Int32).toInt = 1 := (by decide +kernel); omega) ⟨lv_sub hl [0, 2, 3, 4, 5, 6] rfl, hP.sub [1, 2, 3, 4, 0] rfl, hD.sub [1, 2, 3, 4, 0] (by decide +kernel) rfl, hS, ⟨by decide, by decide⟩, i_42, i_43, ⟨by omega, by omega⟩, i_44, i_45, i_46, ⟨by omega, by omega⟩, pt_upd i_9 (by omega)⟩
        ·
          have i_18 : z14.toInt < 0 := g5_geN (a := z14.toInt) (b := 0) rfl (by decide +kernel) c_18
          omega
set_option maxHeartbeats 4000000 in
set_option maxRecDepth 100000 in
theorem n_whereIsX (l : Launch) (G : g5_G) (b_o b_ro b_rf b_im b_ke b_tp b_nl b_op b_ar b_pi b_pa b_ws b_hw b_se b_re b_pt b_ip b_ah b_be b_me b_tr b_ld b_wn : Nat) (sz : Nat) (u_th : Int32) (u_sa : Int32) (u_fd : Int32) (u_td : Int32) (u_fr : Int32) (u_to : Int32) (u_so : Int32) (u_fa : Int32) (u_bd : Int32) (u_nc : Int32) (u_co : Int32) (u_le : Int32) (u_pd : Int32) (u_od : Int32) (u_la : Int32) (u_bk : Int32) (u_ce : Int32) (u_ho : Int32) (u_wy : Int32) (u_bt : Int32) (u_ps : Int32) (u_tg : Int32) (u_sn : Int32) (u_ic : Int32) (u_wd : Int32) (u_id : Int32) (p_1 : Int32) (p_2 : Int32) (u_wo : Int64) (u_va : Int64) (u_su : Int64) (u_st : Int64) (v_ro : Nat → Int32) (h_u_td : 0 ≤ u_td.toInt ∧ u_td.toInt ≤ 400) (h_u_fr : 0 ≤ u_fr.toInt ∧ u_fr.toInt ≤ 400) (h_u_to : 0 ≤ u_to.toInt ∧ u_to.toInt ≤ 400) (h_u_bd : 0 ≤ u_bd.toInt ∧ u_bd.toInt ≤ 1) (h_u_nc : 0 ≤ u_nc.toInt ∧ u_nc.toInt ≤ 12) (h_u_co : 0 ≤ u_co.toInt ∧ u_co.toInt ≤ 400) (h_u_pd : 0 ≤ u_pd.toInt ∧ u_pd.toInt ≤ 400) (h_u_la : 0 ≤ u_la.toInt ∧ u_la.toInt ≤ 4840) (h_u_bk : 0 ≤ u_bk.toInt ∧ u_bk.toInt ≤ 1) (h_u_ce : 0 ≤ u_ce.toInt ∧ u_ce.toInt ≤ 63) (h_u_ho : 0 ≤ u_ho.toInt ∧ u_ho.toInt ≤ 23) (h_u_wy : 0 ≤ u_wy.toInt ∧ u_wy.toInt ≤ 3) (h_u_bt : 0 ≤ u_bt.toInt ∧ u_bt.toInt ≤ 1000000) (h_u_ps : 0 ≤ u_ps.toInt ∧ u_ps.toInt ≤ 200) (h_u_ic : 0 ≤ u_ic.toInt ∧ u_ic.toInt ≤ 1) (h_u_id : 0 ≤ u_id.toInt ∧ u_id.toInt ≤ 1) (h_p_1 : 0 ≤ p_1.toInt ∧ p_1.toInt ≤ 4) (h_p_2 : 0 ≤ p_2.toInt ∧ p_2.toInt ≤ 23) (r_ro : MI v_ro) : Met l yX12_whereIs (wsG yX12_whereIs cX12_whereIs 3 (some .int)) ({ frames := 0, cells := 0, slots := 0, locals := 0 }) (va_Pc [.ref b_o, .int p_1, .int p_2] (g5_P G [(b_o, (oc12 u_th u_sa b_rf b_ro b_im b_ke u_fd b_tp u_td u_fr u_to u_so u_wo u_fa u_bd u_nc b_nl u_co b_op b_ar u_le b_pi b_pa u_pd u_od b_ws b_hw u_la b_se b_re u_bk u_va u_su u_ce u_ho u_wy u_bt u_ps b_pt u_tg u_sn b_ip u_ic b_ah b_be b_me u_wd b_tr b_ld u_st b_wn u_id)), (b_ro, (arI G 5740 v_ro))] sz)) (va_Qi (fun (r : Int32) (u : va_W) => (∃ (o_r : Int32), ((-1) ≤ o_r.toInt ∧ o_r.toInt ≤ 63) ∧ (o_r.toInt = (v_ro ((110 + (24 * p_1)) + p_2).toNatClampNeg).toInt) ∧ (r = o_r) ∧ (u = [(b_o, (oc12 u_th u_sa b_rf b_ro b_im b_ke u_fd b_tp u_td u_fr u_to u_so u_wo u_fa u_bd u_nc b_nl u_co b_op b_ar u_le b_pi b_pa u_pd u_od b_ws b_hw u_la b_se b_re u_bk u_va u_su u_ce u_ho u_wy u_bt u_ps b_pt u_tg u_sn b_ip u_ic b_ah b_be b_me u_wd b_tr b_ld u_st b_wn u_id)), (b_ro, (arI G 5740 v_ro))]))) (g5_B G (va_A [(b_o, (oc12 u_th u_sa b_rf b_ro b_im b_ke u_fd b_tp u_td u_fr u_to u_so u_wo u_fa u_bd u_nc b_nl u_co b_op b_ar u_le b_pi b_pa u_pd u_od b_ws b_hw u_la b_se b_re u_bk u_va u_su u_ce u_ho u_wy u_bt u_ps b_pt u_tg u_sn b_ip u_ic b_ah b_be b_me u_wd b_tr b_ld u_st b_wn u_id)), (b_ro, (arI G 5740 v_ro))] sz)) (va_A [(b_o, (oc12 u_th u_sa b_rf b_ro b_im b_ke u_fd b_tp u_td u_fr u_to u_so u_wo u_fa u_bd u_nc b_nl u_co b_op b_ar u_le b_pi b_pa u_pd u_od b_ws b_hw u_la b_se b_re u_bk u_va u_su u_ce u_ho u_wy u_bt u_ps b_pt u_tg u_sn b_ip u_ic b_ah b_be b_me u_wd b_tr b_ld u_st b_wn u_id)), (b_ro, (arI G 5740 v_ro))] sz)) 0 0 (va_A [(b_o, (oc12 u_th u_sa b_rf b_ro b_im b_ke u_fd b_tp u_td u_fr u_to u_so u_wo u_fa u_bd u_nc b_nl u_co b_op b_ar u_le b_pi b_pa u_pd u_od b_ws b_hw u_la b_se b_re u_bk u_va u_su u_ce u_ho u_wy u_bt u_ps b_pt u_tg u_sn b_ip u_ic b_ah b_be b_me u_wd b_tr b_ld u_st b_wn u_id)), (b_ro, (arI G 5740 v_ro))] sz) := by
  refine Met.ofW (cc := cX12_whereIs) (maxL := 3) (ret := (some .int)) (by decide) rfl ?_
  intro p e s m args below meth c s₁ B hml hv
  obtain ⟨rfl, hsz, hP, hK, hD0, hN, hT⟩ := hv
  have hx := B.exec
  have hb := B.bytes
  have hr := B.returns
  have hts : ∀ w ∈ tblG, w.before _ s = true := fun w h => atoms_spec (ws := (wsG yX12_whereIs cX12_whereIs 3 (some .int))) B.pre w (List.mem_cons_of_mem _ h)
  have hown : s.vm.findClass RX12 = some m.cls := findClass_of_methodNamed B.named
  have hlocks := B.notSynchronized
  subst hsz
  have hD := hD0.self (sz := s.heap.size)
  generalize hAe : va_A [(b_o, (oc12 u_th u_sa b_rf b_ro b_im b_ke u_fd b_tp u_td u_fr u_to u_so u_wo u_fa u_bd u_nc b_nl u_co b_op b_ar u_le b_pi b_pa u_pd u_od b_ws b_hw u_la b_se b_re u_bk u_va u_su u_ce u_ho u_wy u_bt u_ps b_pt u_tg u_sn b_ip u_ic b_ah b_be b_me u_wd b_tr b_ld u_st b_wn u_id)), (b_ro, (arI G 5740 v_ro))] s.heap.size = A at hD hT ⊢
  have hA : ∀ q : Nat, s.heap.size ≤ q → A q := fun q h => by rw [← hAe]; exact Or.inr h
  have hS : va_S A s.heap s.heap [] := va_S.rf
  have hP : va_P G.1 vwCl [(b_o, (oc12 u_th u_sa b_rf b_ro b_im b_ke u_fd b_tp u_td u_fr u_to u_so u_wo u_fa u_bd u_nc b_nl u_co b_op b_ar u_le b_pi b_pa u_pd u_od b_ws b_hw u_la b_se b_re u_bk u_va u_su u_ce u_ho u_wy u_bt u_ps b_pt u_tg u_sn b_ip u_ic b_ah b_be b_me u_wd b_tr b_ld u_st b_wn u_id)), (b_ro, (arI G 5740 v_ro))] s.heap := hP
  have hl := lv_entry ([.ref b_o, .int p_1, .int p_2]) (n := 3) (Nat.le_of_ble_eq_true rfl)
  rw [lg_entry_eq]
  generalize (lg_sl ([.ref b_o, .int p_1, .int p_2]) ++ List.replicate (3 - (lg_sl ([.ref b_o, .int p_1, .int p_2])).length) Slot.unset).toArray = ls at hl ⊢
  have hl : lv_has ls 3 [(0, .ref b_o), (1, .int p_1), (2, .int p_2)] := hl
  refine lv_aload_n hx hb dX12_whereIs_0 rfl (lv_at hl 0 rfl) ?_
  refine va_get (D := G.1) (ci := 12) (v := .ref b_ro) (C := RX12) (T := TX12) (N := 52) hx hb hts inG_X12 hown hK hP 0 rfl rfl 3 (by decide) (hts _ fl_X12_13) (fun _ h9 => h9) rfl dX12_whereIs_1 ?_
  refine lv_bipush (v := 110) hx hb dX12_whereIs_4 (by decide) ?_
  refine lv_bipush (v := 24) hx hb dX12_whereIs_6 (by decide) ?_
  refine W.eq (g2 := F0 m 8 ls [.int 24, .int 110, .ref b_ro]) rfl ?_
  refine lv_iload_n hx hb dX12_whereIs_8 rfl (lv_at hl 1 rfl) ?_
  refine lv_imul hx hb dX12_whereIs_9 ?_
  have t_1 : (24 * p_1).toInt = 24 * p_1.toInt := g5_imul (a := 24) (b := p_1.toInt) (by decide) (by rfl) (by omega) (by omega)
  refine lv_iadd hx hb dX12_whereIs_10 ?_
  have t_2 : (110 + (24 * p_1)).toInt = 110 + (24 * p_1).toInt := g5_iadd (a := 110) (b := (24 * p_1).toInt) (by decide) (by rfl) (by omega) (by omega)
  refine lv_iload_n hx hb dX12_whereIs_11 rfl (lv_at hl 2 rfl) ?_
  refine lv_iadd hx hb dX12_whereIs_12 ?_
  have t_3 : ((110 + (24 * p_1)) + p_2).toInt = (110 + (24 * p_1)).toInt + p_2.toInt := g5_iadd (a := (110 + (24 * p_1)).toInt) (b := p_2.toInt) (by rfl) (by rfl) (by omega) (by omega)
  refine W.eq (g2 := F0 m 13 ls [.int ((110 + (24 * p_1)) + p_2), .ref b_ro]) rfl ?_
  refine va_iald hx hb hK hP 1 0 rfl rfl (i := ((110 + (24 * p_1)) + p_2)) (vp_in_iff.mpr ⟨by omega, by omega⟩) dX12_whereIs_13 ?_
  have hv_4 : (-1) ≤ (v_ro ((110 + (24 * p_1)) + p_2).toNatClampNeg).toInt ∧ (v_ro ((110 + (24 * p_1)) + p_2).toNatClampNeg).toInt ≤ 63 := mi_110 r_ro (by have zz := g5_clamp ((110 + (24 * p_1)) + p_2); omega) (by have zz := g5_clamp ((110 + (24 * p_1)) + p_2); omega)
  exact W.iret (v := (v_ro ((110 + (24 * p_1)) + p_2).toNatClampNeg)) hx hb hr (fun t ht hW => ⟨⟨(v_ro ((110 + (24 * p_1)) + p_2).toNatClampNeg), [(b_o, (oc12 u_th u_sa b_rf b_ro b_im b_ke u_fd b_tp u_td u_fr u_to u_so u_wo u_fa u_bd u_nc b_nl u_co b_op b_ar u_le b_pi b_pa u_pd u_od b_ws b_hw u_la b_se b_re u_bk u_va u_su u_ce u_ho u_wy u_bt u_ps b_pt u_tg u_sn b_ip u_ic b_ah b_be b_me u_wd b_tr b_ld u_st b_wn u_id)), (b_ro, (arI G 5740 v_ro))], rfl, ⟨(v_ro ((110 + (24 * p_1)) + p_2).toNatClampNeg), ⟨by omega, by omega⟩, rfl, rfl, rfl⟩, by rw [ht]; exact hP.sub [0, 1] rfl, hD.sub [0, 1] (by decide) rfl⟩, hS.F ht⟩) hS.2.2 dX12_whereIs_14
theorem dgX12_look_0 : ∀ r ∈ ([(0, (.aload_n 0, 1)), (1, (.iconst 0, 1)), (2, (.putfield 107, 3)), (5, (.iload_n 1, 1)), (6, (.iload_n 2, 1)), (7, (.iload_n 3, 1)), (8, (.invokestatic 397, 3)), (11, (.ifCond .ne 5, 3)), (14, (.iconst (-1), 1)), (15, (.ireturn, 1)), (16, (.aload_n 0, 1)), (17, (.iload_n 1, 1)), (18, (.iload_n 2, 1)), (19, (.iload_n 3, 1)), (20, (.iconst 0, 1)), (21, (.invokevirtual 401, 3)), (24, (.iload 4, 2)), (26, (.tableswitch 80 0 4 #[34, 39, 44, 70, 75], 34)), (60, (.aload_n 0, 1)), (61, (.getfield 371, 3)), (64, (.ireturn, 1)), (65, (.aload_n 0, 1)), (66, (.getfield 358, 3)), (69, (.ireturn, 1)), (70, (.aload_n 0, 1)), (71, (.getfield 358, 3)), (74, (.ifCond .ne 7, 3)), (77, (.iconst (-1), 1)), (78, (.goto 17, 3)), (81, (.aload_n 0, 1)), (82, (.getfield 82, 3)), (85, (.aload_n 0, 1)), (86, (.getfield 358, 3)), (89, (.iconst 1, 1)), (90, (.isub, 1)), (91, (.iaload, 1)), (92, (.bipush 64, 2)), (94, (.idiv, 1)), (95, (.ireturn, 1)), (96, (.aload_n 0, 1))] : List (Nat × (Instr × Nat))), decode cX12_look r.1 = .ok r.2 := by decide +kernel
theorem dX12_look_0 : decode cX12_look 0 = .ok (.aload_n 0, 1) := dgX12_look_0 (0, (.aload_n 0, 1)) (List.mem_of_getElem? (i := 0) rfl)
theorem dX12_look_1 : decode cX12_look 1 = .ok (.iconst 0, 1) := dgX12_look_0 (1, (.iconst 0, 1)) (List.mem_of_getElem? (i := 1) rfl)
theorem dX12_look_2 : decode cX12_look 2 = .ok (.putfield 107, 3) := dgX12_look_0 (2, (.putfield 107, 3)) (List.mem_of_getElem? (i := 2) rfl)
theorem dX12_look_5 : decode cX12_look 5 = .ok (.iload_n 1, 1) := dgX12_look_0 (5, (.iload_n 1, 1)) (List.mem_of_getElem? (i := 3) rfl)
theorem dX12_look_6 : decode cX12_look 6 = .ok (.iload_n 2, 1) := dgX12_look_0 (6, (.iload_n 2, 1)) (List.mem_of_getElem? (i := 4) rfl)
theorem dX12_look_7 : decode cX12_look 7 = .ok (.iload_n 3, 1) := dgX12_look_0 (7, (.iload_n 3, 1)) (List.mem_of_getElem? (i := 5) rfl)
theorem dX12_look_8 : decode cX12_look 8 = .ok (.invokestatic 397, 3) := dgX12_look_0 (8, (.invokestatic 397, 3)) (List.mem_of_getElem? (i := 6) rfl)
theorem dX12_look_11 : decode cX12_look 11 = .ok (.ifCond .ne 5, 3) := dgX12_look_0 (11, (.ifCond .ne 5, 3)) (List.mem_of_getElem? (i := 7) rfl)
theorem dX12_look_14 : decode cX12_look 14 = .ok (.iconst (-1), 1) := dgX12_look_0 (14, (.iconst (-1), 1)) (List.mem_of_getElem? (i := 8) rfl)
theorem dX12_look_15 : decode cX12_look 15 = .ok (.ireturn, 1) := dgX12_look_0 (15, (.ireturn, 1)) (List.mem_of_getElem? (i := 9) rfl)
theorem dX12_look_16 : decode cX12_look 16 = .ok (.aload_n 0, 1) := dgX12_look_0 (16, (.aload_n 0, 1)) (List.mem_of_getElem? (i := 10) rfl)
theorem dX12_look_17 : decode cX12_look 17 = .ok (.iload_n 1, 1) := dgX12_look_0 (17, (.iload_n 1, 1)) (List.mem_of_getElem? (i := 11) rfl)
theorem dX12_look_18 : decode cX12_look 18 = .ok (.iload_n 2, 1) := dgX12_look_0 (18, (.iload_n 2, 1)) (List.mem_of_getElem? (i := 12) rfl)
theorem dX12_look_19 : decode cX12_look 19 = .ok (.iload_n 3, 1) := dgX12_look_0 (19, (.iload_n 3, 1)) (List.mem_of_getElem? (i := 13) rfl)
theorem dX12_look_20 : decode cX12_look 20 = .ok (.iconst 0, 1) := dgX12_look_0 (20, (.iconst 0, 1)) (List.mem_of_getElem? (i := 14) rfl)
theorem dX12_look_21 : decode cX12_look 21 = .ok (.invokevirtual 401, 3) := dgX12_look_0 (21, (.invokevirtual 401, 3)) (List.mem_of_getElem? (i := 15) rfl)
theorem dX12_look_24 : decode cX12_look 24 = .ok (.iload 4, 2) := dgX12_look_0 (24, (.iload 4, 2)) (List.mem_of_getElem? (i := 16) rfl)
theorem dX12_look_26 : decode cX12_look 26 = .ok (.tableswitch 80 0 4 #[34, 39, 44, 70, 75], 34) := dgX12_look_0 (26, (.tableswitch 80 0 4 #[34, 39, 44, 70, 75], 34)) (List.mem_of_getElem? (i := 17) rfl)
theorem dX12_look_60 : decode cX12_look 60 = .ok (.aload_n 0, 1) := dgX12_look_0 (60, (.aload_n 0, 1)) (List.mem_of_getElem? (i := 18) rfl)
theorem dX12_look_61 : decode cX12_look 61 = .ok (.getfield 371, 3) := dgX12_look_0 (61, (.getfield 371, 3)) (List.mem_of_getElem? (i := 19) rfl)
theorem dX12_look_64 : decode cX12_look 64 = .ok (.ireturn, 1) := dgX12_look_0 (64, (.ireturn, 1)) (List.mem_of_getElem? (i := 20) rfl)
theorem dX12_look_65 : decode cX12_look 65 = .ok (.aload_n 0, 1) := dgX12_look_0 (65, (.aload_n 0, 1)) (List.mem_of_getElem? (i := 21) rfl)
theorem dX12_look_66 : decode cX12_look 66 = .ok (.getfield 358, 3) := dgX12_look_0 (66, (.getfield 358, 3)) (List.mem_of_getElem? (i := 22) rfl)
theorem dX12_look_69 : decode cX12_look 69 = .ok (.ireturn, 1) := dgX12_look_0 (69, (.ireturn, 1)) (List.mem_of_getElem? (i := 23) rfl)
theorem dX12_look_70 : decode cX12_look 70 = .ok (.aload_n 0, 1) := dgX12_look_0 (70, (.aload_n 0, 1)) (List.mem_of_getElem? (i := 24) rfl)
theorem dX12_look_71 : decode cX12_look 71 = .ok (.getfield 358, 3) := dgX12_look_0 (71, (.getfield 358, 3)) (List.mem_of_getElem? (i := 25) rfl)
theorem dX12_look_74 : decode cX12_look 74 = .ok (.ifCond .ne 7, 3) := dgX12_look_0 (74, (.ifCond .ne 7, 3)) (List.mem_of_getElem? (i := 26) rfl)
theorem dX12_look_77 : decode cX12_look 77 = .ok (.iconst (-1), 1) := dgX12_look_0 (77, (.iconst (-1), 1)) (List.mem_of_getElem? (i := 27) rfl)
theorem dX12_look_78 : decode cX12_look 78 = .ok (.goto 17, 3) := dgX12_look_0 (78, (.goto 17, 3)) (List.mem_of_getElem? (i := 28) rfl)
theorem dX12_look_81 : decode cX12_look 81 = .ok (.aload_n 0, 1) := dgX12_look_0 (81, (.aload_n 0, 1)) (List.mem_of_getElem? (i := 29) rfl)
theorem dX12_look_82 : decode cX12_look 82 = .ok (.getfield 82, 3) := dgX12_look_0 (82, (.getfield 82, 3)) (List.mem_of_getElem? (i := 30) rfl)
theorem dX12_look_85 : decode cX12_look 85 = .ok (.aload_n 0, 1) := dgX12_look_0 (85, (.aload_n 0, 1)) (List.mem_of_getElem? (i := 31) rfl)
theorem dX12_look_86 : decode cX12_look 86 = .ok (.getfield 358, 3) := dgX12_look_0 (86, (.getfield 358, 3)) (List.mem_of_getElem? (i := 32) rfl)
theorem dX12_look_89 : decode cX12_look 89 = .ok (.iconst 1, 1) := dgX12_look_0 (89, (.iconst 1, 1)) (List.mem_of_getElem? (i := 33) rfl)
theorem dX12_look_90 : decode cX12_look 90 = .ok (.isub, 1) := dgX12_look_0 (90, (.isub, 1)) (List.mem_of_getElem? (i := 34) rfl)
theorem dX12_look_91 : decode cX12_look 91 = .ok (.iaload, 1) := dgX12_look_0 (91, (.iaload, 1)) (List.mem_of_getElem? (i := 35) rfl)
theorem dX12_look_92 : decode cX12_look 92 = .ok (.bipush 64, 2) := dgX12_look_0 (92, (.bipush 64, 2)) (List.mem_of_getElem? (i := 36) rfl)
theorem dX12_look_94 : decode cX12_look 94 = .ok (.idiv, 1) := dgX12_look_0 (94, (.idiv, 1)) (List.mem_of_getElem? (i := 37) rfl)
theorem dX12_look_95 : decode cX12_look 95 = .ok (.ireturn, 1) := dgX12_look_0 (95, (.ireturn, 1)) (List.mem_of_getElem? (i := 38) rfl)
theorem dX12_look_96 : decode cX12_look 96 = .ok (.aload_n 0, 1) := dgX12_look_0 (96, (.aload_n 0, 1)) (List.mem_of_getElem? (i := 39) rfl)
theorem dgX12_look_1 : ∀ r ∈ ([(97, (.getfield 361, 3)), (100, (.ireturn, 1)), (101, (.aload_n 0, 1)), (102, (.getfield 368, 3)), (105, (.ireturn, 1)), (106, (.iconst (-1), 1)), (107, (.ireturn, 1))] : List (Nat × (Instr × Nat))), decode cX12_look r.1 = .ok r.2 := by decide +kernel
theorem dX12_look_97 : decode cX12_look 97 = .ok (.getfield 361, 3) := dgX12_look_1 (97, (.getfield 361, 3)) (List.mem_of_getElem? (i := 0) rfl)
theorem dX12_look_100 : decode cX12_look 100 = .ok (.ireturn, 1) := dgX12_look_1 (100, (.ireturn, 1)) (List.mem_of_getElem? (i := 1) rfl)
theorem dX12_look_101 : decode cX12_look 101 = .ok (.aload_n 0, 1) := dgX12_look_1 (101, (.aload_n 0, 1)) (List.mem_of_getElem? (i := 2) rfl)
theorem dX12_look_102 : decode cX12_look 102 = .ok (.getfield 368, 3) := dgX12_look_1 (102, (.getfield 368, 3)) (List.mem_of_getElem? (i := 3) rfl)
theorem dX12_look_105 : decode cX12_look 105 = .ok (.ireturn, 1) := dgX12_look_1 (105, (.ireturn, 1)) (List.mem_of_getElem? (i := 4) rfl)
theorem dX12_look_106 : decode cX12_look 106 = .ok (.iconst (-1), 1) := dgX12_look_1 (106, (.iconst (-1), 1)) (List.mem_of_getElem? (i := 5) rfl)
theorem dX12_look_107 : decode cX12_look 107 = .ok (.ireturn, 1) := dgX12_look_1 (107, (.ireturn, 1)) (List.mem_of_getElem? (i := 6) rfl)
theorem ml_X12_401 : Cond.methodLink RX12 401 yX12_go ∈ tblG := tg 1610 (by decide +kernel) (by decide +kernel)
theorem im_X12_go : Cond.instanceMethod yX12_go ∈ tblG := tg 1612 (by decide +kernel) (by decide +kernel)
theorem se_X12_go : Cond.selects RX12 yX12_go yX12_go ∈ tblG := tg 62 (by decide +kernel) (by decide +kernel)
theorem cd_X12_go : Cond.code yX12_go cX12_go 7 none ∈ tblG := tg 1613 (by decide +kernel) (by decide +kernel)
theorem gW_X12_go : GoodIn tblG (wsG yX12_go cX12_go 7 none) := tgi cd_X12_go
theorem gV_X12_401 : GoodIn tblG (wsV RX12 401 RX12 yX12_go (wsG yX12_go cX12_go 7 none)) := tgV ml_X12_401 im_X12_go se_X12_go ini_X12 gW_X12_go
theorem hv_X12_go : yX12_go.cls = RX12 ∧ yX12_go.cls ≠ "java/lang/invoke/MethodHandle" ∧ yX12_go.cls ≠ "java/lang/invoke/VarHandle" ∧ (parseMethodDescriptor yX12_go.desc).map (fun d => d.parameters.length) = some 4 := by decide +kernel
set_option maxHeartbeats 4000000 in
set_option maxRecDepth 100000 in
theorem n_look (l : Launch) (G : g5_G) (b_o b_ro b_se b_re b_pt b_rf b_im b_ke b_tp b_nl b_op b_ar b_pi b_pa b_ws b_hw b_ip b_ah b_be b_me b_tr b_ld b_wn : Nat) (sz : Nat) (u_th : Int32) (u_sa : Int32) (u_fd : Int32) (u_td : Int32) (u_fr : Int32) (u_to : Int32) (u_so : Int32) (u_fa : Int32) (u_bd : Int32) (u_nc : Int32) (u_co : Int32) (u_le : Int32) (u_pd : Int32) (u_od : Int32) (u_la : Int32) (u_bk : Int32) (u_ce : Int32) (u_ho : Int32) (u_wy : Int32) (u_bt : Int32) (u_ps : Int32) (u_tg : Int32) (u_sn : Int32) (u_ic : Int32) (u_wd : Int32) (u_id : Int32) (p_1 : Int32) (p_2 : Int32) (p_3 : Int32) (p_4 : Int32) (u_wo : Int64) (u_va : Int64) (u_su : Int64) (u_st : Int64) (v_ro : Nat → Int32) (v_se : Nat → Int64) (v_re : Nat → Int64) (v_pt : Nat → Int32) (h_u_td : 0 ≤ u_td.toInt ∧ u_td.toInt ≤ 400) (h_u_fr : 0 ≤ u_fr.toInt ∧ u_fr.toInt ≤ 400) (h_u_to : 0 ≤ u_to.toInt ∧ u_to.toInt ≤ 400) (h_u_bd : 0 ≤ u_bd.toInt ∧ u_bd.toInt ≤ 1) (h_u_nc : 0 ≤ u_nc.toInt ∧ u_nc.toInt ≤ 12) (h_u_co : 0 ≤ u_co.toInt ∧ u_co.toInt ≤ 400) (h_u_pd : 0 ≤ u_pd.toInt ∧ u_pd.toInt ≤ 400) (h_u_la : 0 ≤ u_la.toInt ∧ u_la.toInt ≤ 4840) (h_u_bk : 0 ≤ u_bk.toInt ∧ u_bk.toInt ≤ 1) (h_u_ce : 0 ≤ u_ce.toInt ∧ u_ce.toInt ≤ 63) (h_u_ho : 0 ≤ u_ho.toInt ∧ u_ho.toInt ≤ 23) (h_u_wy : 0 ≤ u_wy.toInt ∧ u_wy.toInt ≤ 3) (h_u_bt : 0 ≤ u_bt.toInt ∧ u_bt.toInt ≤ 1000000) (h_u_ps : 0 ≤ u_ps.toInt ∧ u_ps.toInt ≤ 200) (h_u_ic : 0 ≤ u_ic.toInt ∧ u_ic.toInt ≤ 1) (h_u_id : 0 ≤ u_id.toInt ∧ u_id.toInt ≤ 1) (r_ro : MI v_ro) (r_pt : PTI v_pt) : Met l yX12_look (wsG yX12_look cX12_look 5 (some .int)) ({ frames := 7, cells := 0, slots := 0, locals := 176 }) (va_Pc [.ref b_o, .int p_1, .int p_2, .int p_3, .int p_4] (g5_P G [(b_o, (oc12 u_th u_sa b_rf b_ro b_im b_ke u_fd b_tp u_td u_fr u_to u_so u_wo u_fa u_bd u_nc b_nl u_co b_op b_ar u_le b_pi b_pa u_pd u_od b_ws b_hw u_la b_se b_re u_bk u_va u_su u_ce u_ho u_wy u_bt u_ps b_pt u_tg u_sn b_ip u_ic b_ah b_be b_me u_wd b_tr b_ld u_st b_wn u_id)), (b_ro, (arI G 5740 v_ro)), (b_se, (arJ G 13 v_se)), (b_re, (arJ G 400 v_re)), (b_pt, (arI G 200 v_pt))] sz)) (va_Qi (fun (r : Int32) (u : va_W) => (∃ (o_r : Int32) (o_th : Int32) (o_la : Int32) (o_bk : Int32) (o_va : Int64) (o_su : Int64) (o_ce : Int32) (o_ho : Int32) (o_wy : Int32) (o_bt : Int32) (o_ps : Int32) (o_tg : Int32) (o_sn : Int32) (o_se : Nat → Int64) (o_re : Nat → Int64) (o_pt : Nat → Int32), (0 ≤ o_la.toInt ∧ o_la.toInt ≤ 4840) ∧ (0 ≤ o_bk.toInt ∧ o_bk.toInt ≤ 1) ∧ (0 ≤ o_ce.toInt ∧ o_ce.toInt ≤ 63) ∧ (0 ≤ o_ho.toInt ∧ o_ho.toInt ≤ 23) ∧ (0 ≤ o_wy.toInt ∧ o_wy.toInt ≤ 3) ∧ (0 ≤ o_bt.toInt ∧ o_bt.toInt ≤ 1000000) ∧ (0 ≤ o_ps.toInt ∧ o_ps.toInt ≤ 200) ∧ (PTI o_pt) ∧ (r = o_r) ∧ (u = [(b_o, (oc12 o_th u_sa b_rf b_ro b_im b_ke u_fd b_tp u_td u_fr u_to u_so u_wo u_fa u_bd u_nc b_nl u_co b_op b_ar u_le b_pi b_pa u_pd u_od b_ws b_hw o_la b_se b_re o_bk o_va o_su o_ce o_ho o_wy o_bt o_ps b_pt o_tg o_sn b_ip u_ic b_ah b_be b_me u_wd b_tr b_ld u_st b_wn u_id)), (b_ro, (arI G 5740 v_ro)), (b_se, (arJ G 13 o_se)), (b_re, (arJ G 400 o_re)), (b_pt, (arI G 200 o_pt))]))) (g5_B G (va_A [(b_o, (oc12 u_th u_sa b_rf b_ro b_im b_ke u_fd b_tp u_td u_fr u_to u_so u_wo u_fa u_bd u_nc b_nl u_co b_op b_ar u_le b_pi b_pa u_pd u_od b_ws b_hw u_la b_se b_re u_bk u_va u_su u_ce u_ho u_wy u_bt u_ps b_pt u_tg u_sn b_ip u_ic b_ah b_be b_me u_wd b_tr b_ld u_st b_wn u_id)), (b_ro, (arI G 5740 v_ro)), (b_se, (arJ G 13 v_se)), (b_re, (arJ G 400 v_re)), (b_pt, (arI G 200 v_pt))] sz)) (va_A [(b_o, (oc12 u_th u_sa b_rf b_ro b_im b_ke u_fd b_tp u_td u_fr u_to u_so u_wo u_fa u_bd u_nc b_nl u_co b_op b_ar u_le b_pi b_pa u_pd u_od b_ws b_hw u_la b_se b_re u_bk u_va u_su u_ce u_ho u_wy u_bt u_ps b_pt u_tg u_sn b_ip u_ic b_ah b_be b_me u_wd b_tr b_ld u_st b_wn u_id)), (b_ro, (arI G 5740 v_ro)), (b_se, (arJ G 13 v_se)), (b_re, (arJ G 400 v_re)), (b_pt, (arI G 200 v_pt))] sz)) 0 0 (va_A [(b_o, (oc12 u_th u_sa b_rf b_ro b_im b_ke u_fd b_tp u_td u_fr u_to u_so u_wo u_fa u_bd u_nc b_nl u_co b_op b_ar u_le b_pi b_pa u_pd u_od b_ws b_hw u_la b_se b_re u_bk u_va u_su u_ce u_ho u_wy u_bt u_ps b_pt u_tg u_sn b_ip u_ic b_ah b_be b_me u_wd b_tr b_ld u_st b_wn u_id)), (b_ro, (arI G 5740 v_ro)), (b_se, (arJ G 13 v_se)), (b_re, (arJ G 400 v_re)), (b_pt, (arI G 200 v_pt))] sz) := by
  refine Met.ofW (cc := cX12_look) (maxL := 5) (ret := (some .int)) (by decide +kernel) rfl ?_
  intro p e s m args below meth c s₁ B hml hv
  obtain ⟨rfl, hsz, hP, hK, hD0, hN, hT⟩ := hv
  have hx := B.exec
  have hb := B.bytes
  have hr := B.returns
  have hts : ∀ w ∈ tblG, w.before _ s = true := fun w h => atoms_spec (ws := (wsG yX12_look cX12_look 5 (some .int))) B.pre w (List.mem_cons_of_mem _ h)
  have hown : s.vm.findClass RX12 = some m.cls := findClass_of_methodNamed B.named
  have hlocks := B.notSynchronized
  subst hsz
  have hD := hD0.self (sz := s.heap.size)
  generalize hAe : va_A [(b_o, (oc12 u_th u_sa b_rf b_ro b_im b_ke u_fd b_tp u_td u_fr u_to u_so u_wo u_fa u_bd u_nc b_nl u_co b_op b_ar u_le b_pi b_pa u_pd u_od b_ws b_hw u_la b_se b_re u_bk u_va u_su u_ce u_ho u_wy u_bt u_ps b_pt u_tg u_sn b_ip u_ic b_ah b_be b_me u_wd b_tr b_ld u_st b_wn u_id)), (b_ro, (arI G 5740 v_ro)), (b_se, (arJ G 13 v_se)), (b_re, (arJ G 400 v_re)), (b_pt, (arI G 200 v_pt))] s.heap.size = A at hD hT ⊢
  have hA : ∀ q : Nat, s.heap.size ≤ q → A q := fun q h => by rw [← hAe]; exact Or.inr h
  have hS : va_S A s.heap s.heap [] := va_S.rf
  replace hP : va_P G.1 vwCl [(b_o, (oc12 u_th u_sa b_rf b_ro b_im b_ke u_fd b_tp u_td u_fr u_to u_so u_wo u_fa u_bd u_nc b_nl u_co b_op b_ar u_le b_pi b_pa u_pd u_od b_ws b_hw u_la b_se b_re u_bk u_va u_su u_ce u_ho u_wy u_bt u_ps b_pt u_tg u_sn b_ip u_ic b_ah b_be b_me u_wd b_tr b_ld u_st b_wn u_id)), (b_ro, (arI G 5740 v_ro)), (b_se, (arJ G 13 v_se)), (b_re, (arJ G 400 v_re)), (b_pt, (arI G 200 v_pt))] s.heap := hP
  have hl := lv_entry ([.ref b_o, .int p_1, .int p_2, .int p_3, .int p_4]) (n := 5) (Nat.le_of_ble_eq_true rfl)
  rw [lg_entry_eq]
  generalize (lg_sl ([.ref b_o, .int p_1, .int p_2, .int p_3, .int p_4]) ++ List.replicate (5 - (lg_sl ([.ref b_o, .int p_1, .int p_2, .int p_3, .int p_4])).length) Slot.unset).toArray = ls at hl ⊢
  replace hl : lv_has ls 5 [(0, .ref b_o), (1, .int p_1), (2, .int p_2), (3, .int p_3), (4, .int p_4)] := hl
  refine lv_aload_n hx hb dX12_look_0 rfl (lv_at hl 0 rfl) ?_
  refine lv_iconst (v := 0) hx hb dX12_look_1 (by decide +kernel) ?_
  refine va_put (D := G.1) (ci := 12) (v := .int 0) (ty := .int) (C := RX12) (T := TX12) (N := 52) hx hb hts inG_X12 tyX12 tyX12_ok nmX12 hown hK hP hD hS 0 rfl rfl 0 (by decide +kernel) (hts _ fl_X12_107) (fun _ h9 => h9) rfl (by decide +kernel) rfl rfl (Nat.le_of_ble_eq_true rfl) dX12_look_2 ?_
  clear hP hD hS
  intro H locs hP hD hS
  refine g5_rs [(b_o, (oc12 0 u_sa b_rf b_ro b_im b_ke u_fd b_tp u_td u_fr u_to u_so u_wo u_fa u_bd u_nc b_nl u_co b_op b_ar u_le b_pi b_pa u_pd u_od b_ws b_hw u_la b_se b_re u_bk u_va u_su u_ce u_ho u_wy u_bt u_ps b_pt u_tg u_sn b_ip u_ic b_ah b_be b_me u_wd b_tr b_ld u_st b_wn u_id)), (b_ro, (arI G 5740 v_ro)), (b_se, (arJ G 13 v_se)), (b_re, (arJ G 400 v_re)), (b_pt, (arI G 200 v_pt))] hP hD ?_
  clear hP hD
  intro hP hD
  refine lv_iload_n hx hb dX12_look_5 rfl (lv_at hl 1 rfl) ?_
  refine W.eq (g2 := F0 m 6 ls [.int p_1]) rfl ?_
  refine lv_iload_n hx hb dX12_look_6 rfl (lv_at hl 2 rfl) ?_
  refine lv_iload_n hx hb dX12_look_7 rfl (lv_at hl 3 rfl) ?_
  obtain ⟨hPc, hDc, hFc⟩ := g5_sub3 (wc := []) hP hD hS hA [] (by decide +kernel) rfl
  refine va_calli (va_runS (As := [.int p_1, .int p_2, .int p_3]) (rest := []) ⟨hx, hb, hml, hown, hts⟩ (n_isLook l G H.size p_1 p_2 p_3) (va_cwS 3 hts gS_X12_397 rfl rfl rfl hs_X12_isLook ⟨Nat.le_of_ble_eq_true rfl, Nat.le_of_ble_eq_true rfl⟩) (g5_preS hPc hK hDc hN hT hS hFc) rfl rfl hl.1 rfl (lv_room (Nat.le_of_ble_eq_true rfl)) dX12_look_8 ⟨Nat.le_of_ble_eq_true rfl, Nat.le_of_ble_eq_true rfl⟩) hS (fun q _ h => hFc q h) hFc (fun r u t H locs ht hvm hw hB hz1 hk1 hS => ?_)
  obtain ⟨hP1, hD1⟩ := hB
  have hP1 := g5_ht ht hP1
  rcases hw with ⟨(i_1 : 0 ≤ p_1.toInt ∧ p_1.toInt ≤ 63), (i_2 : 0 ≤ p_2.toInt ∧ p_2.toInt ≤ 3), (i_3 : 0 ≤ p_3.toInt ∧ p_3.toInt ≤ 23), rfl, rfl⟩ | ⟨rfl, rfl⟩
  ·
    have hJ9 := g5_same hP hk1
    clear hP hPc hDc hFc ht hvm hz1 hk1 hP1 hD1
    have hP := hJ9
    clear hJ9
    refine lv_if_ne (tgt := 16) hx hb dX12_look_11 (by decide +kernel) (fun c_4 => ?_) (fun c_4 => ?_)
    ·
      refine lv_aload_n hx hb dX12_look_16 rfl (lv_at hl 0 rfl) ?_
      refine lv_iload_n hx hb dX12_look_17 rfl (lv_at hl 1 rfl) ?_
      refine lv_iload_n hx hb dX12_look_18 rfl (lv_at hl 2 rfl) ?_
      refine lv_iload_n hx hb dX12_look_19 rfl (lv_at hl 3 rfl) ?_
      refine W.eq (g2 := F0 m 20 ls [.int p_3, .int p_2, .int p_1, .ref b_o]) rfl ?_
      refine lv_iconst (v := 0) hx hb dX12_look_20 (by decide +kernel) ?_
      obtain ⟨hPc, hDc, hFc⟩ := g5_sub3 (wc := [(b_o, (oc12 0 u_sa b_rf b_ro b_im b_ke u_fd b_tp u_td u_fr u_to u_so u_wo u_fa u_bd u_nc b_nl u_co b_op b_ar u_le b_pi b_pa u_pd u_od b_ws b_hw u_la b_se b_re u_bk u_va u_su u_ce u_ho u_wy u_bt u_ps b_pt u_tg u_sn b_ip u_ic b_ah b_be b_me u_wd b_tr b_ld u_st b_wn u_id)), (b_ro, (arI G 5740 v_ro)), (b_se, (arJ G 13 v_se)), (b_re, (arJ G 400 v_re)), (b_pt, (arI G 200 v_pt))]) hP hD hS hA [0, 1, 2, 3, 4] (by decide +kernel) rfl
      refine va_callv (va_runV (As := [.int p_1, .int p_2, .int p_3, .int 0]) (rest := []) ⟨hx, hb, hml, hown, hts⟩ (n_go l G b_o b_ro b_se b_re b_pt b_rf b_im b_ke b_tp b_nl b_op b_ar b_pi b_pa b_ws b_hw b_ip b_ah b_be b_me b_tr b_ld b_wn H.size 0 u_sa u_fd u_td u_fr u_to u_so u_fa u_bd u_nc u_co u_le u_pd u_od u_la u_bk u_ce u_ho u_wy u_bt u_ps u_tg u_sn u_ic u_wd u_id p_1 p_2 p_3 0 u_wo u_va u_su u_st v_ro v_se v_re v_pt h_u_td h_u_fr h_u_to h_u_bd h_u_nc h_u_co h_u_pd h_u_la h_u_bk h_u_ce h_u_ho h_u_wy h_u_bt h_u_ps h_u_ic h_u_id i_1 i_2 i_3 (r_ro) (r_pt)) (cwV 4 hts gV_X12_401 rfl rfl rfl hv_X12_go ⟨Nat.le_of_ble_eq_true rfl, Nat.le_of_ble_eq_true rfl⟩) (g5_preV hPc hK hDc hN hT hS hFc (ci := 12) (q0 := 0) rfl rfl) rfl rfl hl.1 rfl (lv_room (Nat.le_of_ble_eq_true rfl)) dX12_look_21 ⟨Nat.le_of_ble_eq_true rfl, Nat.le_of_ble_eq_true rfl⟩) hS (fun q _ h => hFc q h) hFc (fun u t H locs ht hvm hw hB hz1 hk1 hS => ?_)
      obtain ⟨hP1, hD1⟩ := hB
      have hP1 := g5_ht ht hP1
      obtain ⟨z13, z14, z15, z16, z17, z18, z19, z20, z21, z22, z23, z24, z25, z26, (i_5 : 0 ≤ z13.toInt ∧ z13.toInt ≤ 4840), (i_6 : 0 ≤ z14.toInt ∧ z14.toInt ≤ 1), (i_7 : 0 ≤ z17.toInt ∧ z17.toInt ≤ 63), (i_8 : 0 ≤ z18.toInt ∧ z18.toInt ≤ 23), (i_9 : 0 ≤ z19.toInt ∧ z19.toInt ≤ 3), (i_10 : 0 ≤ z20.toInt ∧ z20.toInt ≤ 1000000), (i_11 : 0 ≤ z21.toInt ∧ z21.toInt ≤ 200), (i_12 : PTI z26), rfl⟩ := hw
      have hJ9 := va_join (wr := []) hP hD [0, 1, 2, 3, 4] [] rfl rfl (by decide +kernel) (by decide +kernel) hk1 hFc hP1 hD1
      clear hP hD hPc hDc hFc ht hvm hz1 hk1 hP1 hD1
      obtain ⟨hP, hD⟩ := hJ9
      refine g5_rs [(b_o, (oc12 0 u_sa b_rf b_ro b_im b_ke u_fd b_tp u_td u_fr u_to u_so u_wo u_fa u_bd u_nc b_nl u_co b_op b_ar u_le b_pi b_pa u_pd u_od b_ws b_hw z13 b_se b_re z14 z15 z16 z17 z18 z19 z20 z21 b_pt z22 z23 b_ip u_ic b_ah b_be b_me u_wd b_tr b_ld u_st b_wn u_id)), (b_ro, (arI G 5740 v_ro)), (b_se, (arJ G 13 z24)), (b_re, (arJ G 400 z25)), (b_pt, (arI G 200 z26))] hP hD ?_
      clear hP hD
      intro hP hD
      refine lv_iload hx hb dX12_look_24 (lv_at hl 4 rfl) ?_
      rcases (show p_4.toInt = 0 ∨ p_4.toInt = 1 ∨ p_4.toInt = 2 ∨ p_4.toInt = 3 ∨ p_4.toInt = 4 ∨ p_4.toInt < 0 ∨ p_4.toInt > 4 by omega) with s_27 | s_27 | s_27 | s_27 | s_27 | s_27 | s_27
      ·
        have i_27 : p_4.toInt = 0 := by omega
        refine lv_tableIn (tgt := 60) hx hb dX12_look_26 (by omega) (by omega) (by rw [s_27]; rfl) (by decide +kernel) ?_
        refine lv_aload_n hx hb dX12_look_60 rfl (lv_at hl 0 rfl) ?_
        refine va_get (D := G.1) (ci := 12) (v := .int z23) (C := RX12) (T := TX12) (N := 52) hx hb hts inG_X12 hown hK hP 0 rfl rfl 40 (by decide +kernel) (hts _ fl_X12_371) (fun _ h9 => h9) rfl dX12_look_61 ?_
        exact W.iret (v := z23) hx hb hr (fun t ht hW => ⟨⟨z23, [(b_o, (oc12 0 u_sa b_rf b_ro b_im b_ke u_fd b_tp u_td u_fr u_to u_so u_wo u_fa u_bd u_nc b_nl u_co b_op b_ar u_le b_pi b_pa u_pd u_od b_ws b_hw z13 b_se b_re z14 z15 z16 z17 z18 z19 z20 z21 b_pt z22 z23 b_ip u_ic b_ah b_be b_me u_wd b_tr b_ld u_st b_wn u_id)), (b_ro, (arI G 5740 v_ro)), (b_se, (arJ G 13 z24)), (b_re, (arJ G 400 z25)), (b_pt, (arI G 200 z26))], rfl, ⟨z23, 0, z13, z14, z15, z16, z17, z18, z19, z20, z21, z22, z23, z24, z25, z26, i_5, i_6, i_7, i_8, i_9, i_10, i_11, i_12, rfl, rfl⟩, by rw [ht]; exact hP.sub [0, 1, 2, 3, 4] rfl, hD.sub [0, 1, 2, 3, 4] (by decide +kernel) rfl⟩, hS.F ht⟩) hS.2.2 dX12_look_64
      ·
        have i_27 : p_4.toInt = 1 := by omega
        refine lv_tableIn (tgt := 65) hx hb dX12_look_26 (by omega) (by omega) (by rw [s_27]; rfl) (by decide +kernel) ?_
        refine lv_aload_n hx hb dX12_look_65 rfl (lv_at hl 0 rfl) ?_
        refine va_get (D := G.1) (ci := 12) (v := .int z21) (C := RX12) (T := TX12) (N := 52) hx hb hts inG_X12 hown hK hP 0 rfl rfl 37 (by decide +kernel) (hts _ fl_X12_358) (fun _ h9 => h9) rfl dX12_look_66 ?_
        exact W.iret (v := z21) hx hb hr (fun t ht hW => ⟨⟨z21, [(b_o, (oc12 0 u_sa b_rf b_ro b_im b_ke u_fd b_tp u_td u_fr u_to u_so u_wo u_fa u_bd u_nc b_nl u_co b_op b_ar u_le b_pi b_pa u_pd u_od b_ws b_hw z13 b_se b_re z14 z15 z16 z17 z18 z19 z20 z21 b_pt z22 z23 b_ip u_ic b_ah b_be b_me u_wd b_tr b_ld u_st b_wn u_id)), (b_ro, (arI G 5740 v_ro)), (b_se, (arJ G 13 z24)), (b_re, (arJ G 400 z25)), (b_pt, (arI G 200 z26))], rfl, ⟨z21, 0, z13, z14, z15, z16, z17, z18, z19, z20, z21, z22, z23, z24, z25, z26, i_5, i_6, i_7, i_8, i_9, i_10, i_11, i_12, rfl, rfl⟩, by rw [ht]; exact hP.sub [0, 1, 2, 3, 4] rfl, hD.sub [0, 1, 2, 3, 4] (by decide +kernel) rfl⟩, hS.F ht⟩) hS.2.2 dX12_look_69
      ·
        have i_27 : p_4.toInt = 2 := by omega
        refine lv_tableIn (tgt := 70) hx hb dX12_look_26 (by omega) (by omega) (by rw [s_27]; rfl) (by decide +kernel) ?_
        refine lv_aload_n hx hb dX12_look_70 rfl (lv_at hl 0 rfl) ?_
        refine va_get (D := G.1) (ci := 12) (v := .int z21) (C := RX12) (T := TX12) (N := 52) hx hb hts inG_X12 hown hK hP 0 rfl rfl 37 (by decide +kernel) (hts _ fl_X12_358) (fun _ h9 => h9) rfl dX12_look_71 ?_
        refine lv_if_ne (tgt := 81) hx hb dX12_look_74 (by decide +kernel) (fun c_28 => ?_) (fun c_28 => ?_)
        ·
          have n_28 : gNe (z21.toInt) (0) := g5_ne (a := z21.toInt) (b := 0) rfl (by decide +kernel) c_28
          have i_28 : z21.toInt ≥ 1 := by have z := g5_ne (a := z21.toInt) (b := 0) (by rfl) (by decide +kernel) c_28; omega
          refine lv_aload_n hx hb dX12_look_81 rfl (lv_at hl 0 rfl) ?_
          refine va_get (D := G.1) (ci := 12) (v := .ref b_pt) (C := RX12) (T := TX12) (N := 52) hx hb hts inG_X12 hown hK hP 0 rfl rfl 38 (by decide +kernel) (hts _ fl_X12_82) (fun _ h9 => h9) rfl dX12_look_82 ?_
          refine lv_aload_n hx hb dX12_look_85 rfl (lv_at hl 0 rfl) ?_
          refine va_get (D := G.1) (ci := 12) (v := .int z21) (C := RX12) (T := TX12) (N := 52) hx hb hts inG_X12 hown hK hP 0 rfl rfl 37 (by decide +kernel) (hts _ fl_X12_358) (fun _ h9 => h9) rfl dX12_look_86 ?_
          refine W.eq (g2 := F0 m 89 ls [.int z21, .ref b_pt]) rfl ?_
          refine lv_iconst (v := 1) hx hb dX12_look_89 (by decide +kernel) ?_
          refine lv_isub hx hb dX12_look_90 ?_
          have t_29 : (z21 - 1).toInt = z21.toInt - 1 := g5_isub (a := z21.toInt) (b := 1) (by rfl) (by decide +kernel) (by omega) (by omega)
          refine va_iald hx hb hK hP 4 0 rfl rfl (i := (z21 - 1)) (vp_in_iff.mpr ⟨by omega, by omega⟩) dX12_look_91 ?_
          have hr_30 : 0 ≤ (z26 (z21 - 1).toNatClampNeg).toInt ∧ (z26 (z21 - 1).toNatClampNeg).toInt ≤ 1535 := i_12 ((z21 - 1).toNatClampNeg)
          refine lv_bipush (v := 64) hx hb dX12_look_92 (by decide +kernel) ?_
          refine lv_idiv hx hb dX12_look_94 (by decide +kernel) ?_
          have t_31 : ((z26 (z21 - 1).toNatClampNeg) / 64).toInt = (z26 (z21 - 1).toNatClampNeg).toInt / 64 := g5_idiv (a := (z26 (z21 - 1).toNatClampNeg).toInt) (b := 64) rfl (by decide +kernel) (by omega) (by decide +kernel)
          refine W.eq (g2 := F0 m 95 ls [.int ((z26 (z21 - 1).toNatClampNeg) / 64)]) rfl ?_
          exact W.iret (v := ((z26 (z21 - 1).toNatClampNeg) / 64)) hx hb hr (fun t ht hW => ⟨⟨((z26 (z21 - 1).toNatClampNeg) / 64), [(b_o, (oc12 0 u_sa b_rf b_ro b_im b_ke u_fd b_tp u_td u_fr u_to u_so u_wo u_fa u_bd u_nc b_nl u_co b_op b_ar u_le b_pi b_pa u_pd u_od b_ws b_hw z13 b_se b_re z14 z15 z16 z17 z18 z19 z20 z21 b_pt z22 z23 b_ip u_ic b_ah b_be b_me u_wd b_tr b_ld u_st b_wn u_id)), (b_ro, (arI G 5740 v_ro)), (b_se, (arJ G 13 z24)), (b_re, (arJ G 400 z25)), (b_pt, (arI G 200 z26))], rfl, ⟨((z26 (z21 - 1).toNatClampNeg) / 64), 0, z13, z14, z15, z16, z17, z18, z19, z20, z21, z22, z23, z24, z25, z26, i_5, i_6, i_7, i_8, i_9, i_10, i_11, i_12, rfl, rfl⟩, by rw [ht]; exact hP.sub [0, 1, 2, 3, 4] rfl, hD.sub [0, 1, 2, 3, 4] (by decide +kernel) rfl⟩, hS.F ht⟩) hS.2.2 dX12_look_95
        ·
          have i_28 : z21.toInt = 0 := g5_neN (a := z21.toInt) (b := 0) rfl (by decide +kernel) c_28
          refine lv_iconst (v := (-1)) hx hb dX12_look_77 (by decide +kernel) ?_
          refine lv_goto (tgt := 95) hx hb dX12_look_78 (by decide +kernel) ?_
          exact W.iret (v := (-1)) hx hb hr (fun t ht hW => ⟨⟨(-1), [(b_o, (oc12 0 u_sa b_rf b_ro b_im b_ke u_fd b_tp u_td u_fr u_to u_so u_wo u_fa u_bd u_nc b_nl u_co b_op b_ar u_le b_pi b_pa u_pd u_od b_ws b_hw z13 b_se b_re z14 z15 z16 z17 z18 z19 z20 z21 b_pt z22 z23 b_ip u_ic b_ah b_be b_me u_wd b_tr b_ld u_st b_wn u_id)), (b_ro, (arI G 5740 v_ro)), (b_se, (arJ G 13 z24)), (b_re, (arJ G 400 z25)), (b_pt, (arI G 200 z26))], rfl, ⟨(-1), 0, z13, z14, z15, z16, z17, z18, z19, z20, z21, z22, z23, z24, z25, z26, i_5, i_6, i_7, i_8, i_9, i_10, i_11, i_12, rfl, rfl⟩, by rw [ht]; exact hP.sub [0, 1, 2, 3, 4] rfl, hD.sub [0, 1, 2, 3, 4] (by decide +kernel) rfl⟩, hS.F ht⟩) hS.2.2 dX12_look_95
      ·
        have i_27 : p_4.toInt = 3 := by omega
        refine lv_tableIn (tgt := 96) hx hb dX12_look_26 (by omega) (by omega) (by rw [s_27]; rfl) (by decide +kernel) ?_
        refine lv_aload_n hx hb dX12_look_96 rfl (lv_at hl 0 rfl) ?_
        refine va_get (D := G.1) (ci := 12) (v := .int z20) (C := RX12) (T := TX12) (N := 52) hx hb hts inG_X12 hown hK hP 0 rfl rfl 36 (by decide +kernel) (hts _ fl_X12_361) (fun _ h9 => h9) rfl dX12_look_97 ?_
        exact W.iret (v := z20) hx hb hr (fun t ht hW => ⟨⟨z20, [(b_o, (oc12 0 u_sa b_rf b_ro b_im b_ke u_fd b_tp u_td u_fr u_to u_so u_wo u_fa u_bd u_nc b_nl u_co b_op b_ar u_le b_pi b_pa u_pd u_od b_ws b_hw z13 b_se b_re z14 z15 z16 z17 z18 z19 z20 z21 b_pt z22 z23 b_ip u_ic b_ah b_be b_me u_wd b_tr b_ld u_st b_wn u_id)), (b_ro, (arI G 5740 v_ro)), (b_se, (arJ G 13 z24)), (b_re, (arJ G 400 z25)), (b_pt, (arI G 200 z26))], rfl, ⟨z20, 0, z13, z14, z15, z16, z17, z18, z19, z20, z21, z22, z23, z24, z25, z26, i_5, i_6, i_7, i_8, i_9, i_10, i_11, i_12, rfl, rfl⟩, by rw [ht]; exact hP.sub [0, 1, 2, 3, 4] rfl, hD.sub [0, 1, 2, 3, 4] (by decide +kernel) rfl⟩, hS.F ht⟩) hS.2.2 dX12_look_100
      ·
        have i_27 : p_4.toInt = 4 := by omega
        refine lv_tableIn (tgt := 101) hx hb dX12_look_26 (by omega) (by omega) (by rw [s_27]; rfl) (by decide +kernel) ?_
        refine lv_aload_n hx hb dX12_look_101 rfl (lv_at hl 0 rfl) ?_
        refine va_get (D := G.1) (ci := 12) (v := .int z22) (C := RX12) (T := TX12) (N := 52) hx hb hts inG_X12 hown hK hP 0 rfl rfl 39 (by decide +kernel) (hts _ fl_X12_368) (fun _ h9 => h9) rfl dX12_look_102 ?_
        exact W.iret (v := z22) hx hb hr (fun t ht hW => ⟨⟨z22, [(b_o, (oc12 0 u_sa b_rf b_ro b_im b_ke u_fd b_tp u_td u_fr u_to u_so u_wo u_fa u_bd u_nc b_nl u_co b_op b_ar u_le b_pi b_pa u_pd u_od b_ws b_hw z13 b_se b_re z14 z15 z16 z17 z18 z19 z20 z21 b_pt z22 z23 b_ip u_ic b_ah b_be b_me u_wd b_tr b_ld u_st b_wn u_id)), (b_ro, (arI G 5740 v_ro)), (b_se, (arJ G 13 z24)), (b_re, (arJ G 400 z25)), (b_pt, (arI G 200 z26))], rfl, ⟨z22, 0, z13, z14, z15, z16, z17, z18, z19, z20, z21, z22, z23, z24, z25, z26, i_5, i_6, i_7, i_8, i_9, i_10, i_11, i_12, rfl, rfl⟩, by rw [ht]; exact hP.sub [0, 1, 2, 3, 4] rfl, hD.sub [0, 1, 2, 3, 4] (by decide +kernel) rfl⟩, hS.F ht⟩) hS.2.2 dX12_look_105
      ·
        have i_27 : p_4.toInt < 0 := by omega
        refine lv_tableOut (tgt := 106) hx hb dX12_look_26 (by omega) (by decide +kernel) ?_
        refine lv_iconst (v := (-1)) hx hb dX12_look_106 (by decide +kernel) ?_
        exact W.iret (v := (-1)) hx hb hr (fun t ht hW => ⟨⟨(-1), [(b_o, (oc12 0 u_sa b_rf b_ro b_im b_ke u_fd b_tp u_td u_fr u_to u_so u_wo u_fa u_bd u_nc b_nl u_co b_op b_ar u_le b_pi b_pa u_pd u_od b_ws b_hw z13 b_se b_re z14 z15 z16 z17 z18 z19 z20 z21 b_pt z22 z23 b_ip u_ic b_ah b_be b_me u_wd b_tr b_ld u_st b_wn u_id)), (b_ro, (arI G 5740 v_ro)), (b_se, (arJ G 13 z24)), (b_re, (arJ G 400 z25)), (b_pt, (arI G 200 z26))], rfl, ⟨(-1), 0, z13, z14, z15, z16, z17, z18, z19, z20, z21, z22, z23, z24, z25, z26, i_5, i_6, i_7, i_8, i_9, i_10, i_11, i_12, rfl, rfl⟩, by rw [ht]; exact hP.sub [0, 1, 2, 3, 4] rfl, hD.sub [0, 1, 2, 3, 4] (by decide +kernel) rfl⟩, hS.F ht⟩) hS.2.2 dX12_look_107
      ·
        have i_27 : p_4.toInt > 4 := by omega
        refine lv_tableOut (tgt := 106) hx hb dX12_look_26 (by omega) (by decide +kernel) ?_
        refine lv_iconst (v := (-1)) hx hb dX12_look_106 (by decide +kernel) ?_
        exact W.iret (v := (-1)) hx hb hr (fun t ht hW => ⟨⟨(-1), [(b_o, (oc12 0 u_sa b_rf b_ro b_im b_ke u_fd b_tp u_td u_fr u_to u_so u_wo u_fa u_bd u_nc b_nl u_co b_op b_ar u_le b_pi b_pa u_pd u_od b_ws b_hw z13 b_se b_re z14 z15 z16 z17 z18 z19 z20 z21 b_pt z22 z23 b_ip u_ic b_ah b_be b_me u_wd b_tr b_ld u_st b_wn u_id)), (b_ro, (arI G 5740 v_ro)), (b_se, (arJ G 13 z24)), (b_re, (arJ G 400 z25)), (b_pt, (arI G 200 z26))], rfl, ⟨(-1), 0, z13, z14, z15, z16, z17, z18, z19, z20, z21, z22, z23, z24, z25, z26, i_5, i_6, i_7, i_8, i_9, i_10, i_11, i_12, rfl, rfl⟩, by rw [ht]; exact hP.sub [0, 1, 2, 3, 4] rfl, hD.sub [0, 1, 2, 3, 4] (by decide +kernel) rfl⟩, hS.F ht⟩) hS.2.2 dX12_look_107
    ·
      exact absurd c_4 (by decide +kernel)
  ·
    have hJ9 := g5_same hP hk1
    clear hP hPc hDc hFc ht hvm hz1 hk1 hP1 hD1
    have hP := hJ9
    clear hJ9
    refine lv_if_ne (tgt := 16) hx hb dX12_look_11 (by decide +kernel) (fun c_32 => ?_) (fun c_32 => ?_)
    ·
      exact absurd c_32 (by decide +kernel)
    ·
      refine lv_iconst (v := (-1)) hx hb dX12_look_14 (by decide +kernel) ?_
      exact W.iret (v := (-1)) hx hb hr (fun t ht hW => ⟨⟨(-1), [(b_o, (oc12 0 u_sa b_rf b_ro b_im b_ke u_fd b_tp u_td u_fr u_to u_so u_wo u_fa u_bd u_nc b_nl u_co b_op b_ar u_le b_pi b_pa u_pd u_od b_ws b_hw u_la b_se b_re u_bk u_va u_su u_ce u_ho u_wy u_bt u_ps b_pt u_tg u_sn b_ip u_ic b_ah b_be b_me u_wd b_tr b_ld u_st b_wn u_id)), (b_ro, (arI G 5740 v_ro)), (b_se, (arJ G 13 v_se)), (b_re, (arJ G 400 v_re)), (b_pt, (arI G 200 v_pt))], rfl, ⟨(-1), 0, u_la, u_bk, u_va, u_su, u_ce, u_ho, u_wy, u_bt, u_ps, u_tg, u_sn, v_se, v_re, v_pt, h_u_la, h_u_bk, h_u_ce, h_u_ho, h_u_wy, h_u_bt, h_u_ps, r_pt, rfl, rfl⟩, by rw [ht]; exact hP.sub [0, 1, 2, 3, 4] rfl, hD.sub [0, 1, 2, 3, 4] (by decide +kernel) rfl⟩, hS.F ht⟩) hS.2.2 dX12_look_15
theorem dgX12_point_0 : ∀ r ∈ ([(0, (.aload_n 0, 1)), (1, (.iconst 0, 1)), (2, (.putfield 107, 3)), (5, (.iload_n 1, 1)), (6, (.iload_n 2, 1)), (7, (.iload_n 3, 1)), (8, (.invokestatic 397, 3)), (11, (.ifCond .ne 5, 3)), (14, (.iconst (-1), 1)), (15, (.ireturn, 1)), (16, (.aload_n 0, 1)), (17, (.iload_n 1, 1)), (18, (.iload_n 2, 1)), (19, (.iload_n 3, 1)), (20, (.iconst 0, 1)), (21, (.invokevirtual 401, 3)), (24, (.iload 4, 2)), (26, (.i2l, 1)), (27, (.lconst 0, 1)), (28, (.aload_n 0, 1)), (29, (.getfield 358, 3)), (32, (.i2l, 1)), (33, (.lconst 1, 1)), (34, (.lsub, 1)), (35, (.invokestatic 121, 3)), (38, (.ifCond .eq 13, 3)), (41, (.aload_n 0, 1)), (42, (.getfield 82, 3)), (45, (.iload 4, 2)), (47, (.iaload, 1)), (48, (.goto 4, 3)), (51, (.iconst (-1), 1)), (52, (.ireturn, 1))] : List (Nat × (Instr × Nat))), decode cX12_point r.1 = .ok r.2 := by decide +kernel
theorem dX12_point_0 : decode cX12_point 0 = .ok (.aload_n 0, 1) := dgX12_point_0 (0, (.aload_n 0, 1)) (List.mem_of_getElem? (i := 0) rfl)
theorem dX12_point_1 : decode cX12_point 1 = .ok (.iconst 0, 1) := dgX12_point_0 (1, (.iconst 0, 1)) (List.mem_of_getElem? (i := 1) rfl)
theorem dX12_point_2 : decode cX12_point 2 = .ok (.putfield 107, 3) := dgX12_point_0 (2, (.putfield 107, 3)) (List.mem_of_getElem? (i := 2) rfl)
theorem dX12_point_5 : decode cX12_point 5 = .ok (.iload_n 1, 1) := dgX12_point_0 (5, (.iload_n 1, 1)) (List.mem_of_getElem? (i := 3) rfl)
theorem dX12_point_6 : decode cX12_point 6 = .ok (.iload_n 2, 1) := dgX12_point_0 (6, (.iload_n 2, 1)) (List.mem_of_getElem? (i := 4) rfl)
theorem dX12_point_7 : decode cX12_point 7 = .ok (.iload_n 3, 1) := dgX12_point_0 (7, (.iload_n 3, 1)) (List.mem_of_getElem? (i := 5) rfl)
theorem dX12_point_8 : decode cX12_point 8 = .ok (.invokestatic 397, 3) := dgX12_point_0 (8, (.invokestatic 397, 3)) (List.mem_of_getElem? (i := 6) rfl)
theorem dX12_point_11 : decode cX12_point 11 = .ok (.ifCond .ne 5, 3) := dgX12_point_0 (11, (.ifCond .ne 5, 3)) (List.mem_of_getElem? (i := 7) rfl)
theorem dX12_point_14 : decode cX12_point 14 = .ok (.iconst (-1), 1) := dgX12_point_0 (14, (.iconst (-1), 1)) (List.mem_of_getElem? (i := 8) rfl)
theorem dX12_point_15 : decode cX12_point 15 = .ok (.ireturn, 1) := dgX12_point_0 (15, (.ireturn, 1)) (List.mem_of_getElem? (i := 9) rfl)
theorem dX12_point_16 : decode cX12_point 16 = .ok (.aload_n 0, 1) := dgX12_point_0 (16, (.aload_n 0, 1)) (List.mem_of_getElem? (i := 10) rfl)
theorem dX12_point_17 : decode cX12_point 17 = .ok (.iload_n 1, 1) := dgX12_point_0 (17, (.iload_n 1, 1)) (List.mem_of_getElem? (i := 11) rfl)
theorem dX12_point_18 : decode cX12_point 18 = .ok (.iload_n 2, 1) := dgX12_point_0 (18, (.iload_n 2, 1)) (List.mem_of_getElem? (i := 12) rfl)
theorem dX12_point_19 : decode cX12_point 19 = .ok (.iload_n 3, 1) := dgX12_point_0 (19, (.iload_n 3, 1)) (List.mem_of_getElem? (i := 13) rfl)
theorem dX12_point_20 : decode cX12_point 20 = .ok (.iconst 0, 1) := dgX12_point_0 (20, (.iconst 0, 1)) (List.mem_of_getElem? (i := 14) rfl)
theorem dX12_point_21 : decode cX12_point 21 = .ok (.invokevirtual 401, 3) := dgX12_point_0 (21, (.invokevirtual 401, 3)) (List.mem_of_getElem? (i := 15) rfl)
theorem dX12_point_24 : decode cX12_point 24 = .ok (.iload 4, 2) := dgX12_point_0 (24, (.iload 4, 2)) (List.mem_of_getElem? (i := 16) rfl)
theorem dX12_point_26 : decode cX12_point 26 = .ok (.i2l, 1) := dgX12_point_0 (26, (.i2l, 1)) (List.mem_of_getElem? (i := 17) rfl)
theorem dX12_point_27 : decode cX12_point 27 = .ok (.lconst 0, 1) := dgX12_point_0 (27, (.lconst 0, 1)) (List.mem_of_getElem? (i := 18) rfl)
theorem dX12_point_28 : decode cX12_point 28 = .ok (.aload_n 0, 1) := dgX12_point_0 (28, (.aload_n 0, 1)) (List.mem_of_getElem? (i := 19) rfl)
theorem dX12_point_29 : decode cX12_point 29 = .ok (.getfield 358, 3) := dgX12_point_0 (29, (.getfield 358, 3)) (List.mem_of_getElem? (i := 20) rfl)
theorem dX12_point_32 : decode cX12_point 32 = .ok (.i2l, 1) := dgX12_point_0 (32, (.i2l, 1)) (List.mem_of_getElem? (i := 21) rfl)
theorem dX12_point_33 : decode cX12_point 33 = .ok (.lconst 1, 1) := dgX12_point_0 (33, (.lconst 1, 1)) (List.mem_of_getElem? (i := 22) rfl)
theorem dX12_point_34 : decode cX12_point 34 = .ok (.lsub, 1) := dgX12_point_0 (34, (.lsub, 1)) (List.mem_of_getElem? (i := 23) rfl)
theorem dX12_point_35 : decode cX12_point 35 = .ok (.invokestatic 121, 3) := dgX12_point_0 (35, (.invokestatic 121, 3)) (List.mem_of_getElem? (i := 24) rfl)
theorem dX12_point_38 : decode cX12_point 38 = .ok (.ifCond .eq 13, 3) := dgX12_point_0 (38, (.ifCond .eq 13, 3)) (List.mem_of_getElem? (i := 25) rfl)
theorem dX12_point_41 : decode cX12_point 41 = .ok (.aload_n 0, 1) := dgX12_point_0 (41, (.aload_n 0, 1)) (List.mem_of_getElem? (i := 26) rfl)
theorem dX12_point_42 : decode cX12_point 42 = .ok (.getfield 82, 3) := dgX12_point_0 (42, (.getfield 82, 3)) (List.mem_of_getElem? (i := 27) rfl)
theorem dX12_point_45 : decode cX12_point 45 = .ok (.iload 4, 2) := dgX12_point_0 (45, (.iload 4, 2)) (List.mem_of_getElem? (i := 28) rfl)
theorem dX12_point_47 : decode cX12_point 47 = .ok (.iaload, 1) := dgX12_point_0 (47, (.iaload, 1)) (List.mem_of_getElem? (i := 29) rfl)
theorem dX12_point_48 : decode cX12_point 48 = .ok (.goto 4, 3) := dgX12_point_0 (48, (.goto 4, 3)) (List.mem_of_getElem? (i := 30) rfl)
theorem dX12_point_51 : decode cX12_point 51 = .ok (.iconst (-1), 1) := dgX12_point_0 (51, (.iconst (-1), 1)) (List.mem_of_getElem? (i := 31) rfl)
theorem dX12_point_52 : decode cX12_point 52 = .ok (.ireturn, 1) := dgX12_point_0 (52, (.ireturn, 1)) (List.mem_of_getElem? (i := 32) rfl)
set_option maxHeartbeats 4000000 in
set_option maxRecDepth 100000 in
theorem n_point (l : Launch) (G : g5_G) (b_o b_ro b_se b_re b_pt b_rf b_im b_ke b_tp b_nl b_op b_ar b_pi b_pa b_ws b_hw b_ip b_ah b_be b_me b_tr b_ld b_wn : Nat) (sz : Nat) (u_th : Int32) (u_sa : Int32) (u_fd : Int32) (u_td : Int32) (u_fr : Int32) (u_to : Int32) (u_so : Int32) (u_fa : Int32) (u_bd : Int32) (u_nc : Int32) (u_co : Int32) (u_le : Int32) (u_pd : Int32) (u_od : Int32) (u_la : Int32) (u_bk : Int32) (u_ce : Int32) (u_ho : Int32) (u_wy : Int32) (u_bt : Int32) (u_ps : Int32) (u_tg : Int32) (u_sn : Int32) (u_ic : Int32) (u_wd : Int32) (u_id : Int32) (p_1 : Int32) (p_2 : Int32) (p_3 : Int32) (p_4 : Int32) (u_wo : Int64) (u_va : Int64) (u_su : Int64) (u_st : Int64) (v_ro : Nat → Int32) (v_se : Nat → Int64) (v_re : Nat → Int64) (v_pt : Nat → Int32) (h_u_td : 0 ≤ u_td.toInt ∧ u_td.toInt ≤ 400) (h_u_fr : 0 ≤ u_fr.toInt ∧ u_fr.toInt ≤ 400) (h_u_to : 0 ≤ u_to.toInt ∧ u_to.toInt ≤ 400) (h_u_bd : 0 ≤ u_bd.toInt ∧ u_bd.toInt ≤ 1) (h_u_nc : 0 ≤ u_nc.toInt ∧ u_nc.toInt ≤ 12) (h_u_co : 0 ≤ u_co.toInt ∧ u_co.toInt ≤ 400) (h_u_pd : 0 ≤ u_pd.toInt ∧ u_pd.toInt ≤ 400) (h_u_la : 0 ≤ u_la.toInt ∧ u_la.toInt ≤ 4840) (h_u_bk : 0 ≤ u_bk.toInt ∧ u_bk.toInt ≤ 1) (h_u_ce : 0 ≤ u_ce.toInt ∧ u_ce.toInt ≤ 63) (h_u_ho : 0 ≤ u_ho.toInt ∧ u_ho.toInt ≤ 23) (h_u_wy : 0 ≤ u_wy.toInt ∧ u_wy.toInt ≤ 3) (h_u_bt : 0 ≤ u_bt.toInt ∧ u_bt.toInt ≤ 1000000) (h_u_ps : 0 ≤ u_ps.toInt ∧ u_ps.toInt ≤ 200) (h_u_ic : 0 ≤ u_ic.toInt ∧ u_ic.toInt ≤ 1) (h_u_id : 0 ≤ u_id.toInt ∧ u_id.toInt ≤ 1) (r_ro : MI v_ro) (r_pt : PTI v_pt) : Met l yX12_point (wsG yX12_point cX12_point 5 (some .int)) ({ frames := 7, cells := 0, slots := 0, locals := 176 }) (va_Pc [.ref b_o, .int p_1, .int p_2, .int p_3, .int p_4] (g5_P G [(b_o, (oc12 u_th u_sa b_rf b_ro b_im b_ke u_fd b_tp u_td u_fr u_to u_so u_wo u_fa u_bd u_nc b_nl u_co b_op b_ar u_le b_pi b_pa u_pd u_od b_ws b_hw u_la b_se b_re u_bk u_va u_su u_ce u_ho u_wy u_bt u_ps b_pt u_tg u_sn b_ip u_ic b_ah b_be b_me u_wd b_tr b_ld u_st b_wn u_id)), (b_ro, (arI G 5740 v_ro)), (b_se, (arJ G 13 v_se)), (b_re, (arJ G 400 v_re)), (b_pt, (arI G 200 v_pt))] sz)) (va_Qi (fun (r : Int32) (u : va_W) => (∃ (o_r : Int32) (o_th : Int32) (o_la : Int32) (o_bk : Int32) (o_va : Int64) (o_su : Int64) (o_ce : Int32) (o_ho : Int32) (o_wy : Int32) (o_bt : Int32) (o_ps : Int32) (o_tg : Int32) (o_sn : Int32) (o_se : Nat → Int64) (o_re : Nat → Int64) (o_pt : Nat → Int32), (0 ≤ o_la.toInt ∧ o_la.toInt ≤ 4840) ∧ (0 ≤ o_bk.toInt ∧ o_bk.toInt ≤ 1) ∧ (0 ≤ o_ce.toInt ∧ o_ce.toInt ≤ 63) ∧ (0 ≤ o_ho.toInt ∧ o_ho.toInt ≤ 23) ∧ (0 ≤ o_wy.toInt ∧ o_wy.toInt ≤ 3) ∧ (0 ≤ o_bt.toInt ∧ o_bt.toInt ≤ 1000000) ∧ (0 ≤ o_ps.toInt ∧ o_ps.toInt ≤ 200) ∧ (PTI o_pt) ∧ (r = o_r) ∧ (u = [(b_o, (oc12 o_th u_sa b_rf b_ro b_im b_ke u_fd b_tp u_td u_fr u_to u_so u_wo u_fa u_bd u_nc b_nl u_co b_op b_ar u_le b_pi b_pa u_pd u_od b_ws b_hw o_la b_se b_re o_bk o_va o_su o_ce o_ho o_wy o_bt o_ps b_pt o_tg o_sn b_ip u_ic b_ah b_be b_me u_wd b_tr b_ld u_st b_wn u_id)), (b_ro, (arI G 5740 v_ro)), (b_se, (arJ G 13 o_se)), (b_re, (arJ G 400 o_re)), (b_pt, (arI G 200 o_pt))]))) (g5_B G (va_A [(b_o, (oc12 u_th u_sa b_rf b_ro b_im b_ke u_fd b_tp u_td u_fr u_to u_so u_wo u_fa u_bd u_nc b_nl u_co b_op b_ar u_le b_pi b_pa u_pd u_od b_ws b_hw u_la b_se b_re u_bk u_va u_su u_ce u_ho u_wy u_bt u_ps b_pt u_tg u_sn b_ip u_ic b_ah b_be b_me u_wd b_tr b_ld u_st b_wn u_id)), (b_ro, (arI G 5740 v_ro)), (b_se, (arJ G 13 v_se)), (b_re, (arJ G 400 v_re)), (b_pt, (arI G 200 v_pt))] sz)) (va_A [(b_o, (oc12 u_th u_sa b_rf b_ro b_im b_ke u_fd b_tp u_td u_fr u_to u_so u_wo u_fa u_bd u_nc b_nl u_co b_op b_ar u_le b_pi b_pa u_pd u_od b_ws b_hw u_la b_se b_re u_bk u_va u_su u_ce u_ho u_wy u_bt u_ps b_pt u_tg u_sn b_ip u_ic b_ah b_be b_me u_wd b_tr b_ld u_st b_wn u_id)), (b_ro, (arI G 5740 v_ro)), (b_se, (arJ G 13 v_se)), (b_re, (arJ G 400 v_re)), (b_pt, (arI G 200 v_pt))] sz)) 0 0 (va_A [(b_o, (oc12 u_th u_sa b_rf b_ro b_im b_ke u_fd b_tp u_td u_fr u_to u_so u_wo u_fa u_bd u_nc b_nl u_co b_op b_ar u_le b_pi b_pa u_pd u_od b_ws b_hw u_la b_se b_re u_bk u_va u_su u_ce u_ho u_wy u_bt u_ps b_pt u_tg u_sn b_ip u_ic b_ah b_be b_me u_wd b_tr b_ld u_st b_wn u_id)), (b_ro, (arI G 5740 v_ro)), (b_se, (arJ G 13 v_se)), (b_re, (arJ G 400 v_re)), (b_pt, (arI G 200 v_pt))] sz) := by
  refine Met.ofW (cc := cX12_point) (maxL := 5) (ret := (some .int)) (by decide +kernel) rfl ?_
  intro p e s m args below meth c s₁ B hml hv
  obtain ⟨rfl, hsz, hP, hK, hD0, hN, hT⟩ := hv
  have hx := B.exec
  have hb := B.bytes
  have hr := B.returns
  have hts : ∀ w ∈ tblG, w.before _ s = true := fun w h => atoms_spec (ws := (wsG yX12_point cX12_point 5 (some .int))) B.pre w (List.mem_cons_of_mem _ h)
  have hown : s.vm.findClass RX12 = some m.cls := findClass_of_methodNamed B.named
  have hlocks := B.notSynchronized
  subst hsz
  have hD := hD0.self (sz := s.heap.size)
  generalize hAe : va_A [(b_o, (oc12 u_th u_sa b_rf b_ro b_im b_ke u_fd b_tp u_td u_fr u_to u_so u_wo u_fa u_bd u_nc b_nl u_co b_op b_ar u_le b_pi b_pa u_pd u_od b_ws b_hw u_la b_se b_re u_bk u_va u_su u_ce u_ho u_wy u_bt u_ps b_pt u_tg u_sn b_ip u_ic b_ah b_be b_me u_wd b_tr b_ld u_st b_wn u_id)), (b_ro, (arI G 5740 v_ro)), (b_se, (arJ G 13 v_se)), (b_re, (arJ G 400 v_re)), (b_pt, (arI G 200 v_pt))] s.heap.size = A at hD hT ⊢
  have hA : ∀ q : Nat, s.heap.size ≤ q → A q := fun q h => by rw [← hAe]; exact Or.inr h
  have hS : va_S A s.heap s.heap [] := va_S.rf
  replace hP : va_P G.1 vwCl [(b_o, (oc12 u_th u_sa b_rf b_ro b_im b_ke u_fd b_tp u_td u_fr u_to u_so u_wo u_fa u_bd u_nc b_nl u_co b_op b_ar u_le b_pi b_pa u_pd u_od b_ws b_hw u_la b_se b_re u_bk u_va u_su u_ce u_ho u_wy u_bt u_ps b_pt u_tg u_sn b_ip u_ic b_ah b_be b_me u_wd b_tr b_ld u_st b_wn u_id)), (b_ro, (arI G 5740 v_ro)), (b_se, (arJ G 13 v_se)), (b_re, (arJ G 400 v_re)), (b_pt, (arI G 200 v_pt))] s.heap := hP
  have hl := lv_entry ([.ref b_o, .int p_1, .int p_2, .int p_3, .int p_4]) (n := 5) (Nat.le_of_ble_eq_true rfl)
  rw [lg_entry_eq]
  generalize (lg_sl ([.ref b_o, .int p_1, .int p_2, .int p_3, .int p_4]) ++ List.replicate (5 - (lg_sl ([.ref b_o, .int p_1, .int p_2, .int p_3, .int p_4])).length) Slot.unset).toArray = ls at hl ⊢
  replace hl : lv_has ls 5 [(0, .ref b_o), (1, .int p_1), (2, .int p_2), (3, .int p_3), (4, .int p_4)] := hl
  refine lv_aload_n hx hb dX12_point_0 rfl (lv_at hl 0 rfl) ?_
  refine lv_iconst (v := 0) hx hb dX12_point_1 (by decide +kernel) ?_
  refine va_put (D := G.1) (ci := 12) (v := .int 0) (ty := .int) (C := RX12) (T := TX12) (N := 52) hx hb hts inG_X12 tyX12 tyX12_ok nmX12 hown hK hP hD hS 0 rfl rfl 0 (by decide +kernel) (hts _ fl_X12_107) (fun _ h9 => h9) rfl (by decide +kernel) rfl rfl (Nat.le_of_ble_eq_true rfl) dX12_point_2 ?_
  clear hP hD hS
  intro H locs hP hD hS
  refine g5_rs [(b_o, (oc12 0 u_sa b_rf b_ro b_im b_ke u_fd b_tp u_td u_fr u_to u_so u_wo u_fa u_bd u_nc b_nl u_co b_op b_ar u_le b_pi b_pa u_pd u_od b_ws b_hw u_la b_se b_re u_bk u_va u_su u_ce u_ho u_wy u_bt u_ps b_pt u_tg u_sn b_ip u_ic b_ah b_be b_me u_wd b_tr b_ld u_st b_wn u_id)), (b_ro, (arI G 5740 v_ro)), (b_se, (arJ G 13 v_se)), (b_re, (arJ G 400 v_re)), (b_pt, (arI G 200 v_pt))] hP hD ?_
  clear hP hD
  intro hP hD
  refine lv_iload_n hx hb dX12_point_5 rfl (lv_at hl 1 rfl) ?_
  refine W.eq (g2 := F0 m 6 ls [.int p_1]) rfl ?_
  refine lv_iload_n hx hb dX12_point_6 rfl (lv_at hl 2 rfl) ?_
  refine lv_iload_n hx hb dX12_point_7 rfl (lv_at hl 3 rfl) ?_
  obtain ⟨hPc, hDc, hFc⟩ := g5_sub3 (wc := []) hP hD hS hA [] (by decide +kernel) rfl
  refine va_calli (va_runS (As := [.int p_1, .int p_2, .int p_3]) (rest := []) ⟨hx, hb, hml, hown, hts⟩ (n_isLook l G H.size p_1 p_2 p_3) (va_cwS 3 hts gS_X12_397 rfl rfl rfl hs_X12_isLook ⟨Nat.le_of_ble_eq_true rfl, Nat.le_of_ble_eq_true rfl⟩) (g5_preS hPc hK hDc hN hT hS hFc) rfl rfl hl.1 rfl (lv_room (Nat.le_of_ble_eq_true rfl)) dX12_point_8 ⟨Nat.le_of_ble_eq_true rfl, Nat.le_of_ble_eq_true rfl⟩) hS (fun q _ h => hFc q h) hFc (fun r u t H locs ht hvm hw hB hz1 hk1 hS => ?_)
  obtain ⟨hP1, hD1⟩ := hB
  have hP1 := g5_ht ht hP1
  rcases hw with ⟨(i_1 : 0 ≤ p_1.toInt ∧ p_1.toInt ≤ 63), (i_2 : 0 ≤ p_2.toInt ∧ p_2.toInt ≤ 3), (i_3 : 0 ≤ p_3.toInt ∧ p_3.toInt ≤ 23), rfl, rfl⟩ | ⟨rfl, rfl⟩
  ·
    have hJ9 := g5_same hP hk1
    clear hP hPc hDc hFc ht hvm hz1 hk1 hP1 hD1
    have hP := hJ9
    clear hJ9
    refine lv_if_ne (tgt := 16) hx hb dX12_point_11 (by decide +kernel) (fun c_4 => ?_) (fun c_4 => ?_)
    ·
      refine lv_aload_n hx hb dX12_point_16 rfl (lv_at hl 0 rfl) ?_
      refine lv_iload_n hx hb dX12_point_17 rfl (lv_at hl 1 rfl) ?_
      refine lv_iload_n hx hb dX12_point_18 rfl (lv_at hl 2 rfl) ?_
      refine lv_iload_n hx hb dX12_point_19 rfl (lv_at hl 3 rfl) ?_
      refine W.eq (g2 := F0 m 20 ls [.int p_3, .int p_2, .int p_1, .ref b_o]) rfl ?_
      refine lv_iconst (v := 0) hx hb dX12_point_20 (by decide +kernel) ?_
      obtain ⟨hPc, hDc, hFc⟩ := g5_sub3 (wc := [(b_o, (oc12 0 u_sa b_rf b_ro b_im b_ke u_fd b_tp u_td u_fr u_to u_so u_wo u_fa u_bd u_nc b_nl u_co b_op b_ar u_le b_pi b_pa u_pd u_od b_ws b_hw u_la b_se b_re u_bk u_va u_su u_ce u_ho u_wy u_bt u_ps b_pt u_tg u_sn b_ip u_ic b_ah b_be b_me u_wd b_tr b_ld u_st b_wn u_id)), (b_ro, (arI G 5740 v_ro)), (b_se, (arJ G 13 v_se)), (b_re, (arJ G 400 v_re)), (b_pt, (arI G 200 v_pt))]) hP hD hS hA [0, 1, 2, 3, 4] (by decide +kernel) rfl
      refine va_callv (va_runV (As := [.int p_1, .int p_2, .int p_3, .int 0]) (rest := []) ⟨hx, hb, hml, hown, hts⟩ (n_go l G b_o b_ro b_se b_re b_pt b_rf b_im b_ke b_tp b_nl b_op b_ar b_pi b_pa b_ws b_hw b_ip b_ah b_be b_me b_tr b_ld b_wn H.size 0 u_sa u_fd u_td u_fr u_to u_so u_fa u_bd u_nc u_co u_le u_pd u_od u_la u_bk u_ce u_ho u_wy u_bt u_ps u_tg u_sn u_ic u_wd u_id p_1 p_2 p_3 0 u_wo u_va u_su u_st v_ro v_se v_re v_pt h_u_td h_u_fr h_u_to h_u_bd h_u_nc h_u_co h_u_pd h_u_la h_u_bk h_u_ce h_u_ho h_u_wy h_u_bt h_u_ps h_u_ic h_u_id i_1 i_2 i_3 (r_ro) (r_pt)) (cwV 4 hts gV_X12_401 rfl rfl rfl hv_X12_go ⟨Nat.le_of_ble_eq_true rfl, Nat.le_of_ble_eq_true rfl⟩) (g5_preV hPc hK hDc hN hT hS hFc (ci := 12) (q0 := 0) rfl rfl) rfl rfl hl.1 rfl (lv_room (Nat.le_of_ble_eq_true rfl)) dX12_point_21 ⟨Nat.le_of_ble_eq_true rfl, Nat.le_of_ble_eq_true rfl⟩) hS (fun q _ h => hFc q h) hFc (fun u t H locs ht hvm hw hB hz1 hk1 hS => ?_)
      obtain ⟨hP1, hD1⟩ := hB
      have hP1 := g5_ht ht hP1
      obtain ⟨z13, z14, z15, z16, z17, z18, z19, z20, z21, z22, z23, z24, z25, z26, (i_5 : 0 ≤ z13.toInt ∧ z13.toInt ≤ 4840), (i_6 : 0 ≤ z14.toInt ∧ z14.toInt ≤ 1), (i_7 : 0 ≤ z17.toInt ∧ z17.toInt ≤ 63), (i_8 : 0 ≤ z18.toInt ∧ z18.toInt ≤ 23), (i_9 : 0 ≤ z19.toInt ∧ z19.toInt ≤ 3), (i_10 : 0 ≤ z20.toInt ∧ z20.toInt ≤ 1000000), (i_11 : 0 ≤ z21.toInt ∧ z21.toInt ≤ 200), (i_12 : PTI z26), rfl⟩ := hw
      have hJ9 := va_join (wr := []) hP hD [0, 1, 2, 3, 4] [] rfl rfl (by decide +kernel) (by decide +kernel) hk1 hFc hP1 hD1
      clear hP hD hPc hDc hFc ht hvm hz1 hk1 hP1 hD1
      obtain ⟨hP, hD⟩ := hJ9
      refine g5_rs [(b_o, (oc12 0 u_sa b_rf b_ro b_im b_ke u_fd b_tp u_td u_fr u_to u_so u_wo u_fa u_bd u_nc b_nl u_co b_op b_ar u_le b_pi b_pa u_pd u_od b_ws b_hw z13 b_se b_re z14 z15 z16 z17 z18 z19 z20 z21 b_pt z22 z23 b_ip u_ic b_ah b_be b_me u_wd b_tr b_ld u_st b_wn u_id)), (b_ro, (arI G 5740 v_ro)), (b_se, (arJ G 13 z24)), (b_re, (arJ G 400 z25)), (b_pt, (arI G 200 z26))] hP hD ?_
      clear hP hD
      intro hP hD
      refine lv_iload hx hb dX12_point_24 (lv_at hl 4 rfl) ?_
      refine lv_i2l (v := p_4.toInt64) hx hb dX12_point_26 rfl ?_
      refine lv_lconst (v := 0) hx hb dX12_point_27 (by decide +kernel) ?_
      refine W.eq (g2 := F0 m 28 ls [.long 0, .long p_4.toInt64]) rfl ?_
      refine lv_aload_n hx hb dX12_point_28 rfl (lv_at hl 0 rfl) ?_
      refine va_get (D := G.1) (ci := 12) (v := .int z21) (C := RX12) (T := TX12) (N := 52) hx hb hts inG_X12 hown hK hP 0 rfl rfl 37 (by decide +kernel) (hts _ fl_X12_358) (fun _ h9 => h9) rfl dX12_point_29 ?_
      refine lv_i2l (v := z21.toInt64) hx hb dX12_point_32 rfl ?_
      refine lv_lconst (v := 1) hx hb dX12_point_33 (by decide +kernel) ?_
      refine lv_lsub hx hb dX12_point_34 ?_
      refine W.eq (g2 := F0 m 35 ls [.long (z21.toInt64 - 1), .long 0, .long p_4.toInt64]) rfl ?_
      obtain ⟨hPc, hDc, hFc⟩ := g5_sub3 (wc := []) hP hD hS hA [] (by decide +kernel) rfl
      refine va_calli (va_runS (As := [.long p_4.toInt64, .long 0, .long (z21.toInt64 - 1)]) (rest := []) ⟨hx, hb, hml, hown, hts⟩ (n_in_n l G H.size p_4 z21 ⟨by omega, by omega⟩) (va_cwS 3 hts gS_X12_121 rfl rfl rfl hs_X12_in ⟨Nat.le_of_ble_eq_true rfl, Nat.le_of_ble_eq_true rfl⟩) (g5_preS hPc hK hDc hN hT hS hFc) rfl rfl hl.1 rfl (lv_room (Nat.le_of_ble_eq_true rfl)) dX12_point_35 ⟨Nat.le_of_ble_eq_true rfl, Nat.le_of_ble_eq_true rfl⟩) hS (fun q _ h => hFc q h) hFc (fun r u t H locs ht hvm hw hB hz1 hk1 hS => ?_)
      obtain ⟨hP1, hD1⟩ := hB
      have hP1 := g5_ht ht hP1
      rcases hw with ⟨(i_27 : p_4.toInt < 0 ∨ z21.toInt ≤ p_4.toInt), rfl, rfl⟩ | ⟨(i_28 : 0 ≤ p_4.toInt ∧ p_4.toInt < z21.toInt), rfl, rfl⟩
      ·
        have hJ9 := g5_same hP hk1
        clear hP hPc hDc hFc ht hvm hz1 hk1 hP1 hD1
        have hP := hJ9
        clear hJ9
        refine lv_if_eq (tgt := 51) hx hb dX12_point_38 (by decide +kernel) (fun c_29 => ?_) (fun c_29 => ?_)
        ·
          refine lv_iconst (v := (-1)) hx hb dX12_point_51 (by decide +kernel) ?_
          exact W.iret (v := (-1)) hx hb hr (fun t ht hW => ⟨⟨(-1), [(b_o, (oc12 0 u_sa b_rf b_ro b_im b_ke u_fd b_tp u_td u_fr u_to u_so u_wo u_fa u_bd u_nc b_nl u_co b_op b_ar u_le b_pi b_pa u_pd u_od b_ws b_hw z13 b_se b_re z14 z15 z16 z17 z18 z19 z20 z21 b_pt z22 z23 b_ip u_ic b_ah b_be b_me u_wd b_tr b_ld u_st b_wn u_id)), (b_ro, (arI G 5740 v_ro)), (b_se, (arJ G 13 z24)), (b_re, (arJ G 400 z25)), (b_pt, (arI G 200 z26))], rfl, ⟨(-1), 0, z13, z14, z15, z16, z17, z18, z19, z20, z21, z22, z23, z24, z25, z26, i_5, i_6, i_7, i_8, i_9, i_10, i_11, i_12, rfl, rfl⟩, by rw [ht]; exact hP.sub [0, 1, 2, 3, 4] rfl, hD.sub [0, 1, 2, 3, 4] (by decide +kernel) rfl⟩, hS.F ht⟩) hS.2.2 dX12_point_52
        ·
          exact absurd c_29 (by decide +kernel)
      ·
        have hJ9 := g5_same hP hk1
        clear hP hPc hDc hFc ht hvm hz1 hk1 hP1 hD1
        have hP := hJ9
        clear hJ9
        refine lv_if_eq (tgt := 51) hx hb dX12_point_38 (by decide +kernel) (fun c_30 => ?_) (fun c_30 => ?_)
        ·
          exact absurd c_30 (by decide +kernel)
        ·
          refine lv_aload_n hx hb dX12_point_41 rfl (lv_at hl 0 rfl) ?_
          refine va_get (D := G.1) (ci := 12) (v := .ref b_pt) (C := RX12) (T := TX12) (N := 52) hx hb hts inG_X12 hown hK hP 0 rfl rfl 38 (by decide +kernel) (hts _ fl_X12_82) (fun _ h9 => h9) rfl dX12_point_42 ?_
          refine lv_iload hx hb dX12_point_45 (lv_at hl 4 rfl) ?_
          refine va_iald hx hb hK hP 4 0 rfl rfl (i := p_4) (vp_in_iff.mpr ⟨by omega, by omega⟩) dX12_point_47 ?_
          have hr_31 : 0 ≤ (z26 p_4.toNatClampNeg).toInt ∧ (z26 p_4.toNatClampNeg).toInt ≤ 1535 := i_12 (p_4.toNatClampNeg)
          refine W.eq (g2 := F0 m 48 ls [.int (z26 p_4.toNatClampNeg)]) rfl ?_
          refine lv_goto (tgt := 52) hx hb dX12_point_48 (by decide +kernel) ?_
          exact W.iret (v := (z26 p_4.toNatClampNeg)) hx hb hr (fun t ht hW => ⟨⟨(z26 p_4.toNatClampNeg), [(b_o, (oc12 0 u_sa b_rf b_ro b_im b_ke u_fd b_tp u_td u_fr u_to u_so u_wo u_fa u_bd u_nc b_nl u_co b_op b_ar u_le b_pi b_pa u_pd u_od b_ws b_hw z13 b_se b_re z14 z15 z16 z17 z18 z19 z20 z21 b_pt z22 z23 b_ip u_ic b_ah b_be b_me u_wd b_tr b_ld u_st b_wn u_id)), (b_ro, (arI G 5740 v_ro)), (b_se, (arJ G 13 z24)), (b_re, (arJ G 400 z25)), (b_pt, (arI G 200 z26))], rfl, ⟨(z26 p_4.toNatClampNeg), 0, z13, z14, z15, z16, z17, z18, z19, z20, z21, z22, z23, z24, z25, z26, i_5, i_6, i_7, i_8, i_9, i_10, i_11, i_12, rfl, rfl⟩, by rw [ht]; exact hP.sub [0, 1, 2, 3, 4] rfl, hD.sub [0, 1, 2, 3, 4] (by decide +kernel) rfl⟩, hS.F ht⟩) hS.2.2 dX12_point_52
    ·
      exact absurd c_4 (by decide +kernel)
  ·
    have hJ9 := g5_same hP hk1
    clear hP hPc hDc hFc ht hvm hz1 hk1 hP1 hD1
    have hP := hJ9
    clear hJ9
    refine lv_if_ne (tgt := 16) hx hb dX12_point_11 (by decide +kernel) (fun c_32 => ?_) (fun c_32 => ?_)
    ·
      exact absurd c_32 (by decide +kernel)
    ·
      refine lv_iconst (v := (-1)) hx hb dX12_point_14 (by decide +kernel) ?_
      exact W.iret (v := (-1)) hx hb hr (fun t ht hW => ⟨⟨(-1), [(b_o, (oc12 0 u_sa b_rf b_ro b_im b_ke u_fd b_tp u_td u_fr u_to u_so u_wo u_fa u_bd u_nc b_nl u_co b_op b_ar u_le b_pi b_pa u_pd u_od b_ws b_hw u_la b_se b_re u_bk u_va u_su u_ce u_ho u_wy u_bt u_ps b_pt u_tg u_sn b_ip u_ic b_ah b_be b_me u_wd b_tr b_ld u_st b_wn u_id)), (b_ro, (arI G 5740 v_ro)), (b_se, (arJ G 13 v_se)), (b_re, (arJ G 400 v_re)), (b_pt, (arI G 200 v_pt))], rfl, ⟨(-1), 0, u_la, u_bk, u_va, u_su, u_ce, u_ho, u_wy, u_bt, u_ps, u_tg, u_sn, v_se, v_re, v_pt, h_u_la, h_u_bk, h_u_ce, h_u_ho, h_u_wy, h_u_bt, h_u_ps, r_pt, rfl, rfl⟩, by rw [ht]; exact hP.sub [0, 1, 2, 3, 4] rfl, hD.sub [0, 1, 2, 3, 4] (by decide +kernel) rfl⟩, hS.F ht⟩) hS.2.2 dX12_point_15
theorem dgX12_seenFrom_0 : ∀ r ∈ ([(0, (.iconst 0, 1)), (1, (.istore_n 3, 1)), (2, (.iconst 0, 1)), (3, (.istore 4, 2)), (5, (.iload 4, 2)), (7, (.iconst 4, 1)), (8, (.if_icmp .ge 39, 3)), (11, (.aload_n 0, 1)), (12, (.iload_n 1, 1)), (13, (.iload 4, 2)), (15, (.iload_n 2, 1)), (16, (.iconst 0, 1)), (17, (.invokevirtual 401, 3)), (20, (.iload_n 3, 1)), (21, (.aload_n 0, 1)), (22, (.getfield 371, 3)), (25, (.iconst (-1), 1)), (26, (.if_icmp .ne 7, 3)), (29, (.iconst 0, 1)), (30, (.goto 9, 3)), (33, (.iconst 1, 1)), (34, (.aload_n 0, 1)), (35, (.getfield 371, 3)), (38, (.ishl, 1)), (39, (.ior, 1)), (40, (.istore_n 3, 1)), (41, (.iinc 4 1, 3)), (44, (.goto (-39), 3)), (47, (.iload_n 3, 1)), (48, (.ireturn, 1))] : List (Nat × (Instr × Nat))), decode cX12_seenFrom r.1 = .ok r.2 := by decide +kernel
theorem dX12_seenFrom_0 : decode cX12_seenFrom 0 = .ok (.iconst 0, 1) := dgX12_seenFrom_0 (0, (.iconst 0, 1)) (List.mem_of_getElem? (i := 0) rfl)
theorem dX12_seenFrom_1 : decode cX12_seenFrom 1 = .ok (.istore_n 3, 1) := dgX12_seenFrom_0 (1, (.istore_n 3, 1)) (List.mem_of_getElem? (i := 1) rfl)
theorem dX12_seenFrom_2 : decode cX12_seenFrom 2 = .ok (.iconst 0, 1) := dgX12_seenFrom_0 (2, (.iconst 0, 1)) (List.mem_of_getElem? (i := 2) rfl)
theorem dX12_seenFrom_3 : decode cX12_seenFrom 3 = .ok (.istore 4, 2) := dgX12_seenFrom_0 (3, (.istore 4, 2)) (List.mem_of_getElem? (i := 3) rfl)
theorem dX12_seenFrom_5 : decode cX12_seenFrom 5 = .ok (.iload 4, 2) := dgX12_seenFrom_0 (5, (.iload 4, 2)) (List.mem_of_getElem? (i := 4) rfl)
theorem dX12_seenFrom_7 : decode cX12_seenFrom 7 = .ok (.iconst 4, 1) := dgX12_seenFrom_0 (7, (.iconst 4, 1)) (List.mem_of_getElem? (i := 5) rfl)
theorem dX12_seenFrom_8 : decode cX12_seenFrom 8 = .ok (.if_icmp .ge 39, 3) := dgX12_seenFrom_0 (8, (.if_icmp .ge 39, 3)) (List.mem_of_getElem? (i := 6) rfl)
theorem dX12_seenFrom_11 : decode cX12_seenFrom 11 = .ok (.aload_n 0, 1) := dgX12_seenFrom_0 (11, (.aload_n 0, 1)) (List.mem_of_getElem? (i := 7) rfl)
theorem dX12_seenFrom_12 : decode cX12_seenFrom 12 = .ok (.iload_n 1, 1) := dgX12_seenFrom_0 (12, (.iload_n 1, 1)) (List.mem_of_getElem? (i := 8) rfl)
theorem dX12_seenFrom_13 : decode cX12_seenFrom 13 = .ok (.iload 4, 2) := dgX12_seenFrom_0 (13, (.iload 4, 2)) (List.mem_of_getElem? (i := 9) rfl)
theorem dX12_seenFrom_15 : decode cX12_seenFrom 15 = .ok (.iload_n 2, 1) := dgX12_seenFrom_0 (15, (.iload_n 2, 1)) (List.mem_of_getElem? (i := 10) rfl)
theorem dX12_seenFrom_16 : decode cX12_seenFrom 16 = .ok (.iconst 0, 1) := dgX12_seenFrom_0 (16, (.iconst 0, 1)) (List.mem_of_getElem? (i := 11) rfl)
theorem dX12_seenFrom_17 : decode cX12_seenFrom 17 = .ok (.invokevirtual 401, 3) := dgX12_seenFrom_0 (17, (.invokevirtual 401, 3)) (List.mem_of_getElem? (i := 12) rfl)
theorem dX12_seenFrom_20 : decode cX12_seenFrom 20 = .ok (.iload_n 3, 1) := dgX12_seenFrom_0 (20, (.iload_n 3, 1)) (List.mem_of_getElem? (i := 13) rfl)
theorem dX12_seenFrom_21 : decode cX12_seenFrom 21 = .ok (.aload_n 0, 1) := dgX12_seenFrom_0 (21, (.aload_n 0, 1)) (List.mem_of_getElem? (i := 14) rfl)
theorem dX12_seenFrom_22 : decode cX12_seenFrom 22 = .ok (.getfield 371, 3) := dgX12_seenFrom_0 (22, (.getfield 371, 3)) (List.mem_of_getElem? (i := 15) rfl)
theorem dX12_seenFrom_25 : decode cX12_seenFrom 25 = .ok (.iconst (-1), 1) := dgX12_seenFrom_0 (25, (.iconst (-1), 1)) (List.mem_of_getElem? (i := 16) rfl)
theorem dX12_seenFrom_26 : decode cX12_seenFrom 26 = .ok (.if_icmp .ne 7, 3) := dgX12_seenFrom_0 (26, (.if_icmp .ne 7, 3)) (List.mem_of_getElem? (i := 17) rfl)
theorem dX12_seenFrom_29 : decode cX12_seenFrom 29 = .ok (.iconst 0, 1) := dgX12_seenFrom_0 (29, (.iconst 0, 1)) (List.mem_of_getElem? (i := 18) rfl)
theorem dX12_seenFrom_30 : decode cX12_seenFrom 30 = .ok (.goto 9, 3) := dgX12_seenFrom_0 (30, (.goto 9, 3)) (List.mem_of_getElem? (i := 19) rfl)
theorem dX12_seenFrom_33 : decode cX12_seenFrom 33 = .ok (.iconst 1, 1) := dgX12_seenFrom_0 (33, (.iconst 1, 1)) (List.mem_of_getElem? (i := 20) rfl)
theorem dX12_seenFrom_34 : decode cX12_seenFrom 34 = .ok (.aload_n 0, 1) := dgX12_seenFrom_0 (34, (.aload_n 0, 1)) (List.mem_of_getElem? (i := 21) rfl)
theorem dX12_seenFrom_35 : decode cX12_seenFrom 35 = .ok (.getfield 371, 3) := dgX12_seenFrom_0 (35, (.getfield 371, 3)) (List.mem_of_getElem? (i := 22) rfl)
theorem dX12_seenFrom_38 : decode cX12_seenFrom 38 = .ok (.ishl, 1) := dgX12_seenFrom_0 (38, (.ishl, 1)) (List.mem_of_getElem? (i := 23) rfl)
theorem dX12_seenFrom_39 : decode cX12_seenFrom 39 = .ok (.ior, 1) := dgX12_seenFrom_0 (39, (.ior, 1)) (List.mem_of_getElem? (i := 24) rfl)
theorem dX12_seenFrom_40 : decode cX12_seenFrom 40 = .ok (.istore_n 3, 1) := dgX12_seenFrom_0 (40, (.istore_n 3, 1)) (List.mem_of_getElem? (i := 25) rfl)
theorem dX12_seenFrom_41 : decode cX12_seenFrom 41 = .ok (.iinc 4 1, 3) := dgX12_seenFrom_0 (41, (.iinc 4 1, 3)) (List.mem_of_getElem? (i := 26) rfl)
theorem dX12_seenFrom_44 : decode cX12_seenFrom 44 = .ok (.goto (-39), 3) := dgX12_seenFrom_0 (44, (.goto (-39), 3)) (List.mem_of_getElem? (i := 27) rfl)
theorem dX12_seenFrom_47 : decode cX12_seenFrom 47 = .ok (.iload_n 3, 1) := dgX12_seenFrom_0 (47, (.iload_n 3, 1)) (List.mem_of_getElem? (i := 28) rfl)
theorem dX12_seenFrom_48 : decode cX12_seenFrom 48 = .ok (.ireturn, 1) := dgX12_seenFrom_0 (48, (.ireturn, 1)) (List.mem_of_getElem? (i := 29) rfl)
set_option maxHeartbeats 4000000 in
set_option maxRecDepth 100000 in
theorem n_seenFrom (l : Launch) (G : g5_G) (b_o b_ro b_se b_re b_pt b_rf b_im b_ke b_tp b_nl b_op b_ar b_pi b_pa b_ws b_hw b_ip b_ah b_be b_me b_tr b_ld b_wn : Nat) (sz : Nat) (u_th : Int32) (u_sa : Int32) (u_fd : Int32) (u_td : Int32) (u_fr : Int32) (u_to : Int32) (u_so : Int32) (u_fa : Int32) (u_bd : Int32) (u_nc : Int32) (u_co : Int32) (u_le : Int32) (u_pd : Int32) (u_od : Int32) (u_la : Int32) (u_bk : Int32) (u_ce : Int32) (u_ho : Int32) (u_wy : Int32) (u_bt : Int32) (u_ps : Int32) (u_tg : Int32) (u_sn : Int32) (u_ic : Int32) (u_wd : Int32) (u_id : Int32) (p_1 : Int32) (p_2 : Int32) (u_wo : Int64) (u_va : Int64) (u_su : Int64) (u_st : Int64) (v_ro : Nat → Int32) (v_se : Nat → Int64) (v_re : Nat → Int64) (v_pt : Nat → Int32) (h_u_td : 0 ≤ u_td.toInt ∧ u_td.toInt ≤ 400) (h_u_fr : 0 ≤ u_fr.toInt ∧ u_fr.toInt ≤ 400) (h_u_to : 0 ≤ u_to.toInt ∧ u_to.toInt ≤ 400) (h_u_bd : 0 ≤ u_bd.toInt ∧ u_bd.toInt ≤ 1) (h_u_nc : 0 ≤ u_nc.toInt ∧ u_nc.toInt ≤ 12) (h_u_co : 0 ≤ u_co.toInt ∧ u_co.toInt ≤ 400) (h_u_pd : 0 ≤ u_pd.toInt ∧ u_pd.toInt ≤ 400) (h_u_la : 0 ≤ u_la.toInt ∧ u_la.toInt ≤ 4840) (h_u_bk : 0 ≤ u_bk.toInt ∧ u_bk.toInt ≤ 1) (h_u_ce : 0 ≤ u_ce.toInt ∧ u_ce.toInt ≤ 63) (h_u_ho : 0 ≤ u_ho.toInt ∧ u_ho.toInt ≤ 23) (h_u_wy : 0 ≤ u_wy.toInt ∧ u_wy.toInt ≤ 3) (h_u_bt : 0 ≤ u_bt.toInt ∧ u_bt.toInt ≤ 1000000) (h_u_ps : 0 ≤ u_ps.toInt ∧ u_ps.toInt ≤ 200) (h_u_ic : 0 ≤ u_ic.toInt ∧ u_ic.toInt ≤ 1) (h_u_id : 0 ≤ u_id.toInt ∧ u_id.toInt ≤ 1) (h_p_1 : 0 ≤ p_1.toInt ∧ p_1.toInt ≤ 63) (h_p_2 : 0 ≤ p_2.toInt ∧ p_2.toInt ≤ 23) (r_ro : MI v_ro) (r_pt : PTI v_pt) : Met l yX12_seenFrom (wsG yX12_seenFrom cX12_seenFrom 5 (some .int)) ({ frames := 7, cells := 0, slots := 0, locals := 176 }) (va_Pc [.ref b_o, .int p_1, .int p_2] (g5_P G [(b_o, (oc12 u_th u_sa b_rf b_ro b_im b_ke u_fd b_tp u_td u_fr u_to u_so u_wo u_fa u_bd u_nc b_nl u_co b_op b_ar u_le b_pi b_pa u_pd u_od b_ws b_hw u_la b_se b_re u_bk u_va u_su u_ce u_ho u_wy u_bt u_ps b_pt u_tg u_sn b_ip u_ic b_ah b_be b_me u_wd b_tr b_ld u_st b_wn u_id)), (b_ro, (arI G 5740 v_ro)), (b_se, (arJ G 13 v_se)), (b_re, (arJ G 400 v_re)), (b_pt, (arI G 200 v_pt))] sz)) (va_Qi (fun (r : Int32) (u : va_W) => (∃ (o_r : Int32) (o_la : Int32) (o_bk : Int32) (o_va : Int64) (o_su : Int64) (o_ce : Int32) (o_ho : Int32) (o_wy : Int32) (o_bt : Int32) (o_ps : Int32) (o_tg : Int32) (o_sn : Int32) (o_se : Nat → Int64) (o_re : Nat → Int64) (o_pt : Nat → Int32), (0 ≤ o_la.toInt ∧ o_la.toInt ≤ 4840) ∧ (0 ≤ o_bk.toInt ∧ o_bk.toInt ≤ 1) ∧ (0 ≤ o_ce.toInt ∧ o_ce.toInt ≤ 63) ∧ (0 ≤ o_ho.toInt ∧ o_ho.toInt ≤ 23) ∧ (0 ≤ o_wy.toInt ∧ o_wy.toInt ≤ 3) ∧ (0 ≤ o_bt.toInt ∧ o_bt.toInt ≤ 1000000) ∧ (0 ≤ o_ps.toInt ∧ o_ps.toInt ≤ 200) ∧ (PTI o_pt) ∧ (r = o_r) ∧ (u = [(b_o, (oc12 u_th u_sa b_rf b_ro b_im b_ke u_fd b_tp u_td u_fr u_to u_so u_wo u_fa u_bd u_nc b_nl u_co b_op b_ar u_le b_pi b_pa u_pd u_od b_ws b_hw o_la b_se b_re o_bk o_va o_su o_ce o_ho o_wy o_bt o_ps b_pt o_tg o_sn b_ip u_ic b_ah b_be b_me u_wd b_tr b_ld u_st b_wn u_id)), (b_ro, (arI G 5740 v_ro)), (b_se, (arJ G 13 o_se)), (b_re, (arJ G 400 o_re)), (b_pt, (arI G 200 o_pt))]))) (g5_B G (va_A [(b_o, (oc12 u_th u_sa b_rf b_ro b_im b_ke u_fd b_tp u_td u_fr u_to u_so u_wo u_fa u_bd u_nc b_nl u_co b_op b_ar u_le b_pi b_pa u_pd u_od b_ws b_hw u_la b_se b_re u_bk u_va u_su u_ce u_ho u_wy u_bt u_ps b_pt u_tg u_sn b_ip u_ic b_ah b_be b_me u_wd b_tr b_ld u_st b_wn u_id)), (b_ro, (arI G 5740 v_ro)), (b_se, (arJ G 13 v_se)), (b_re, (arJ G 400 v_re)), (b_pt, (arI G 200 v_pt))] sz)) (va_A [(b_o, (oc12 u_th u_sa b_rf b_ro b_im b_ke u_fd b_tp u_td u_fr u_to u_so u_wo u_fa u_bd u_nc b_nl u_co b_op b_ar u_le b_pi b_pa u_pd u_od b_ws b_hw u_la b_se b_re u_bk u_va u_su u_ce u_ho u_wy u_bt u_ps b_pt u_tg u_sn b_ip u_ic b_ah b_be b_me u_wd b_tr b_ld u_st b_wn u_id)), (b_ro, (arI G 5740 v_ro)), (b_se, (arJ G 13 v_se)), (b_re, (arJ G 400 v_re)), (b_pt, (arI G 200 v_pt))] sz)) 0 0 (va_A [(b_o, (oc12 u_th u_sa b_rf b_ro b_im b_ke u_fd b_tp u_td u_fr u_to u_so u_wo u_fa u_bd u_nc b_nl u_co b_op b_ar u_le b_pi b_pa u_pd u_od b_ws b_hw u_la b_se b_re u_bk u_va u_su u_ce u_ho u_wy u_bt u_ps b_pt u_tg u_sn b_ip u_ic b_ah b_be b_me u_wd b_tr b_ld u_st b_wn u_id)), (b_ro, (arI G 5740 v_ro)), (b_se, (arJ G 13 v_se)), (b_re, (arJ G 400 v_re)), (b_pt, (arI G 200 v_pt))] sz) := by
  refine Met.ofW (cc := cX12_seenFrom) (maxL := 5) (ret := (some .int)) (by decide +kernel) rfl ?_
  intro p e s m args below meth c s₁ B hml hv
  obtain ⟨rfl, hsz, hP, hK, hD0, hN, hT⟩ := hv
  have hx := B.exec
  have hb := B.bytes
  have hr := B.returns
  have hts : ∀ w ∈ tblG, w.before _ s = true := fun w h => atoms_spec (ws := (wsG yX12_seenFrom cX12_seenFrom 5 (some .int))) B.pre w (List.mem_cons_of_mem _ h)
  have hown : s.vm.findClass RX12 = some m.cls := findClass_of_methodNamed B.named
  have hlocks := B.notSynchronized
  subst hsz
  have hD := hD0.self (sz := s.heap.size)
  generalize hAe : va_A [(b_o, (oc12 u_th u_sa b_rf b_ro b_im b_ke u_fd b_tp u_td u_fr u_to u_so u_wo u_fa u_bd u_nc b_nl u_co b_op b_ar u_le b_pi b_pa u_pd u_od b_ws b_hw u_la b_se b_re u_bk u_va u_su u_ce u_ho u_wy u_bt u_ps b_pt u_tg u_sn b_ip u_ic b_ah b_be b_me u_wd b_tr b_ld u_st b_wn u_id)), (b_ro, (arI G 5740 v_ro)), (b_se, (arJ G 13 v_se)), (b_re, (arJ G 400 v_re)), (b_pt, (arI G 200 v_pt))] s.heap.size = A at hD hT ⊢
  have hA : ∀ q : Nat, s.heap.size ≤ q → A q := fun q h => by rw [← hAe]; exact Or.inr h
  have hS : va_S A s.heap s.heap [] := va_S.rf
  replace hP : va_P G.1 vwCl [(b_o, (oc12 u_th u_sa b_rf b_ro b_im b_ke u_fd b_tp u_td u_fr u_to u_so u_wo u_fa u_bd u_nc b_nl u_co b_op b_ar u_le b_pi b_pa u_pd u_od b_ws b_hw u_la b_se b_re u_bk u_va u_su u_ce u_ho u_wy u_bt u_ps b_pt u_tg u_sn b_ip u_ic b_ah b_be b_me u_wd b_tr b_ld u_st b_wn u_id)), (b_ro, (arI G 5740 v_ro)), (b_se, (arJ G 13 v_se)), (b_re, (arJ G 400 v_re)), (b_pt, (arI G 200 v_pt))] s.heap := hP
  have hl := lv_entry ([.ref b_o, .int p_1, .int p_2]) (n := 5) (Nat.le_of_ble_eq_true rfl)
  rw [lg_entry_eq]
  generalize (lg_sl ([.ref b_o, .int p_1, .int p_2]) ++ List.replicate (5 - (lg_sl ([.ref b_o, .int p_1, .int p_2])).length) Slot.unset).toArray = ls at hl ⊢
  replace hl : lv_has ls 5 [(0, .ref b_o), (1, .int p_1), (2, .int p_2)] := hl
  refine lv_iconst (v := 0) hx hb dX12_seenFrom_0 (by decide +kernel) ?_
  refine lv_istore_n (lv' := [(3, .int 0), (0, .ref b_o), (1, .int p_1), (2, .int p_2)]) hx hb dX12_seenFrom_1 rfl hl (by decide +kernel) rfl ?_
  clear hl
  intro ls hl
  refine lv_iconst (v := 0) hx hb dX12_seenFrom_2 (by decide +kernel) ?_
  refine lv_istore (lv' := [(4, .int 0), (3, .int 0), (0, .ref b_o), (1, .int p_1), (2, .int p_2)]) hx hb dX12_seenFrom_3 hl (by decide +kernel) rfl ?_
  clear hl
  intro ls hl
  refine g5_loop (α := (Int32) × (Int32) × (Int32) × (Int32) × (Int64) × (Int64) × (Int32) × (Int32) × (Int32) × (Int32) × (Int32) × (Int32) × (Int32) × (Nat → Int64) × (Nat → Int64) × (Nat → Int32)) (fun (q : (Int32) × (Int32) × (Int32) × (Int32) × (Int64) × (Int64) × (Int32) × (Int32) × (Int32) × (Int32) × (Int32) × (Int32) × (Int32) × (Nat → Int64) × (Nat → Int64) × (Nat → Int32)) (ls : Array Slot) (H : Heap) (locs : List Loc) => match q with | (k5_4, k5_3, k5_la, k5_bk, k5_va, k5_su, k5_ce, k5_ho, k5_wy, k5_bt, k5_ps, k5_tg, k5_sn, k5_se, k5_re, k5_pt) => lv_has ls 5 [(3, .int k5_3), (4, .int k5_4), (0, .ref b_o), (1, .int p_1), (2, .int p_2)] ∧ va_P G.1 vwCl [(b_o, (oc12 u_th u_sa b_rf b_ro b_im b_ke u_fd b_tp u_td u_fr u_to u_so u_wo u_fa u_bd u_nc b_nl u_co b_op b_ar u_le b_pi b_pa u_pd u_od b_ws b_hw k5_la b_se b_re k5_bk k5_va k5_su k5_ce k5_ho k5_wy k5_bt k5_ps b_pt k5_tg k5_sn b_ip u_ic b_ah b_be b_me u_wd b_tr b_ld u_st b_wn u_id)), (b_ro, (arI G 5740 v_ro)), (b_se, (arJ G 13 k5_se)), (b_re, (arJ G 400 k5_re)), (b_pt, (arI G 200 k5_pt))] H ∧ va_D A [(b_o, (oc12 u_th u_sa b_rf b_ro b_im b_ke u_fd b_tp u_td u_fr u_to u_so u_wo u_fa u_bd u_nc b_nl u_co b_op b_ar u_le b_pi b_pa u_pd u_od b_ws b_hw k5_la b_se b_re k5_bk k5_va k5_su k5_ce k5_ho k5_wy k5_bt k5_ps b_pt k5_tg k5_sn b_ip u_ic b_ah b_be b_me u_wd b_tr b_ld u_st b_wn u_id)), (b_ro, (arI G 5740 v_ro)), (b_se, (arJ G 13 k5_se)), (b_re, (arJ G 400 k5_re)), (b_pt, (arI G 200 k5_pt))] ∧ va_S A s.heap H locs ∧ (0 ≤ k5_4.toInt ∧ k5_4.toInt ≤ 4) ∧ (0 ≤ k5_la.toInt ∧ k5_la.toInt ≤ 4840) ∧ (0 ≤ k5_bk.toInt ∧ k5_bk.toInt ≤ 1) ∧ (0 ≤ k5_ce.toInt ∧ k5_ce.toInt ≤ 63) ∧ (0 ≤ k5_ho.toInt ∧ k5_ho.toInt ≤ 23) ∧ (0 ≤ k5_wy.toInt ∧ k5_wy.toInt ≤ 3) ∧ (0 ≤ k5_bt.toInt ∧ k5_bt.toInt ≤ 1000000) ∧ (0 ≤ k5_ps.toInt ∧ k5_ps.toInt ≤ 200) ∧ (PTI k5_pt)) (fun (q : (Int32) × (Int32) × (Int32) × (Int32) × (Int64) × (Int64) × (Int32) × (Int32) × (Int32) × (Int32) × (Int32) × (Int32) × (Int32) × (Nat → Int64) × (Nat → Int64) × (Nat → Int32)) => match q with | (k5_4, k5_3, k5_la, k5_bk, k5_va, k5_su, k5_ce, k5_ho, k5_wy, k5_bt, k5_ps, k5_tg, k5_sn, k5_se, k5_re, k5_pt) => Int.toNat (4 - k5_4.toInt)) (0, 0, u_la, u_bk, u_va, u_su, u_ce, u_ho, u_wy, u_bt, u_ps, u_tg, u_sn, v_se, v_re, v_pt) ⟨lv_sub hl [1, 0, 2, 3, 4] rfl, hP, hD, hS, ⟨by decide, by decide⟩, h_u_la, h_u_bk, h_u_ce, h_u_ho, h_u_wy, h_u_bt, h_u_ps, r_pt⟩ ?_
  rintro ⟨k5_4, k5_3, k5_la, k5_bk, k5_va, k5_su, k5_ce, k5_ho, k5_wy, k5_bt, k5_ps, k5_tg, k5_sn, k5_se, k5_re, k5_pt⟩ ls H locs ⟨hl, hP, hD, hS, (i_1 : 0 ≤ k5_4.toInt ∧ k5_4.toInt ≤ 4), (i_2 : 0 ≤ k5_la.toInt ∧ k5_la.toInt ≤ 4840), (i_3 : 0 ≤ k5_bk.toInt ∧ k5_bk.toInt ≤ 1), (i_4 : 0 ≤ k5_ce.toInt ∧ k5_ce.toInt ≤ 63), (i_5 : 0 ≤ k5_ho.toInt ∧ k5_ho.toInt ≤ 23), (i_6 : 0 ≤ k5_wy.toInt ∧ k5_wy.toInt ≤ 3), (i_7 : 0 ≤ k5_bt.toInt ∧ k5_bt.toInt ≤ 1000000), (i_8 : 0 ≤ k5_ps.toInt ∧ k5_ps.toInt ≤ 200), (i_9 : PTI k5_pt)⟩ ih_5_10
  replace hl : lv_has ls 5 [(3, .int k5_3), (4, .int k5_4), (0, .ref b_o), (1, .int p_1), (2, .int p_2)] := hl
  refine g5_rs [(b_o, (oc12 u_th u_sa b_rf b_ro b_im b_ke u_fd b_tp u_td u_fr u_to u_so u_wo u_fa u_bd u_nc b_nl u_co b_op b_ar u_le b_pi b_pa u_pd u_od b_ws b_hw k5_la b_se b_re k5_bk k5_va k5_su k5_ce k5_ho k5_wy k5_bt k5_ps b_pt k5_tg k5_sn b_ip u_ic b_ah b_be b_me u_wd b_tr b_ld u_st b_wn u_id)), (b_ro, (arI G 5740 v_ro)), (b_se, (arJ G 13 k5_se)), (b_re, (arJ G 400 k5_re)), (b_pt, (arI G 200 k5_pt))] hP hD ?_
  clear hP hD
  intro hP hD
  refine lv_iload hx hb dX12_seenFrom_5 (lv_at hl 1 rfl) ?_
  refine lv_iconst (v := 4) hx hb dX12_seenFrom_7 (by decide +kernel) ?_
  refine lv_icmp_ge (tgt := 47) hx hb dX12_seenFrom_8 (by decide +kernel) (fun c_11 => ?_) (fun c_11 => ?_)
  ·
    have i_11 : k5_4.toInt ≥ 4 := g5_ge (a := k5_4.toInt) (b := 4) rfl (by decide +kernel) c_11
    refine lv_iload_n hx hb dX12_seenFrom_47 rfl (lv_at hl 0 rfl) ?_
    exact W.iret (v := k5_3) hx hb hr (fun t ht hW => ⟨⟨k5_3, [(b_o, (oc12 u_th u_sa b_rf b_ro b_im b_ke u_fd b_tp u_td u_fr u_to u_so u_wo u_fa u_bd u_nc b_nl u_co b_op b_ar u_le b_pi b_pa u_pd u_od b_ws b_hw k5_la b_se b_re k5_bk k5_va k5_su k5_ce k5_ho k5_wy k5_bt k5_ps b_pt k5_tg k5_sn b_ip u_ic b_ah b_be b_me u_wd b_tr b_ld u_st b_wn u_id)), (b_ro, (arI G 5740 v_ro)), (b_se, (arJ G 13 k5_se)), (b_re, (arJ G 400 k5_re)), (b_pt, (arI G 200 k5_pt))], rfl, ⟨k5_3, k5_la, k5_bk, k5_va, k5_su, k5_ce, k5_ho, k5_wy, k5_bt, k5_ps, k5_tg, k5_sn, k5_se, k5_re, k5_pt, i_2, i_3, i_4, i_5, i_6, i_7, i_8, i_9, rfl, rfl⟩, by rw [ht]; exact hP.sub [0, 1, 2, 3, 4] rfl, hD.sub [0, 1, 2, 3, 4] (by decide +kernel) rfl⟩, hS.F ht⟩) hS.2.2 dX12_seenFrom_48
  ·
    have i_11 : k5_4.toInt < 4 := g5_geN (a := k5_4.toInt) (b := 4) rfl (by decide +kernel) c_11
    refine lv_aload_n hx hb dX12_seenFrom_11 rfl (lv_at hl 2 rfl) ?_
    refine lv_iload_n hx hb dX12_seenFrom_12 rfl (lv_at hl 3 rfl) ?_
    refine lv_iload hx hb dX12_seenFrom_13 (lv_at hl 1 rfl) ?_
    refine lv_iload_n hx hb dX12_seenFrom_15 rfl (lv_at hl 4 rfl) ?_
    refine W.eq (g2 := F0 m 16 ls [.int p_2, .int k5_4, .int p_1, .ref b_o]) rfl ?_
    refine lv_iconst (v := 0) hx hb dX12_seenFrom_16 (by decide +kernel) ?_
    obtain ⟨hPc, hDc, hFc⟩ := g5_sub3 (wc := [(b_o, (oc12 u_th u_sa b_rf b_ro b_im b_ke u_fd b_tp u_td u_fr u_to u_so u_wo u_fa u_bd u_nc b_nl u_co b_op b_ar u_le b_pi b_pa u_pd u_od b_ws b_hw k5_la b_se b_re k5_bk k5_va k5_su k5_ce k5_ho k5_wy k5_bt k5_ps b_pt k5_tg k5_sn b_ip u_ic b_ah b_be b_me u_wd b_tr b_ld u_st b_wn u_id)), (b_ro, (arI G 5740 v_ro)), (b_se, (arJ G 13 k5_se)), (b_re, (arJ G 400 k5_re)), (b_pt, (arI G 200 k5_pt))]) hP hD hS hA [0, 1, 2, 3, 4] (by decide +kernel) rfl
    refine va_callv (va_runV (As := [.int p_1, .int k5_4, .int p_2, .int 0]) (rest := []) ⟨hx, hb, hml, hown, hts⟩ (n_go l G b_o b_ro b_se b_re b_pt b_rf b_im b_ke b_tp b_nl b_op b_ar b_pi b_pa b_ws b_hw b_ip b_ah b_be b_me b_tr b_ld b_wn H.size u_th u_sa u_fd u_td u_fr u_to u_so u_fa u_bd u_nc u_co u_le u_pd u_od k5_la k5_bk k5_ce k5_ho k5_wy k5_bt k5_ps k5_tg k5_sn u_ic u_wd u_id p_1 k5_4 p_2 0 u_wo k5_va k5_su u_st v_ro k5_se k5_re k5_pt h_u_td h_u_fr h_u_to h_u_bd h_u_nc h_u_co h_u_pd i_2 i_3 i_4 i_5 i_6 i_7 i_8 h_u_ic h_u_id h_p_1 ⟨by omega, by omega⟩ h_p_2 (r_ro) (i_9)) (cwV 4 hts gV_X12_401 rfl rfl rfl hv_X12_go ⟨Nat.le_of_ble_eq_true rfl, Nat.le_of_ble_eq_true rfl⟩) (g5_preV hPc hK hDc hN hT hS hFc (ci := 12) (q0 := 0) rfl rfl) rfl rfl hl.1 rfl (lv_room (Nat.le_of_ble_eq_true rfl)) dX12_seenFrom_17 ⟨Nat.le_of_ble_eq_true rfl, Nat.le_of_ble_eq_true rfl⟩) hS (fun q _ h => hFc q h) hFc (fun u t H locs ht hvm hw hB hz1 hk1 hS => ?_)
    obtain ⟨hP1, hD1⟩ := hB
    have hP1 := g5_ht ht hP1
    obtain ⟨z20, z21, z22, z23, z24, z25, z26, z27, z28, z29, z30, z31, z32, z33, (i_12 : 0 ≤ z20.toInt ∧ z20.toInt ≤ 4840), (i_13 : 0 ≤ z21.toInt ∧ z21.toInt ≤ 1), (i_14 : 0 ≤ z24.toInt ∧ z24.toInt ≤ 63), (i_15 : 0 ≤ z25.toInt ∧ z25.toInt ≤ 23), (i_16 : 0 ≤ z26.toInt ∧ z26.toInt ≤ 3), (i_17 : 0 ≤ z27.toInt ∧ z27.toInt ≤ 1000000), (i_18 : 0 ≤ z28.toInt ∧ z28.toInt ≤ 200), (i_19 : PTI z33), rfl⟩ := hw
    have hJ9 := va_join (wr := []) hP hD [0, 1, 2, 3, 4] [] rfl rfl (by decide +kernel) (by decide +kernel) hk1 hFc hP1 hD1
    clear hP hD hPc hDc hFc ht hvm hz1 hk1 hP1 hD1
    obtain ⟨hP, hD⟩ := hJ9
    refine g5_rs [(b_o, (oc12 u_th u_sa b_rf b_ro b_im b_ke u_fd b_tp u_td u_fr u_to u_so u_wo u_fa u_bd u_nc b_nl u_co b_op b_ar u_le b_pi b_pa u_pd u_od b_ws b_hw z20 b_se b_re z21 z22 z23 z24 z25 z26 z27 z28 b_pt z29 z30 b_ip u_ic b_ah b_be b_me u_wd b_tr b_ld u_st b_wn u_id)), (b_ro, (arI G 5740 v_ro)), (b_se, (arJ G 13 z31)), (b_re, (arJ G 400 z32)), (b_pt, (arI G 200 z33))] hP hD ?_
    clear hP hD
    intro hP hD
    refine lv_iload_n hx hb dX12_seenFrom_20 rfl (lv_at hl 0 rfl) ?_
    refine lv_aload_n hx hb dX12_seenFrom_21 rfl (lv_at hl 2 rfl) ?_
    refine va_get (D := G.1) (ci := 12) (v := .int z30) (C := RX12) (T := TX12) (N := 52) hx hb hts inG_X12 hown hK hP 0 rfl rfl 40 (by decide +kernel) (hts _ fl_X12_371) (fun _ h9 => h9) rfl dX12_seenFrom_22 ?_
    refine W.eq (g2 := F0 m 25 ls [.int z30, .int k5_3]) rfl ?_
    refine lv_iconst (v := (-1)) hx hb dX12_seenFrom_25 (by decide +kernel) ?_
    refine lv_icmp_ne (tgt := 33) hx hb dX12_seenFrom_26 (by decide +kernel) (fun c_34 => ?_) (fun c_34 => ?_)
    ·
      have n_34 : gNe (z30.toInt) ((-1)) := g5_ne (a := z30.toInt) (b := (-1)) rfl (by decide +kernel) c_34
      refine lv_iconst (v := 1) hx hb dX12_seenFrom_33 (by decide +kernel) ?_
      refine lv_aload_n hx hb dX12_seenFrom_34 rfl (lv_at hl 2 rfl) ?_
      refine va_get (D := G.1) (ci := 12) (v := .int z30) (C := RX12) (T := TX12) (N := 52) hx hb hts inG_X12 hown hK hP 0 rfl rfl 40 (by decide +kernel) (hts _ fl_X12_371) (fun _ h9 => h9) rfl dX12_seenFrom_35 ?_
      refine lv_ishl hx hb dX12_seenFrom_38 ?_
      refine W.eq (g2 := F0 m 39 ls [.int (1 <<< (z30 &&& 31)), .int k5_3]) rfl ?_
      refine lv_ior hx hb dX12_seenFrom_39 ?_
      refine lv_istore_n (lv' := [(3, .int (k5_3 ||| (1 <<< (z30 &&& 31)))), (4, .int k5_4), (0, .ref b_o), (1, .int p_1), (2, .int p_2)]) hx hb dX12_seenFrom_40 rfl hl (by decide +kernel) rfl ?_
      clear hl
      intro ls hl
      refine lv_iinc (v := (k5_4 + 1)) (lv' := [(4, .int (k5_4 + 1)), (3, .int (k5_3 ||| (1 <<< (z30 &&& 31)))), (0, .ref b_o), (1, .int p_1), (2, .int p_2)]) hx hb dX12_seenFrom_41 hl (k := 1) rfl rfl (by decide +kernel) rfl ?_
      clear hl
      intro ls hl
      have t_35 : (k5_4 + 1).toInt = k5_4.toInt + 1 := g5_iadd (a := k5_4.toInt) (b := 1) rfl (by decide +kernel) (by omega) (by omega)
      refine lv_goto (tgt := 5) hx hb dX12_seenFrom_44 (by decide +kernel) ?_
      exact ih_5_10 ((k5_4 + 1), (k5_3 ||| (1 <<< (z30 &&& 31))), z20, z21, z22, z23, z24, z25, z26, z27, z28, z29, z30, z31, z32, z33) ls H locs (show Int.toNat (4 - (k5_4 + 1).toInt) < Int.toNat (4 - k5_4.toInt) from g_up (show k5_4.toInt < (k5_4 + 1).toInt by omega) (show k5_4.toInt < 4 by omega)) ⟨lv_sub hl [1, 0, 2, 3, 4] rfl, hP, hD, hS, ⟨by omega, by omega⟩, i_12, i_13, i_14, i_15, i_16, i_17, i_18, i_19⟩
    ·
      have i_34 : z30.toInt = (-1) := g5_neN (a := z30.toInt) (b := (-1)) rfl (by decide +kernel) c_34
      refine lv_iconst (v := 0) hx hb dX12_seenFrom_29 (by decide +kernel) ?_
      refine lv_goto (tgt := 39) hx hb dX12_seenFrom_30 (by decide +kernel) ?_
      refine lv_ior hx hb dX12_seenFrom_39 ?_
      refine g5_ti (v := k5_3) (by simp) ?_
      refine lv_istore_n (lv' := [(3, .int k5_3), (4, .int k5_4), (0, .ref b_o), (1, .int p_1), (2, .int p_2)]) hx hb dX12_seenFrom_40 rfl hl (by decide +kernel) rfl ?_
      clear hl
      intro ls hl
      refine W.eq (g2 := F0 m 41 ls []) rfl ?_
      refine lv_iinc (v := (k5_4 + 1)) (lv' := [(4, .int (k5_4 + 1)), (3, .int k5_3), (0, .ref b_o), (1, .int p_1), (2, .int p_2)]) hx hb dX12_seenFrom_41 hl (k := 1) rfl rfl (by decide +kernel) rfl ?_
      clear hl
      intro ls hl
      have t_36 : (k5_4 + 1).toInt = k5_4.toInt + 1 := g5_iadd (a := k5_4.toInt) (b := 1) rfl (by decide +kernel) (by omega) (by omega)
      refine lv_goto (tgt := 5) hx hb dX12_seenFrom_44 (by decide +kernel) ?_
      exact ih_5_10 ((k5_4 + 1), k5_3, z20, z21, z22, z23, z24, z25, z26, z27, z28, z29, z30, z31, z32, z33) ls H locs (show Int.toNat (4 - (k5_4 + 1).toInt) < Int.toNat (4 - k5_4.toInt) from g_up (show k5_4.toInt < (k5_4 + 1).toInt by omega) (show k5_4.toInt < 4 by omega)) ⟨lv_sub hl [1, 0, 2, 3, 4] rfl, hP, hD, hS, ⟨by omega, by omega⟩, i_12, i_13, i_14, i_15, i_16, i_17, i_18, i_19⟩
theorem dgX12_sees_0 : ∀ r ∈ ([(0, (.aload_n 0, 1)), (1, (.iconst 0, 1)), (2, (.putfield 107, 3)), (5, (.iload_n 1, 1)), (6, (.invokestatic 138, 3)), (9, (.ifCond .eq 19, 3)), (12, (.iload_n 2, 1)), (13, (.invokestatic 175, 3)), (16, (.ifCond .eq 12, 3)), (19, (.aload_n 0, 1)), (20, (.iload_n 1, 1)), (21, (.iload_n 2, 1)), (22, (.invokevirtual 404, 3)), (25, (.goto 4, 3)), (28, (.iconst (-1), 1)), (29, (.ireturn, 1))] : List (Nat × (Instr × Nat))), decode cX12_sees r.1 = .ok r.2 := by decide +kernel
theorem dX12_sees_0 : decode cX12_sees 0 = .ok (.aload_n 0, 1) := dgX12_sees_0 (0, (.aload_n 0, 1)) (List.mem_of_getElem? (i := 0) rfl)
theorem dX12_sees_1 : decode cX12_sees 1 = .ok (.iconst 0, 1) := dgX12_sees_0 (1, (.iconst 0, 1)) (List.mem_of_getElem? (i := 1) rfl)
theorem dX12_sees_2 : decode cX12_sees 2 = .ok (.putfield 107, 3) := dgX12_sees_0 (2, (.putfield 107, 3)) (List.mem_of_getElem? (i := 2) rfl)
theorem dX12_sees_5 : decode cX12_sees 5 = .ok (.iload_n 1, 1) := dgX12_sees_0 (5, (.iload_n 1, 1)) (List.mem_of_getElem? (i := 3) rfl)
theorem dX12_sees_6 : decode cX12_sees 6 = .ok (.invokestatic 138, 3) := dgX12_sees_0 (6, (.invokestatic 138, 3)) (List.mem_of_getElem? (i := 4) rfl)
theorem dX12_sees_9 : decode cX12_sees 9 = .ok (.ifCond .eq 19, 3) := dgX12_sees_0 (9, (.ifCond .eq 19, 3)) (List.mem_of_getElem? (i := 5) rfl)
theorem dX12_sees_12 : decode cX12_sees 12 = .ok (.iload_n 2, 1) := dgX12_sees_0 (12, (.iload_n 2, 1)) (List.mem_of_getElem? (i := 6) rfl)
theorem dX12_sees_13 : decode cX12_sees 13 = .ok (.invokestatic 175, 3) := dgX12_sees_0 (13, (.invokestatic 175, 3)) (List.mem_of_getElem? (i := 7) rfl)
theorem dX12_sees_16 : decode cX12_sees 16 = .ok (.ifCond .eq 12, 3) := dgX12_sees_0 (16, (.ifCond .eq 12, 3)) (List.mem_of_getElem? (i := 8) rfl)
theorem dX12_sees_19 : decode cX12_sees 19 = .ok (.aload_n 0, 1) := dgX12_sees_0 (19, (.aload_n 0, 1)) (List.mem_of_getElem? (i := 9) rfl)
theorem dX12_sees_20 : decode cX12_sees 20 = .ok (.iload_n 1, 1) := dgX12_sees_0 (20, (.iload_n 1, 1)) (List.mem_of_getElem? (i := 10) rfl)
theorem dX12_sees_21 : decode cX12_sees 21 = .ok (.iload_n 2, 1) := dgX12_sees_0 (21, (.iload_n 2, 1)) (List.mem_of_getElem? (i := 11) rfl)
theorem dX12_sees_22 : decode cX12_sees 22 = .ok (.invokevirtual 404, 3) := dgX12_sees_0 (22, (.invokevirtual 404, 3)) (List.mem_of_getElem? (i := 12) rfl)
theorem dX12_sees_25 : decode cX12_sees 25 = .ok (.goto 4, 3) := dgX12_sees_0 (25, (.goto 4, 3)) (List.mem_of_getElem? (i := 13) rfl)
theorem dX12_sees_28 : decode cX12_sees 28 = .ok (.iconst (-1), 1) := dgX12_sees_0 (28, (.iconst (-1), 1)) (List.mem_of_getElem? (i := 14) rfl)
theorem dX12_sees_29 : decode cX12_sees 29 = .ok (.ireturn, 1) := dgX12_sees_0 (29, (.ireturn, 1)) (List.mem_of_getElem? (i := 15) rfl)
theorem ml_X12_404 : Cond.methodLink RX12 404 yX12_seenFrom ∈ tblG := tg 1659 (by decide +kernel) (by decide +kernel)
theorem im_X12_seenFrom : Cond.instanceMethod yX12_seenFrom ∈ tblG := tg 1661 (by decide +kernel) (by decide +kernel)
theorem se_X12_seenFrom : Cond.selects RX12 yX12_seenFrom yX12_seenFrom ∈ tblG := tg 70 (by decide +kernel) (by decide +kernel)
theorem cd_X12_seenFrom : Cond.code yX12_seenFrom cX12_seenFrom 5 (some .int) ∈ tblG := tg 1662 (by decide +kernel) (by decide +kernel)
theorem gW_X12_seenFrom : GoodIn tblG (wsG yX12_seenFrom cX12_seenFrom 5 (some .int)) := tgi cd_X12_seenFrom
theorem gV_X12_404 : GoodIn tblG (wsV RX12 404 RX12 yX12_seenFrom (wsG yX12_seenFrom cX12_seenFrom 5 (some .int))) := tgV ml_X12_404 im_X12_seenFrom se_X12_seenFrom ini_X12 gW_X12_seenFrom
theorem hv_X12_seenFrom : yX12_seenFrom.cls = RX12 ∧ yX12_seenFrom.cls ≠ "java/lang/invoke/MethodHandle" ∧ yX12_seenFrom.cls ≠ "java/lang/invoke/VarHandle" ∧ (parseMethodDescriptor yX12_seenFrom.desc).map (fun d => d.parameters.length) = some 2 := by decide +kernel
set_option maxHeartbeats 4000000 in
set_option maxRecDepth 100000 in
theorem n_sees (l : Launch) (G : g5_G) (b_o b_ro b_se b_re b_pt b_rf b_im b_ke b_tp b_nl b_op b_ar b_pi b_pa b_ws b_hw b_ip b_ah b_be b_me b_tr b_ld b_wn : Nat) (sz : Nat) (u_th : Int32) (u_sa : Int32) (u_fd : Int32) (u_td : Int32) (u_fr : Int32) (u_to : Int32) (u_so : Int32) (u_fa : Int32) (u_bd : Int32) (u_nc : Int32) (u_co : Int32) (u_le : Int32) (u_pd : Int32) (u_od : Int32) (u_la : Int32) (u_bk : Int32) (u_ce : Int32) (u_ho : Int32) (u_wy : Int32) (u_bt : Int32) (u_ps : Int32) (u_tg : Int32) (u_sn : Int32) (u_ic : Int32) (u_wd : Int32) (u_id : Int32) (p_1 : Int32) (p_2 : Int32) (u_wo : Int64) (u_va : Int64) (u_su : Int64) (u_st : Int64) (v_ro : Nat → Int32) (v_se : Nat → Int64) (v_re : Nat → Int64) (v_pt : Nat → Int32) (h_u_td : 0 ≤ u_td.toInt ∧ u_td.toInt ≤ 400) (h_u_fr : 0 ≤ u_fr.toInt ∧ u_fr.toInt ≤ 400) (h_u_to : 0 ≤ u_to.toInt ∧ u_to.toInt ≤ 400) (h_u_bd : 0 ≤ u_bd.toInt ∧ u_bd.toInt ≤ 1) (h_u_nc : 0 ≤ u_nc.toInt ∧ u_nc.toInt ≤ 12) (h_u_co : 0 ≤ u_co.toInt ∧ u_co.toInt ≤ 400) (h_u_pd : 0 ≤ u_pd.toInt ∧ u_pd.toInt ≤ 400) (h_u_la : 0 ≤ u_la.toInt ∧ u_la.toInt ≤ 4840) (h_u_bk : 0 ≤ u_bk.toInt ∧ u_bk.toInt ≤ 1) (h_u_ce : 0 ≤ u_ce.toInt ∧ u_ce.toInt ≤ 63) (h_u_ho : 0 ≤ u_ho.toInt ∧ u_ho.toInt ≤ 23) (h_u_wy : 0 ≤ u_wy.toInt ∧ u_wy.toInt ≤ 3) (h_u_bt : 0 ≤ u_bt.toInt ∧ u_bt.toInt ≤ 1000000) (h_u_ps : 0 ≤ u_ps.toInt ∧ u_ps.toInt ≤ 200) (h_u_ic : 0 ≤ u_ic.toInt ∧ u_ic.toInt ≤ 1) (h_u_id : 0 ≤ u_id.toInt ∧ u_id.toInt ≤ 1) (r_ro : MI v_ro) (r_pt : PTI v_pt) : Met l yX12_sees (wsG yX12_sees cX12_sees 3 (some .int)) ({ frames := 8, cells := 0, slots := 0, locals := 200 }) (va_Pc [.ref b_o, .int p_1, .int p_2] (g5_P G [(b_o, (oc12 u_th u_sa b_rf b_ro b_im b_ke u_fd b_tp u_td u_fr u_to u_so u_wo u_fa u_bd u_nc b_nl u_co b_op b_ar u_le b_pi b_pa u_pd u_od b_ws b_hw u_la b_se b_re u_bk u_va u_su u_ce u_ho u_wy u_bt u_ps b_pt u_tg u_sn b_ip u_ic b_ah b_be b_me u_wd b_tr b_ld u_st b_wn u_id)), (b_ro, (arI G 5740 v_ro)), (b_se, (arJ G 13 v_se)), (b_re, (arJ G 400 v_re)), (b_pt, (arI G 200 v_pt))] sz)) (va_Qi (fun (r : Int32) (u : va_W) => (∃ (o_r : Int32) (o_th : Int32) (o_la : Int32) (o_bk : Int32) (o_va : Int64) (o_su : Int64) (o_ce : Int32) (o_ho : Int32) (o_wy : Int32) (o_bt : Int32) (o_ps : Int32) (o_tg : Int32) (o_sn : Int32) (o_se : Nat → Int64) (o_re : Nat → Int64) (o_pt : Nat → Int32), (0 ≤ o_la.toInt ∧ o_la.toInt ≤ 4840) ∧ (0 ≤ o_bk.toInt ∧ o_bk.toInt ≤ 1) ∧ (0 ≤ o_ce.toInt ∧ o_ce.toInt ≤ 63) ∧ (0 ≤ o_ho.toInt ∧ o_ho.toInt ≤ 23) ∧ (0 ≤ o_wy.toInt ∧ o_wy.toInt ≤ 3) ∧ (0 ≤ o_bt.toInt ∧ o_bt.toInt ≤ 1000000) ∧ (0 ≤ o_ps.toInt ∧ o_ps.toInt ≤ 200) ∧ (PTI o_pt) ∧ (r = o_r) ∧ (u = [(b_o, (oc12 o_th u_sa b_rf b_ro b_im b_ke u_fd b_tp u_td u_fr u_to u_so u_wo u_fa u_bd u_nc b_nl u_co b_op b_ar u_le b_pi b_pa u_pd u_od b_ws b_hw o_la b_se b_re o_bk o_va o_su o_ce o_ho o_wy o_bt o_ps b_pt o_tg o_sn b_ip u_ic b_ah b_be b_me u_wd b_tr b_ld u_st b_wn u_id)), (b_ro, (arI G 5740 v_ro)), (b_se, (arJ G 13 o_se)), (b_re, (arJ G 400 o_re)), (b_pt, (arI G 200 o_pt))]))) (g5_B G (va_A [(b_o, (oc12 u_th u_sa b_rf b_ro b_im b_ke u_fd b_tp u_td u_fr u_to u_so u_wo u_fa u_bd u_nc b_nl u_co b_op b_ar u_le b_pi b_pa u_pd u_od b_ws b_hw u_la b_se b_re u_bk u_va u_su u_ce u_ho u_wy u_bt u_ps b_pt u_tg u_sn b_ip u_ic b_ah b_be b_me u_wd b_tr b_ld u_st b_wn u_id)), (b_ro, (arI G 5740 v_ro)), (b_se, (arJ G 13 v_se)), (b_re, (arJ G 400 v_re)), (b_pt, (arI G 200 v_pt))] sz)) (va_A [(b_o, (oc12 u_th u_sa b_rf b_ro b_im b_ke u_fd b_tp u_td u_fr u_to u_so u_wo u_fa u_bd u_nc b_nl u_co b_op b_ar u_le b_pi b_pa u_pd u_od b_ws b_hw u_la b_se b_re u_bk u_va u_su u_ce u_ho u_wy u_bt u_ps b_pt u_tg u_sn b_ip u_ic b_ah b_be b_me u_wd b_tr b_ld u_st b_wn u_id)), (b_ro, (arI G 5740 v_ro)), (b_se, (arJ G 13 v_se)), (b_re, (arJ G 400 v_re)), (b_pt, (arI G 200 v_pt))] sz)) 0 0 (va_A [(b_o, (oc12 u_th u_sa b_rf b_ro b_im b_ke u_fd b_tp u_td u_fr u_to u_so u_wo u_fa u_bd u_nc b_nl u_co b_op b_ar u_le b_pi b_pa u_pd u_od b_ws b_hw u_la b_se b_re u_bk u_va u_su u_ce u_ho u_wy u_bt u_ps b_pt u_tg u_sn b_ip u_ic b_ah b_be b_me u_wd b_tr b_ld u_st b_wn u_id)), (b_ro, (arI G 5740 v_ro)), (b_se, (arJ G 13 v_se)), (b_re, (arJ G 400 v_re)), (b_pt, (arI G 200 v_pt))] sz) := by
  refine Met.ofW (cc := cX12_sees) (maxL := 3) (ret := (some .int)) (by decide +kernel) rfl ?_
  intro p e s m args below meth c s₁ B hml hv
  obtain ⟨rfl, hsz, hP, hK, hD0, hN, hT⟩ := hv
  have hx := B.exec
  have hb := B.bytes
  have hr := B.returns
  have hts : ∀ w ∈ tblG, w.before _ s = true := fun w h => atoms_spec (ws := (wsG yX12_sees cX12_sees 3 (some .int))) B.pre w (List.mem_cons_of_mem _ h)
  have hown : s.vm.findClass RX12 = some m.cls := findClass_of_methodNamed B.named
  have hlocks := B.notSynchronized
  subst hsz
  have hD := hD0.self (sz := s.heap.size)
  generalize hAe : va_A [(b_o, (oc12 u_th u_sa b_rf b_ro b_im b_ke u_fd b_tp u_td u_fr u_to u_so u_wo u_fa u_bd u_nc b_nl u_co b_op b_ar u_le b_pi b_pa u_pd u_od b_ws b_hw u_la b_se b_re u_bk u_va u_su u_ce u_ho u_wy u_bt u_ps b_pt u_tg u_sn b_ip u_ic b_ah b_be b_me u_wd b_tr b_ld u_st b_wn u_id)), (b_ro, (arI G 5740 v_ro)), (b_se, (arJ G 13 v_se)), (b_re, (arJ G 400 v_re)), (b_pt, (arI G 200 v_pt))] s.heap.size = A at hD hT ⊢
  have hA : ∀ q : Nat, s.heap.size ≤ q → A q := fun q h => by rw [← hAe]; exact Or.inr h
  have hS : va_S A s.heap s.heap [] := va_S.rf
  replace hP : va_P G.1 vwCl [(b_o, (oc12 u_th u_sa b_rf b_ro b_im b_ke u_fd b_tp u_td u_fr u_to u_so u_wo u_fa u_bd u_nc b_nl u_co b_op b_ar u_le b_pi b_pa u_pd u_od b_ws b_hw u_la b_se b_re u_bk u_va u_su u_ce u_ho u_wy u_bt u_ps b_pt u_tg u_sn b_ip u_ic b_ah b_be b_me u_wd b_tr b_ld u_st b_wn u_id)), (b_ro, (arI G 5740 v_ro)), (b_se, (arJ G 13 v_se)), (b_re, (arJ G 400 v_re)), (b_pt, (arI G 200 v_pt))] s.heap := hP
  have hl := lv_entry ([.ref b_o, .int p_1, .int p_2]) (n := 3) (Nat.le_of_ble_eq_true rfl)
  rw [lg_entry_eq]
  generalize (lg_sl ([.ref b_o, .int p_1, .int p_2]) ++ List.replicate (3 - (lg_sl ([.ref b_o, .int p_1, .int p_2])).length) Slot.unset).toArray = ls at hl ⊢
  replace hl : lv_has ls 3 [(0, .ref b_o), (1, .int p_1), (2, .int p_2)] := hl
  refine lv_aload_n hx hb dX12_sees_0 rfl (lv_at hl 0 rfl) ?_
  refine lv_iconst (v := 0) hx hb dX12_sees_1 (by decide +kernel) ?_
  refine va_put (D := G.1) (ci := 12) (v := .int 0) (ty := .int) (C := RX12) (T := TX12) (N := 52) hx hb hts inG_X12 tyX12 tyX12_ok nmX12 hown hK hP hD hS 0 rfl rfl 0 (by decide +kernel) (hts _ fl_X12_107) (fun _ h9 => h9) rfl (by decide +kernel) rfl rfl (Nat.le_of_ble_eq_true rfl) dX12_sees_2 ?_
  clear hP hD hS
  intro H locs hP hD hS
  refine g5_rs [(b_o, (oc12 0 u_sa b_rf b_ro b_im b_ke u_fd b_tp u_td u_fr u_to u_so u_wo u_fa u_bd u_nc b_nl u_co b_op b_ar u_le b_pi b_pa u_pd u_od b_ws b_hw u_la b_se b_re u_bk u_va u_su u_ce u_ho u_wy u_bt u_ps b_pt u_tg u_sn b_ip u_ic b_ah b_be b_me u_wd b_tr b_ld u_st b_wn u_id)), (b_ro, (arI G 5740 v_ro)), (b_se, (arJ G 13 v_se)), (b_re, (arJ G 400 v_re)), (b_pt, (arI G 200 v_pt))] hP hD ?_
  clear hP hD
  intro hP hD
  refine lv_iload_n hx hb dX12_sees_5 rfl (lv_at hl 1 rfl) ?_
  refine W.eq (g2 := F0 m 6 ls [.int p_1]) rfl ?_
  obtain ⟨hPc, hDc, hFc⟩ := g5_sub3 (wc := []) hP hD hS hA [] (by decide +kernel) rfl
  refine va_calli (va_runS (As := [.int p_1]) (rest := []) ⟨hx, hb, hml, hown, hts⟩ (n_isCell l G H.size p_1) (va_cwS 1 hts gS_X12_138 rfl rfl rfl hs_X12_isCell ⟨Nat.le_of_ble_eq_true rfl, Nat.le_of_ble_eq_true rfl⟩) (g5_preS hPc hK hDc hN hT hS hFc) rfl rfl hl.1 rfl (lv_room (Nat.le_of_ble_eq_true rfl)) dX12_sees_6 ⟨Nat.le_of_ble_eq_true rfl, Nat.le_of_ble_eq_true rfl⟩) hS (fun q _ h => hFc q h) hFc (fun r u t H locs ht hvm hw hB hz1 hk1 hS => ?_)
  obtain ⟨hP1, hD1⟩ := hB
  have hP1 := g5_ht ht hP1
  rcases hw with ⟨(i_1 : 0 ≤ p_1.toInt ∧ p_1.toInt ≤ 63), rfl, rfl⟩ | ⟨rfl, rfl⟩
  ·
    have hJ9 := g5_same hP hk1
    clear hP hPc hDc hFc ht hvm hz1 hk1 hP1 hD1
    have hP := hJ9
    clear hJ9
    refine lv_if_eq (tgt := 28) hx hb dX12_sees_9 (by decide +kernel) (fun c_2 => ?_) (fun c_2 => ?_)
    ·
      exact absurd c_2 (by decide +kernel)
    ·
      refine lv_iload_n hx hb dX12_sees_12 rfl (lv_at hl 2 rfl) ?_
      obtain ⟨hPc, hDc, hFc⟩ := g5_sub3 (wc := []) hP hD hS hA [] (by decide +kernel) rfl
      refine va_calli (va_runS (As := [.int p_2]) (rest := []) ⟨hx, hb, hml, hown, hts⟩ (n_isHour l G H.size p_2) (va_cwS 1 hts gS_X12_175 rfl rfl rfl hs_X12_isHour ⟨Nat.le_of_ble_eq_true rfl, Nat.le_of_ble_eq_true rfl⟩) (g5_preS hPc hK hDc hN hT hS hFc) rfl rfl hl.1 rfl (lv_room (Nat.le_of_ble_eq_true rfl)) dX12_sees_13 ⟨Nat.le_of_ble_eq_true rfl, Nat.le_of_ble_eq_true rfl⟩) hS (fun q _ h => hFc q h) hFc (fun r u t H locs ht hvm hw hB hz1 hk1 hS => ?_)
      obtain ⟨hP1, hD1⟩ := hB
      have hP1 := g5_ht ht hP1
      rcases hw with ⟨(i_3 : 0 ≤ p_2.toInt ∧ p_2.toInt ≤ 23), rfl, rfl⟩ | ⟨rfl, rfl⟩
      ·
        have hJ9 := g5_same hP hk1
        clear hP hPc hDc hFc ht hvm hz1 hk1 hP1 hD1
        have hP := hJ9
        clear hJ9
        refine lv_if_eq (tgt := 28) hx hb dX12_sees_16 (by decide +kernel) (fun c_4 => ?_) (fun c_4 => ?_)
        ·
          exact absurd c_4 (by decide +kernel)
        ·
          refine lv_aload_n hx hb dX12_sees_19 rfl (lv_at hl 0 rfl) ?_
          refine lv_iload_n hx hb dX12_sees_20 rfl (lv_at hl 1 rfl) ?_
          refine lv_iload_n hx hb dX12_sees_21 rfl (lv_at hl 2 rfl) ?_
          obtain ⟨hPc, hDc, hFc⟩ := g5_sub3 (wc := [(b_o, (oc12 0 u_sa b_rf b_ro b_im b_ke u_fd b_tp u_td u_fr u_to u_so u_wo u_fa u_bd u_nc b_nl u_co b_op b_ar u_le b_pi b_pa u_pd u_od b_ws b_hw u_la b_se b_re u_bk u_va u_su u_ce u_ho u_wy u_bt u_ps b_pt u_tg u_sn b_ip u_ic b_ah b_be b_me u_wd b_tr b_ld u_st b_wn u_id)), (b_ro, (arI G 5740 v_ro)), (b_se, (arJ G 13 v_se)), (b_re, (arJ G 400 v_re)), (b_pt, (arI G 200 v_pt))]) hP hD hS hA [0, 1, 2, 3, 4] (by decide +kernel) rfl
          refine va_calli (va_runV (As := [.int p_1, .int p_2]) (rest := []) ⟨hx, hb, hml, hown, hts⟩ (n_seenFrom l G b_o b_ro b_se b_re b_pt b_rf b_im b_ke b_tp b_nl b_op b_ar b_pi b_pa b_ws b_hw b_ip b_ah b_be b_me b_tr b_ld b_wn H.size 0 u_sa u_fd u_td u_fr u_to u_so u_fa u_bd u_nc u_co u_le u_pd u_od u_la u_bk u_ce u_ho u_wy u_bt u_ps u_tg u_sn u_ic u_wd u_id p_1 p_2 u_wo u_va u_su u_st v_ro v_se v_re v_pt h_u_td h_u_fr h_u_to h_u_bd h_u_nc h_u_co h_u_pd h_u_la h_u_bk h_u_ce h_u_ho h_u_wy h_u_bt h_u_ps h_u_ic h_u_id i_1 i_3 (r_ro) (r_pt)) (cwV 2 hts gV_X12_404 rfl rfl rfl hv_X12_seenFrom ⟨Nat.le_of_ble_eq_true rfl, Nat.le_of_ble_eq_true rfl⟩) (g5_preV hPc hK hDc hN hT hS hFc (ci := 12) (q0 := 0) rfl rfl) rfl rfl hl.1 rfl (lv_room (Nat.le_of_ble_eq_true rfl)) dX12_sees_22 ⟨Nat.le_of_ble_eq_true rfl, Nat.le_of_ble_eq_true rfl⟩) hS (fun q _ h => hFc q h) hFc (fun r u t H locs ht hvm hw hB hz1 hk1 hS => ?_)
          obtain ⟨hP1, hD1⟩ := hB
          have hP1 := g5_ht ht hP1
          obtain ⟨z13, z14, z15, z16, z17, z18, z19, z20, z21, z22, z23, z24, z25, z26, z27, (i_5 : 0 ≤ z14.toInt ∧ z14.toInt ≤ 4840), (i_6 : 0 ≤ z15.toInt ∧ z15.toInt ≤ 1), (i_7 : 0 ≤ z18.toInt ∧ z18.toInt ≤ 63), (i_8 : 0 ≤ z19.toInt ∧ z19.toInt ≤ 23), (i_9 : 0 ≤ z20.toInt ∧ z20.toInt ≤ 3), (i_10 : 0 ≤ z21.toInt ∧ z21.toInt ≤ 1000000), (i_11 : 0 ≤ z22.toInt ∧ z22.toInt ≤ 200), (i_12 : PTI z27), y28, rfl⟩ := hw
          have hJ9 := va_join (wr := []) hP hD [0, 1, 2, 3, 4] [] rfl rfl (by decide +kernel) (by decide +kernel) hk1 hFc hP1 hD1
          clear hP hD hPc hDc hFc ht hvm hz1 hk1 hP1 hD1
          obtain ⟨hP, hD⟩ := hJ9
          refine g5_rs [(b_o, (oc12 0 u_sa b_rf b_ro b_im b_ke u_fd b_tp u_td u_fr u_to u_so u_wo u_fa u_bd u_nc b_nl u_co b_op b_ar u_le b_pi b_pa u_pd u_od b_ws b_hw z14 b_se b_re z15 z16 z17 z18 z19 z20 z21 z22 b_pt z23 z24 b_ip u_ic b_ah b_be b_me u_wd b_tr b_ld u_st b_wn u_id)), (b_ro, (arI G 5740 v_ro)), (b_se, (arJ G 13 z25)), (b_re, (arJ G 400 z26)), (b_pt, (arI G 200 z27))] hP hD ?_
          clear hP hD
          intro hP hD
          refine g5_ti (v := z13) y28 ?_
          refine W.eq (g2 := F0 m 25 ls [.int z13]) rfl ?_
          refine lv_goto (tgt := 29) hx hb dX12_sees_25 (by decide +kernel) ?_
          exact W.iret (v := z13) hx hb hr (fun t ht hW => ⟨⟨z13, [(b_o, (oc12 0 u_sa b_rf b_ro b_im b_ke u_fd b_tp u_td u_fr u_to u_so u_wo u_fa u_bd u_nc b_nl u_co b_op b_ar u_le b_pi b_pa u_pd u_od b_ws b_hw z14 b_se b_re z15 z16 z17 z18 z19 z20 z21 z22 b_pt z23 z24 b_ip u_ic b_ah b_be b_me u_wd b_tr b_ld u_st b_wn u_id)), (b_ro, (arI G 5740 v_ro)), (b_se, (arJ G 13 z25)), (b_re, (arJ G 400 z26)), (b_pt, (arI G 200 z27))], rfl, ⟨z13, 0, z14, z15, z16, z17, z18, z19, z20, z21, z22, z23, z24, z25, z26, z27, i_5, i_6, i_7, i_8, i_9, i_10, i_11, i_12, rfl, rfl⟩, by rw [ht]; exact hP.sub [0, 1, 2, 3, 4] rfl, hD.sub [0, 1, 2, 3, 4] (by decide +kernel) rfl⟩, hS.F ht⟩) hS.2.2 dX12_sees_29
      ·
        have hJ9 := g5_same hP hk1
        clear hP hPc hDc hFc ht hvm hz1 hk1 hP1 hD1
        have hP := hJ9
        clear hJ9
        refine lv_if_eq (tgt := 28) hx hb dX12_sees_16 (by decide +kernel) (fun c_29 => ?_) (fun c_29 => ?_)
        ·
          refine lv_iconst (v := (-1)) hx hb dX12_sees_28 (by decide +kernel) ?_
          exact W.iret (v := (-1)) hx hb hr (fun t ht hW => ⟨⟨(-1), [(b_o, (oc12 0 u_sa b_rf b_ro b_im b_ke u_fd b_tp u_td u_fr u_to u_so u_wo u_fa u_bd u_nc b_nl u_co b_op b_ar u_le b_pi b_pa u_pd u_od b_ws b_hw u_la b_se b_re u_bk u_va u_su u_ce u_ho u_wy u_bt u_ps b_pt u_tg u_sn b_ip u_ic b_ah b_be b_me u_wd b_tr b_ld u_st b_wn u_id)), (b_ro, (arI G 5740 v_ro)), (b_se, (arJ G 13 v_se)), (b_re, (arJ G 400 v_re)), (b_pt, (arI G 200 v_pt))], rfl, ⟨(-1), 0, u_la, u_bk, u_va, u_su, u_ce, u_ho, u_wy, u_bt, u_ps, u_tg, u_sn, v_se, v_re, v_pt, h_u_la, h_u_bk, h_u_ce, h_u_ho, h_u_wy, h_u_bt, h_u_ps, r_pt, rfl, rfl⟩, by rw [ht]; exact hP.sub [0, 1, 2, 3, 4] rfl, hD.sub [0, 1, 2, 3, 4] (by decide +kernel) rfl⟩, hS.F ht⟩) hS.2.2 dX12_sees_29
        ·
          exact absurd c_29 (by decide +kernel)
  ·
    have hJ9 := g5_same hP hk1
    clear hP hPc hDc hFc ht hvm hz1 hk1 hP1 hD1
    have hP := hJ9
    clear hJ9
    refine lv_if_eq (tgt := 28) hx hb dX12_sees_9 (by decide +kernel) (fun c_30 => ?_) (fun c_30 => ?_)
    ·
      refine lv_iconst (v := (-1)) hx hb dX12_sees_28 (by decide +kernel) ?_
      exact W.iret (v := (-1)) hx hb hr (fun t ht hW => ⟨⟨(-1), [(b_o, (oc12 0 u_sa b_rf b_ro b_im b_ke u_fd b_tp u_td u_fr u_to u_so u_wo u_fa u_bd u_nc b_nl u_co b_op b_ar u_le b_pi b_pa u_pd u_od b_ws b_hw u_la b_se b_re u_bk u_va u_su u_ce u_ho u_wy u_bt u_ps b_pt u_tg u_sn b_ip u_ic b_ah b_be b_me u_wd b_tr b_ld u_st b_wn u_id)), (b_ro, (arI G 5740 v_ro)), (b_se, (arJ G 13 v_se)), (b_re, (arJ G 400 v_re)), (b_pt, (arI G 200 v_pt))], rfl, ⟨(-1), 0, u_la, u_bk, u_va, u_su, u_ce, u_ho, u_wy, u_bt, u_ps, u_tg, u_sn, v_se, v_re, v_pt, h_u_la, h_u_bk, h_u_ce, h_u_ho, h_u_wy, h_u_bt, h_u_ps, r_pt, rfl, rfl⟩, by rw [ht]; exact hP.sub [0, 1, 2, 3, 4] rfl, hD.sub [0, 1, 2, 3, 4] (by decide +kernel) rfl⟩, hS.F ht⟩) hS.2.2 dX12_sees_29
    ·
      exact absurd c_30 (by decide +kernel)
theorem dgX12_lateness_0 : ∀ r ∈ ([(0, (.iconst (-1), 1)), (1, (.istore 4, 2)), (3, (.aload_n 0, 1)), (4, (.iload_n 1, 1)), (5, (.iload_n 3, 1)), (6, (.invokevirtual 187, 3)), (9, (.istore 5, 2)), (11, (.iconst 0, 1)), (12, (.istore 6, 2)), (14, (.iload 6, 2)), (16, (.iconst 4, 1)), (17, (.if_icmp .ge 84, 3)), (20, (.iload 5, 2)), (22, (.iconst (-1), 1)), (23, (.if_icmp .eq 78, 3)), (26, (.aload_n 0, 1)), (27, (.iload 5, 2)), (29, (.iload 6, 2)), (31, (.iload_n 3, 1)), (32, (.iconst 0, 1)), (33, (.invokevirtual 401, 3)), (36, (.aload_n 0, 1)), (37, (.getfield 358, 3)), (40, (.ifCond .ne 7, 3)), (43, (.iconst 0, 1)), (44, (.goto 19, 3)), (47, (.iload_n 3, 1)), (48, (.aload_n 0, 1)), (49, (.getfield 82, 3)), (52, (.aload_n 0, 1)), (53, (.getfield 358, 3)), (56, (.iconst 1, 1)), (57, (.isub, 1)), (58, (.iaload, 1)), (59, (.bipush 64, 2)), (61, (.idiv, 1)), (62, (.isub, 1)), (63, (.istore 7, 2)), (65, (.aload_n 0, 1)), (66, (.getfield 371, 3))] : List (Nat × (Instr × Nat))), decode cX12_lateness r.1 = .ok r.2 := by decide +kernel
theorem dX12_lateness_0 : decode cX12_lateness 0 = .ok (.iconst (-1), 1) := dgX12_lateness_0 (0, (.iconst (-1), 1)) (List.mem_of_getElem? (i := 0) rfl)
theorem dX12_lateness_1 : decode cX12_lateness 1 = .ok (.istore 4, 2) := dgX12_lateness_0 (1, (.istore 4, 2)) (List.mem_of_getElem? (i := 1) rfl)
theorem dX12_lateness_3 : decode cX12_lateness 3 = .ok (.aload_n 0, 1) := dgX12_lateness_0 (3, (.aload_n 0, 1)) (List.mem_of_getElem? (i := 2) rfl)
theorem dX12_lateness_4 : decode cX12_lateness 4 = .ok (.iload_n 1, 1) := dgX12_lateness_0 (4, (.iload_n 1, 1)) (List.mem_of_getElem? (i := 3) rfl)
theorem dX12_lateness_5 : decode cX12_lateness 5 = .ok (.iload_n 3, 1) := dgX12_lateness_0 (5, (.iload_n 3, 1)) (List.mem_of_getElem? (i := 4) rfl)
theorem dX12_lateness_6 : decode cX12_lateness 6 = .ok (.invokevirtual 187, 3) := dgX12_lateness_0 (6, (.invokevirtual 187, 3)) (List.mem_of_getElem? (i := 5) rfl)
theorem dX12_lateness_9 : decode cX12_lateness 9 = .ok (.istore 5, 2) := dgX12_lateness_0 (9, (.istore 5, 2)) (List.mem_of_getElem? (i := 6) rfl)
theorem dX12_lateness_11 : decode cX12_lateness 11 = .ok (.iconst 0, 1) := dgX12_lateness_0 (11, (.iconst 0, 1)) (List.mem_of_getElem? (i := 7) rfl)
theorem dX12_lateness_12 : decode cX12_lateness 12 = .ok (.istore 6, 2) := dgX12_lateness_0 (12, (.istore 6, 2)) (List.mem_of_getElem? (i := 8) rfl)
theorem dX12_lateness_14 : decode cX12_lateness 14 = .ok (.iload 6, 2) := dgX12_lateness_0 (14, (.iload 6, 2)) (List.mem_of_getElem? (i := 9) rfl)
theorem dX12_lateness_16 : decode cX12_lateness 16 = .ok (.iconst 4, 1) := dgX12_lateness_0 (16, (.iconst 4, 1)) (List.mem_of_getElem? (i := 10) rfl)
theorem dX12_lateness_17 : decode cX12_lateness 17 = .ok (.if_icmp .ge 84, 3) := dgX12_lateness_0 (17, (.if_icmp .ge 84, 3)) (List.mem_of_getElem? (i := 11) rfl)
theorem dX12_lateness_20 : decode cX12_lateness 20 = .ok (.iload 5, 2) := dgX12_lateness_0 (20, (.iload 5, 2)) (List.mem_of_getElem? (i := 12) rfl)
theorem dX12_lateness_22 : decode cX12_lateness 22 = .ok (.iconst (-1), 1) := dgX12_lateness_0 (22, (.iconst (-1), 1)) (List.mem_of_getElem? (i := 13) rfl)
theorem dX12_lateness_23 : decode cX12_lateness 23 = .ok (.if_icmp .eq 78, 3) := dgX12_lateness_0 (23, (.if_icmp .eq 78, 3)) (List.mem_of_getElem? (i := 14) rfl)
theorem dX12_lateness_26 : decode cX12_lateness 26 = .ok (.aload_n 0, 1) := dgX12_lateness_0 (26, (.aload_n 0, 1)) (List.mem_of_getElem? (i := 15) rfl)
theorem dX12_lateness_27 : decode cX12_lateness 27 = .ok (.iload 5, 2) := dgX12_lateness_0 (27, (.iload 5, 2)) (List.mem_of_getElem? (i := 16) rfl)
theorem dX12_lateness_29 : decode cX12_lateness 29 = .ok (.iload 6, 2) := dgX12_lateness_0 (29, (.iload 6, 2)) (List.mem_of_getElem? (i := 17) rfl)
theorem dX12_lateness_31 : decode cX12_lateness 31 = .ok (.iload_n 3, 1) := dgX12_lateness_0 (31, (.iload_n 3, 1)) (List.mem_of_getElem? (i := 18) rfl)
theorem dX12_lateness_32 : decode cX12_lateness 32 = .ok (.iconst 0, 1) := dgX12_lateness_0 (32, (.iconst 0, 1)) (List.mem_of_getElem? (i := 19) rfl)
theorem dX12_lateness_33 : decode cX12_lateness 33 = .ok (.invokevirtual 401, 3) := dgX12_lateness_0 (33, (.invokevirtual 401, 3)) (List.mem_of_getElem? (i := 20) rfl)
theorem dX12_lateness_36 : decode cX12_lateness 36 = .ok (.aload_n 0, 1) := dgX12_lateness_0 (36, (.aload_n 0, 1)) (List.mem_of_getElem? (i := 21) rfl)
theorem dX12_lateness_37 : decode cX12_lateness 37 = .ok (.getfield 358, 3) := dgX12_lateness_0 (37, (.getfield 358, 3)) (List.mem_of_getElem? (i := 22) rfl)
theorem dX12_lateness_40 : decode cX12_lateness 40 = .ok (.ifCond .ne 7, 3) := dgX12_lateness_0 (40, (.ifCond .ne 7, 3)) (List.mem_of_getElem? (i := 23) rfl)
theorem dX12_lateness_43 : decode cX12_lateness 43 = .ok (.iconst 0, 1) := dgX12_lateness_0 (43, (.iconst 0, 1)) (List.mem_of_getElem? (i := 24) rfl)
theorem dX12_lateness_44 : decode cX12_lateness 44 = .ok (.goto 19, 3) := dgX12_lateness_0 (44, (.goto 19, 3)) (List.mem_of_getElem? (i := 25) rfl)
theorem dX12_lateness_47 : decode cX12_lateness 47 = .ok (.iload_n 3, 1) := dgX12_lateness_0 (47, (.iload_n 3, 1)) (List.mem_of_getElem? (i := 26) rfl)
theorem dX12_lateness_48 : decode cX12_lateness 48 = .ok (.aload_n 0, 1) := dgX12_lateness_0 (48, (.aload_n 0, 1)) (List.mem_of_getElem? (i := 27) rfl)
theorem dX12_lateness_49 : decode cX12_lateness 49 = .ok (.getfield 82, 3) := dgX12_lateness_0 (49, (.getfield 82, 3)) (List.mem_of_getElem? (i := 28) rfl)
theorem dX12_lateness_52 : decode cX12_lateness 52 = .ok (.aload_n 0, 1) := dgX12_lateness_0 (52, (.aload_n 0, 1)) (List.mem_of_getElem? (i := 29) rfl)
theorem dX12_lateness_53 : decode cX12_lateness 53 = .ok (.getfield 358, 3) := dgX12_lateness_0 (53, (.getfield 358, 3)) (List.mem_of_getElem? (i := 30) rfl)
theorem dX12_lateness_56 : decode cX12_lateness 56 = .ok (.iconst 1, 1) := dgX12_lateness_0 (56, (.iconst 1, 1)) (List.mem_of_getElem? (i := 31) rfl)
theorem dX12_lateness_57 : decode cX12_lateness 57 = .ok (.isub, 1) := dgX12_lateness_0 (57, (.isub, 1)) (List.mem_of_getElem? (i := 32) rfl)
theorem dX12_lateness_58 : decode cX12_lateness 58 = .ok (.iaload, 1) := dgX12_lateness_0 (58, (.iaload, 1)) (List.mem_of_getElem? (i := 33) rfl)
theorem dX12_lateness_59 : decode cX12_lateness 59 = .ok (.bipush 64, 2) := dgX12_lateness_0 (59, (.bipush 64, 2)) (List.mem_of_getElem? (i := 34) rfl)
theorem dX12_lateness_61 : decode cX12_lateness 61 = .ok (.idiv, 1) := dgX12_lateness_0 (61, (.idiv, 1)) (List.mem_of_getElem? (i := 35) rfl)
theorem dX12_lateness_62 : decode cX12_lateness 62 = .ok (.isub, 1) := dgX12_lateness_0 (62, (.isub, 1)) (List.mem_of_getElem? (i := 36) rfl)
theorem dX12_lateness_63 : decode cX12_lateness 63 = .ok (.istore 7, 2) := dgX12_lateness_0 (63, (.istore 7, 2)) (List.mem_of_getElem? (i := 37) rfl)
theorem dX12_lateness_65 : decode cX12_lateness 65 = .ok (.aload_n 0, 1) := dgX12_lateness_0 (65, (.aload_n 0, 1)) (List.mem_of_getElem? (i := 38) rfl)
theorem dX12_lateness_66 : decode cX12_lateness 66 = .ok (.getfield 371, 3) := dgX12_lateness_0 (66, (.getfield 371, 3)) (List.mem_of_getElem? (i := 39) rfl)
theorem dgX12_lateness_1 : ∀ r ∈ ([(69, (.iload_n 2, 1)), (70, (.if_icmp .ne 21, 3)), (73, (.iload 4, 2)), (75, (.iconst (-1), 1)), (76, (.if_icmp .eq 10, 3)), (79, (.iload 7, 2)), (81, (.iload 4, 2)), (83, (.if_icmp .ge 8, 3)), (86, (.iload 7, 2)), (88, (.goto 5, 3)), (91, (.iload 4, 2)), (93, (.istore 4, 2)), (95, (.iinc 6 1, 3)), (98, (.goto (-84), 3)), (101, (.iload 4, 2)), (103, (.ireturn, 1))] : List (Nat × (Instr × Nat))), decode cX12_lateness r.1 = .ok r.2 := by decide +kernel
theorem dX12_lateness_69 : decode cX12_lateness 69 = .ok (.iload_n 2, 1) := dgX12_lateness_1 (69, (.iload_n 2, 1)) (List.mem_of_getElem? (i := 0) rfl)
theorem dX12_lateness_70 : decode cX12_lateness 70 = .ok (.if_icmp .ne 21, 3) := dgX12_lateness_1 (70, (.if_icmp .ne 21, 3)) (List.mem_of_getElem? (i := 1) rfl)
theorem dX12_lateness_73 : decode cX12_lateness 73 = .ok (.iload 4, 2) := dgX12_lateness_1 (73, (.iload 4, 2)) (List.mem_of_getElem? (i := 2) rfl)
theorem dX12_lateness_75 : decode cX12_lateness 75 = .ok (.iconst (-1), 1) := dgX12_lateness_1 (75, (.iconst (-1), 1)) (List.mem_of_getElem? (i := 3) rfl)
theorem dX12_lateness_76 : decode cX12_lateness 76 = .ok (.if_icmp .eq 10, 3) := dgX12_lateness_1 (76, (.if_icmp .eq 10, 3)) (List.mem_of_getElem? (i := 4) rfl)
theorem dX12_lateness_79 : decode cX12_lateness 79 = .ok (.iload 7, 2) := dgX12_lateness_1 (79, (.iload 7, 2)) (List.mem_of_getElem? (i := 5) rfl)
theorem dX12_lateness_81 : decode cX12_lateness 81 = .ok (.iload 4, 2) := dgX12_lateness_1 (81, (.iload 4, 2)) (List.mem_of_getElem? (i := 6) rfl)
theorem dX12_lateness_83 : decode cX12_lateness 83 = .ok (.if_icmp .ge 8, 3) := dgX12_lateness_1 (83, (.if_icmp .ge 8, 3)) (List.mem_of_getElem? (i := 7) rfl)
theorem dX12_lateness_86 : decode cX12_lateness 86 = .ok (.iload 7, 2) := dgX12_lateness_1 (86, (.iload 7, 2)) (List.mem_of_getElem? (i := 8) rfl)
theorem dX12_lateness_88 : decode cX12_lateness 88 = .ok (.goto 5, 3) := dgX12_lateness_1 (88, (.goto 5, 3)) (List.mem_of_getElem? (i := 9) rfl)
theorem dX12_lateness_91 : decode cX12_lateness 91 = .ok (.iload 4, 2) := dgX12_lateness_1 (91, (.iload 4, 2)) (List.mem_of_getElem? (i := 10) rfl)
theorem dX12_lateness_93 : decode cX12_lateness 93 = .ok (.istore 4, 2) := dgX12_lateness_1 (93, (.istore 4, 2)) (List.mem_of_getElem? (i := 11) rfl)
theorem dX12_lateness_95 : decode cX12_lateness 95 = .ok (.iinc 6 1, 3) := dgX12_lateness_1 (95, (.iinc 6 1, 3)) (List.mem_of_getElem? (i := 12) rfl)
theorem dX12_lateness_98 : decode cX12_lateness 98 = .ok (.goto (-84), 3) := dgX12_lateness_1 (98, (.goto (-84), 3)) (List.mem_of_getElem? (i := 13) rfl)
theorem dX12_lateness_101 : decode cX12_lateness 101 = .ok (.iload 4, 2) := dgX12_lateness_1 (101, (.iload 4, 2)) (List.mem_of_getElem? (i := 14) rfl)
theorem dX12_lateness_103 : decode cX12_lateness 103 = .ok (.ireturn, 1) := dgX12_lateness_1 (103, (.ireturn, 1)) (List.mem_of_getElem? (i := 15) rfl)
set_option maxHeartbeats 4000000 in
set_option maxRecDepth 100000 in
theorem n_lateness (l : Launch) (G : g5_G) (b_o b_ro b_se b_re b_pt b_rf b_im b_ke b_tp b_nl b_op b_ar b_pi b_pa b_ws b_hw b_ip b_ah b_be b_me b_tr b_ld b_wn : Nat) (sz : Nat) (u_th : Int32) (u_sa : Int32) (u_fd : Int32) (u_td : Int32) (u_fr : Int32) (u_to : Int32) (u_so : Int32) (u_fa : Int32) (u_bd : Int32) (u_nc : Int32) (u_co : Int32) (u_le : Int32) (u_pd : Int32) (u_od : Int32) (u_la : Int32) (u_bk : Int32) (u_ce : Int32) (u_ho : Int32) (u_wy : Int32) (u_bt : Int32) (u_ps : Int32) (u_tg : Int32) (u_sn : Int32) (u_ic : Int32) (u_wd : Int32) (u_id : Int32) (p_1 : Int32) (p_2 : Int32) (p_3 : Int32) (u_wo : Int64) (u_va : Int64) (u_su : Int64) (u_st : Int64) (v_ro : Nat → Int32) (v_se : Nat → Int64) (v_re : Nat → Int64) (v_pt : Nat → Int32) (h_u_td : 0 ≤ u_td.toInt ∧ u_td.toInt ≤ 400) (h_u_fr : 0 ≤ u_fr.toInt ∧ u_fr.toInt ≤ 400) (h_u_to : 0 ≤ u_to.toInt ∧ u_to.toInt ≤ 400) (h_u_bd : 0 ≤ u_bd.toInt ∧ u_bd.toInt ≤ 1) (h_u_nc : 0 ≤ u_nc.toInt ∧ u_nc.toInt ≤ 12) (h_u_co : 0 ≤ u_co.toInt ∧ u_co.toInt ≤ 400) (h_u_pd : 0 ≤ u_pd.toInt ∧ u_pd.toInt ≤ 400) (h_u_la : 0 ≤ u_la.toInt ∧ u_la.toInt ≤ 4840) (h_u_bk : 0 ≤ u_bk.toInt ∧ u_bk.toInt ≤ 1) (h_u_ce : 0 ≤ u_ce.toInt ∧ u_ce.toInt ≤ 63) (h_u_ho : 0 ≤ u_ho.toInt ∧ u_ho.toInt ≤ 23) (h_u_wy : 0 ≤ u_wy.toInt ∧ u_wy.toInt ≤ 3) (h_u_bt : 0 ≤ u_bt.toInt ∧ u_bt.toInt ≤ 1000000) (h_u_ps : 0 ≤ u_ps.toInt ∧ u_ps.toInt ≤ 200) (h_u_ic : 0 ≤ u_ic.toInt ∧ u_ic.toInt ≤ 1) (h_u_id : 0 ≤ u_id.toInt ∧ u_id.toInt ≤ 1) (h_p_1 : 0 ≤ p_1.toInt ∧ p_1.toInt ≤ 4) (h_p_3 : 0 ≤ p_3.toInt ∧ p_3.toInt ≤ 23) (r_ro : MI v_ro) (r_pt : PTI v_pt) : Met l yX12_lateness (wsG yX12_lateness cX12_lateness 8 (some .int)) ({ frames := 7, cells := 0, slots := 0, locals := 176 }) (va_Pc [.ref b_o, .int p_1, .int p_2, .int p_3] (g5_P G [(b_o, (oc12 u_th u_sa b_rf b_ro b_im b_ke u_fd b_tp u_td u_fr u_to u_so u_wo u_fa u_bd u_nc b_nl u_co b_op b_ar u_le b_pi b_pa u_pd u_od b_ws b_hw u_la b_se b_re u_bk u_va u_su u_ce u_ho u_wy u_bt u_ps b_pt u_tg u_sn b_ip u_ic b_ah b_be b_me u_wd b_tr b_ld u_st b_wn u_id)), (b_ro, (arI G 5740 v_ro)), (b_se, (arJ G 13 v_se)), (b_re, (arJ G 400 v_re)), (b_pt, (arI G 200 v_pt))] sz)) (va_Qi (fun (r : Int32) (u : va_W) => (∃ (o_r : Int32) (o_la : Int32) (o_bk : Int32) (o_va : Int64) (o_su : Int64) (o_ce : Int32) (o_ho : Int32) (o_wy : Int32) (o_bt : Int32) (o_ps : Int32) (o_tg : Int32) (o_sn : Int32) (o_se : Nat → Int64) (o_re : Nat → Int64) (o_pt : Nat → Int32), (0 ≤ o_la.toInt ∧ o_la.toInt ≤ 4840) ∧ (0 ≤ o_bk.toInt ∧ o_bk.toInt ≤ 1) ∧ (0 ≤ o_ce.toInt ∧ o_ce.toInt ≤ 63) ∧ (0 ≤ o_ho.toInt ∧ o_ho.toInt ≤ 23) ∧ (0 ≤ o_wy.toInt ∧ o_wy.toInt ≤ 3) ∧ (0 ≤ o_bt.toInt ∧ o_bt.toInt ≤ 1000000) ∧ (0 ≤ o_ps.toInt ∧ o_ps.toInt ≤ 200) ∧ (PTI o_pt) ∧ (r = o_r) ∧ (u = [(b_o, (oc12 u_th u_sa b_rf b_ro b_im b_ke u_fd b_tp u_td u_fr u_to u_so u_wo u_fa u_bd u_nc b_nl u_co b_op b_ar u_le b_pi b_pa u_pd u_od b_ws b_hw o_la b_se b_re o_bk o_va o_su o_ce o_ho o_wy o_bt o_ps b_pt o_tg o_sn b_ip u_ic b_ah b_be b_me u_wd b_tr b_ld u_st b_wn u_id)), (b_ro, (arI G 5740 v_ro)), (b_se, (arJ G 13 o_se)), (b_re, (arJ G 400 o_re)), (b_pt, (arI G 200 o_pt))]))) (g5_B G (va_A [(b_o, (oc12 u_th u_sa b_rf b_ro b_im b_ke u_fd b_tp u_td u_fr u_to u_so u_wo u_fa u_bd u_nc b_nl u_co b_op b_ar u_le b_pi b_pa u_pd u_od b_ws b_hw u_la b_se b_re u_bk u_va u_su u_ce u_ho u_wy u_bt u_ps b_pt u_tg u_sn b_ip u_ic b_ah b_be b_me u_wd b_tr b_ld u_st b_wn u_id)), (b_ro, (arI G 5740 v_ro)), (b_se, (arJ G 13 v_se)), (b_re, (arJ G 400 v_re)), (b_pt, (arI G 200 v_pt))] sz)) (va_A [(b_o, (oc12 u_th u_sa b_rf b_ro b_im b_ke u_fd b_tp u_td u_fr u_to u_so u_wo u_fa u_bd u_nc b_nl u_co b_op b_ar u_le b_pi b_pa u_pd u_od b_ws b_hw u_la b_se b_re u_bk u_va u_su u_ce u_ho u_wy u_bt u_ps b_pt u_tg u_sn b_ip u_ic b_ah b_be b_me u_wd b_tr b_ld u_st b_wn u_id)), (b_ro, (arI G 5740 v_ro)), (b_se, (arJ G 13 v_se)), (b_re, (arJ G 400 v_re)), (b_pt, (arI G 200 v_pt))] sz)) 0 0 (va_A [(b_o, (oc12 u_th u_sa b_rf b_ro b_im b_ke u_fd b_tp u_td u_fr u_to u_so u_wo u_fa u_bd u_nc b_nl u_co b_op b_ar u_le b_pi b_pa u_pd u_od b_ws b_hw u_la b_se b_re u_bk u_va u_su u_ce u_ho u_wy u_bt u_ps b_pt u_tg u_sn b_ip u_ic b_ah b_be b_me u_wd b_tr b_ld u_st b_wn u_id)), (b_ro, (arI G 5740 v_ro)), (b_se, (arJ G 13 v_se)), (b_re, (arJ G 400 v_re)), (b_pt, (arI G 200 v_pt))] sz) := by
  refine Met.ofW (cc := cX12_lateness) (maxL := 8) (ret := (some .int)) (by decide +kernel) rfl ?_
  intro p e s m args below meth c s₁ B hml hv
  obtain ⟨rfl, hsz, hP, hK, hD0, hN, hT⟩ := hv
  have hx := B.exec
  have hb := B.bytes
  have hr := B.returns
  have hts : ∀ w ∈ tblG, w.before _ s = true := fun w h => atoms_spec (ws := (wsG yX12_lateness cX12_lateness 8 (some .int))) B.pre w (List.mem_cons_of_mem _ h)
  have hown : s.vm.findClass RX12 = some m.cls := findClass_of_methodNamed B.named
  have hlocks := B.notSynchronized
  subst hsz
  have hD := hD0.self (sz := s.heap.size)
  generalize hAe : va_A [(b_o, (oc12 u_th u_sa b_rf b_ro b_im b_ke u_fd b_tp u_td u_fr u_to u_so u_wo u_fa u_bd u_nc b_nl u_co b_op b_ar u_le b_pi b_pa u_pd u_od b_ws b_hw u_la b_se b_re u_bk u_va u_su u_ce u_ho u_wy u_bt u_ps b_pt u_tg u_sn b_ip u_ic b_ah b_be b_me u_wd b_tr b_ld u_st b_wn u_id)), (b_ro, (arI G 5740 v_ro)), (b_se, (arJ G 13 v_se)), (b_re, (arJ G 400 v_re)), (b_pt, (arI G 200 v_pt))] s.heap.size = A at hD hT ⊢
  have hA : ∀ q : Nat, s.heap.size ≤ q → A q := fun q h => by rw [← hAe]; exact Or.inr h
  have hS : va_S A s.heap s.heap [] := va_S.rf
  replace hP : va_P G.1 vwCl [(b_o, (oc12 u_th u_sa b_rf b_ro b_im b_ke u_fd b_tp u_td u_fr u_to u_so u_wo u_fa u_bd u_nc b_nl u_co b_op b_ar u_le b_pi b_pa u_pd u_od b_ws b_hw u_la b_se b_re u_bk u_va u_su u_ce u_ho u_wy u_bt u_ps b_pt u_tg u_sn b_ip u_ic b_ah b_be b_me u_wd b_tr b_ld u_st b_wn u_id)), (b_ro, (arI G 5740 v_ro)), (b_se, (arJ G 13 v_se)), (b_re, (arJ G 400 v_re)), (b_pt, (arI G 200 v_pt))] s.heap := hP
  have hl := lv_entry ([.ref b_o, .int p_1, .int p_2, .int p_3]) (n := 8) (Nat.le_of_ble_eq_true rfl)
  rw [lg_entry_eq]
  generalize (lg_sl ([.ref b_o, .int p_1, .int p_2, .int p_3]) ++ List.replicate (8 - (lg_sl ([.ref b_o, .int p_1, .int p_2, .int p_3])).length) Slot.unset).toArray = ls at hl ⊢
  replace hl : lv_has ls 8 [(0, .ref b_o), (1, .int p_1), (2, .int p_2), (3, .int p_3)] := hl
  refine lv_iconst (v := (-1)) hx hb dX12_lateness_0 (by decide +kernel) ?_
  refine lv_istore (lv' := [(4, .int (-1)), (0, .ref b_o), (1, .int p_1), (2, .int p_2), (3, .int p_3)]) hx hb dX12_lateness_1 hl (by decide +kernel) rfl ?_
  clear hl
  intro ls hl
  refine lv_aload_n hx hb dX12_lateness_3 rfl (lv_at hl 1 rfl) ?_
  refine lv_iload_n hx hb dX12_lateness_4 rfl (lv_at hl 2 rfl) ?_
  refine W.eq (g2 := F0 m 5 ls [.int p_1, .ref b_o]) rfl ?_
  refine lv_iload_n hx hb dX12_lateness_5 rfl (lv_at hl 4 rfl) ?_
  obtain ⟨hPc, hDc, hFc⟩ := g5_sub3 (wc := [(b_o, (oc12 u_th u_sa b_rf b_ro b_im b_ke u_fd b_tp u_td u_fr u_to u_so u_wo u_fa u_bd u_nc b_nl u_co b_op b_ar u_le b_pi b_pa u_pd u_od b_ws b_hw u_la b_se b_re u_bk u_va u_su u_ce u_ho u_wy u_bt u_ps b_pt u_tg u_sn b_ip u_ic b_ah b_be b_me u_wd b_tr b_ld u_st b_wn u_id)), (b_ro, (arI G 5740 v_ro))]) hP hD hS hA [0, 1] (by decide +kernel) rfl
  refine va_calli (va_runV (As := [.int p_1, .int p_3]) (rest := []) ⟨hx, hb, hml, hown, hts⟩ (n_whereIsX l G b_o b_ro b_rf b_im b_ke b_tp b_nl b_op b_ar b_pi b_pa b_ws b_hw b_se b_re b_pt b_ip b_ah b_be b_me b_tr b_ld b_wn s.heap.size u_th u_sa u_fd u_td u_fr u_to u_so u_fa u_bd u_nc u_co u_le u_pd u_od u_la u_bk u_ce u_ho u_wy u_bt u_ps u_tg u_sn u_ic u_wd u_id p_1 p_3 u_wo u_va u_su u_st v_ro h_u_td h_u_fr h_u_to h_u_bd h_u_nc h_u_co h_u_pd h_u_la h_u_bk h_u_ce h_u_ho h_u_wy h_u_bt h_u_ps h_u_ic h_u_id h_p_1 h_p_3 (r_ro)) (cwV 2 hts gV_X12_187 rfl rfl rfl hv_X12_whereIs ⟨Nat.le_of_ble_eq_true rfl, Nat.le_of_ble_eq_true rfl⟩) (g5_preV hPc hK hDc hN hT hS hFc (ci := 12) (q0 := 0) rfl rfl) rfl rfl hl.1 rfl (lv_room (Nat.le_of_ble_eq_true rfl)) dX12_lateness_6 ⟨Nat.le_of_ble_eq_true rfl, Nat.le_of_ble_eq_true rfl⟩) hS (fun q _ h => hFc q h) hFc (fun r u t H locs ht hvm hw hB hz1 hk1 hS => ?_)
  obtain ⟨hP1, hD1⟩ := hB
  have hP1 := g5_ht ht hP1
  obtain ⟨z3, (i_1 : (-1) ≤ z3.toInt ∧ z3.toInt ≤ 63), (i_2 : z3.toInt = (v_ro ((110 + (24 * p_1)) + p_3).toNatClampNeg).toInt), y4, rfl⟩ := hw
  have hJ9 := va_join (wr := [(b_se, (arJ G 13 v_se)), (b_re, (arJ G 400 v_re)), (b_pt, (arI G 200 v_pt))]) hP hD [0, 1] [2, 3, 4] rfl rfl (by decide +kernel) (by decide +kernel) hk1 hFc hP1 hD1
  clear hP hD hPc hDc hFc ht hvm hz1 hk1 hP1 hD1
  obtain ⟨hP, hD⟩ := hJ9
  refine g5_rs [(b_se, (arJ G 13 v_se)), (b_re, (arJ G 400 v_re)), (b_pt, (arI G 200 v_pt)), (b_o, (oc12 u_th u_sa b_rf b_ro b_im b_ke u_fd b_tp u_td u_fr u_to u_so u_wo u_fa u_bd u_nc b_nl u_co b_op b_ar u_le b_pi b_pa u_pd u_od b_ws b_hw u_la b_se b_re u_bk u_va u_su u_ce u_ho u_wy u_bt u_ps b_pt u_tg u_sn b_ip u_ic b_ah b_be b_me u_wd b_tr b_ld u_st b_wn u_id)), (b_ro, (arI G 5740 v_ro))] hP hD ?_
  clear hP hD
  intro hP hD
  refine g5_ti (v := z3) y4 ?_
  refine lv_istore (lv' := [(5, .int z3), (4, .int (-1)), (0, .ref b_o), (1, .int p_1), (2, .int p_2), (3, .int p_3)]) hx hb dX12_lateness_9 hl (by decide +kernel) rfl ?_
  clear hl
  intro ls hl
  refine lv_iconst (v := 0) hx hb dX12_lateness_11 (by decide +kernel) ?_
  refine lv_istore (lv' := [(6, .int 0), (5, .int z3), (4, .int (-1)), (0, .ref b_o), (1, .int p_1), (2, .int p_2), (3, .int p_3)]) hx hb dX12_lateness_12 hl (by decide +kernel) rfl ?_
  clear hl
  intro ls hl
  refine g5_loop (α := (Int32) × (Int32) × (Int32) × (Int32) × (Int64) × (Int64) × (Int32) × (Int32) × (Int32) × (Int32) × (Int32) × (Int32) × (Int32) × (Nat → Int64) × (Nat → Int64) × (Nat → Int32)) (fun (q : (Int32) × (Int32) × (Int32) × (Int32) × (Int64) × (Int64) × (Int32) × (Int32) × (Int32) × (Int32) × (Int32) × (Int32) × (Int32) × (Nat → Int64) × (Nat → Int64) × (Nat → Int32)) (ls : Array Slot) (H : Heap) (locs : List Loc) => match q with | (k14_6, k14_4, k14_la, k14_bk, k14_va, k14_su, k14_ce, k14_ho, k14_wy, k14_bt, k14_ps, k14_tg, k14_sn, k14_se, k14_re, k14_pt) => lv_has ls 8 [(4, .int k14_4), (6, .int k14_6), (5, .int z3), (0, .ref b_o), (1, .int p_1), (2, .int p_2), (3, .int p_3)] ∧ va_P G.1 vwCl [(b_se, (arJ G 13 k14_se)), (b_re, (arJ G 400 k14_re)), (b_pt, (arI G 200 k14_pt)), (b_o, (oc12 u_th u_sa b_rf b_ro b_im b_ke u_fd b_tp u_td u_fr u_to u_so u_wo u_fa u_bd u_nc b_nl u_co b_op b_ar u_le b_pi b_pa u_pd u_od b_ws b_hw k14_la b_se b_re k14_bk k14_va k14_su k14_ce k14_ho k14_wy k14_bt k14_ps b_pt k14_tg k14_sn b_ip u_ic b_ah b_be b_me u_wd b_tr b_ld u_st b_wn u_id)), (b_ro, (arI G 5740 v_ro))] H ∧ va_D A [(b_se, (arJ G 13 k14_se)), (b_re, (arJ G 400 k14_re)), (b_pt, (arI G 200 k14_pt)), (b_o, (oc12 u_th u_sa b_rf b_ro b_im b_ke u_fd b_tp u_td u_fr u_to u_so u_wo u_fa u_bd u_nc b_nl u_co b_op b_ar u_le b_pi b_pa u_pd u_od b_ws b_hw k14_la b_se b_re k14_bk k14_va k14_su k14_ce k14_ho k14_wy k14_bt k14_ps b_pt k14_tg k14_sn b_ip u_ic b_ah b_be b_me u_wd b_tr b_ld u_st b_wn u_id)), (b_ro, (arI G 5740 v_ro))] ∧ va_S A s.heap H locs ∧ (0 ≤ k14_6.toInt ∧ k14_6.toInt ≤ 4) ∧ (0 ≤ k14_la.toInt ∧ k14_la.toInt ≤ 4840) ∧ (0 ≤ k14_bk.toInt ∧ k14_bk.toInt ≤ 1) ∧ (0 ≤ k14_ce.toInt ∧ k14_ce.toInt ≤ 63) ∧ (0 ≤ k14_ho.toInt ∧ k14_ho.toInt ≤ 23) ∧ (0 ≤ k14_wy.toInt ∧ k14_wy.toInt ≤ 3) ∧ (0 ≤ k14_bt.toInt ∧ k14_bt.toInt ≤ 1000000) ∧ (0 ≤ k14_ps.toInt ∧ k14_ps.toInt ≤ 200) ∧ (PTI k14_pt)) (fun (q : (Int32) × (Int32) × (Int32) × (Int32) × (Int64) × (Int64) × (Int32) × (Int32) × (Int32) × (Int32) × (Int32) × (Int32) × (Int32) × (Nat → Int64) × (Nat → Int64) × (Nat → Int32)) => match q with | (k14_6, k14_4, k14_la, k14_bk, k14_va, k14_su, k14_ce, k14_ho, k14_wy, k14_bt, k14_ps, k14_tg, k14_sn, k14_se, k14_re, k14_pt) => Int.toNat (4 - k14_6.toInt)) (0, (-1), u_la, u_bk, u_va, u_su, u_ce, u_ho, u_wy, u_bt, u_ps, u_tg, u_sn, v_se, v_re, v_pt) ⟨lv_sub hl [2, 0, 1, 3, 4, 5, 6] rfl, hP, hD, hS, ⟨by decide, by decide⟩, h_u_la, h_u_bk, h_u_ce, h_u_ho, h_u_wy, h_u_bt, h_u_ps, r_pt⟩ ?_
  rintro ⟨k14_6, k14_4, k14_la, k14_bk, k14_va, k14_su, k14_ce, k14_ho, k14_wy, k14_bt, k14_ps, k14_tg, k14_sn, k14_se, k14_re, k14_pt⟩ ls H locs ⟨hl, hP, hD, hS, (i_5 : 0 ≤ k14_6.toInt ∧ k14_6.toInt ≤ 4), (i_6 : 0 ≤ k14_la.toInt ∧ k14_la.toInt ≤ 4840), (i_7 : 0 ≤ k14_bk.toInt ∧ k14_bk.toInt ≤ 1), (i_8 : 0 ≤ k14_ce.toInt ∧ k14_ce.toInt ≤ 63), (i_9 : 0 ≤ k14_ho.toInt ∧ k14_ho.toInt ≤ 23), (i_10 : 0 ≤ k14_wy.toInt ∧ k14_wy.toInt ≤ 3), (i_11 : 0 ≤ k14_bt.toInt ∧ k14_bt.toInt ≤ 1000000), (i_12 : 0 ≤ k14_ps.toInt ∧ k14_ps.toInt ≤ 200), (i_13 : PTI k14_pt)⟩ ih_14_14
  replace hl : lv_has ls 8 [(4, .int k14_4), (6, .int k14_6), (5, .int z3), (0, .ref b_o), (1, .int p_1), (2, .int p_2), (3, .int p_3)] := hl
  refine g5_rs [(b_se, (arJ G 13 k14_se)), (b_re, (arJ G 400 k14_re)), (b_pt, (arI G 200 k14_pt)), (b_o, (oc12 u_th u_sa b_rf b_ro b_im b_ke u_fd b_tp u_td u_fr u_to u_so u_wo u_fa u_bd u_nc b_nl u_co b_op b_ar u_le b_pi b_pa u_pd u_od b_ws b_hw k14_la b_se b_re k14_bk k14_va k14_su k14_ce k14_ho k14_wy k14_bt k14_ps b_pt k14_tg k14_sn b_ip u_ic b_ah b_be b_me u_wd b_tr b_ld u_st b_wn u_id)), (b_ro, (arI G 5740 v_ro))] hP hD ?_
  clear hP hD
  intro hP hD
  refine lv_iload hx hb dX12_lateness_14 (lv_at hl 1 rfl) ?_
  refine lv_iconst (v := 4) hx hb dX12_lateness_16 (by decide +kernel) ?_
  refine lv_icmp_ge (tgt := 101) hx hb dX12_lateness_17 (by decide +kernel) (fun c_15 => ?_) (fun c_15 => ?_)
  ·
    have i_15 : k14_6.toInt ≥ 4 := g5_ge (a := k14_6.toInt) (b := 4) rfl (by decide +kernel) c_15
    refine lv_iload hx hb dX12_lateness_101 (lv_at hl 0 rfl) ?_
    exact W.iret (v := k14_4) hx hb hr (fun t ht hW => ⟨⟨k14_4, [(b_o, (oc12 u_th u_sa b_rf b_ro b_im b_ke u_fd b_tp u_td u_fr u_to u_so u_wo u_fa u_bd u_nc b_nl u_co b_op b_ar u_le b_pi b_pa u_pd u_od b_ws b_hw k14_la b_se b_re k14_bk k14_va k14_su k14_ce k14_ho k14_wy k14_bt k14_ps b_pt k14_tg k14_sn b_ip u_ic b_ah b_be b_me u_wd b_tr b_ld u_st b_wn u_id)), (b_ro, (arI G 5740 v_ro)), (b_se, (arJ G 13 k14_se)), (b_re, (arJ G 400 k14_re)), (b_pt, (arI G 200 k14_pt))], rfl, ⟨k14_4, k14_la, k14_bk, k14_va, k14_su, k14_ce, k14_ho, k14_wy, k14_bt, k14_ps, k14_tg, k14_sn, k14_se, k14_re, k14_pt, i_6, i_7, i_8, i_9, i_10, i_11, i_12, i_13, rfl, rfl⟩, by rw [ht]; exact hP.sub [3, 4, 0, 1, 2] rfl, hD.sub [3, 4, 0, 1, 2] (by decide +kernel) rfl⟩, hS.F ht⟩) hS.2.2 dX12_lateness_103
  ·
    have i_15 : k14_6.toInt < 4 := g5_geN (a := k14_6.toInt) (b := 4) rfl (by decide +kernel) c_15
    refine lv_iload hx hb dX12_lateness_20 (lv_at hl 2 rfl) ?_
    refine lv_iconst (v := (-1)) hx hb dX12_lateness_22 (by decide +kernel) ?_
    refine lv_icmp_eq (tgt := 101) hx hb dX12_lateness_23 (by decide +kernel) (fun c_16 => ?_) (fun c_16 => ?_)
    ·
      have i_16 : z3.toInt = (-1) := g5_eq (a := z3.toInt) (b := (-1)) rfl (by decide +kernel) c_16
      refine lv_iload hx hb dX12_lateness_101 (lv_at hl 0 rfl) ?_
      exact W.iret (v := k14_4) hx hb hr (fun t ht hW => ⟨⟨k14_4, [(b_o, (oc12 u_th u_sa b_rf b_ro b_im b_ke u_fd b_tp u_td u_fr u_to u_so u_wo u_fa u_bd u_nc b_nl u_co b_op b_ar u_le b_pi b_pa u_pd u_od b_ws b_hw k14_la b_se b_re k14_bk k14_va k14_su k14_ce k14_ho k14_wy k14_bt k14_ps b_pt k14_tg k14_sn b_ip u_ic b_ah b_be b_me u_wd b_tr b_ld u_st b_wn u_id)), (b_ro, (arI G 5740 v_ro)), (b_se, (arJ G 13 k14_se)), (b_re, (arJ G 400 k14_re)), (b_pt, (arI G 200 k14_pt))], rfl, ⟨k14_4, k14_la, k14_bk, k14_va, k14_su, k14_ce, k14_ho, k14_wy, k14_bt, k14_ps, k14_tg, k14_sn, k14_se, k14_re, k14_pt, i_6, i_7, i_8, i_9, i_10, i_11, i_12, i_13, rfl, rfl⟩, by rw [ht]; exact hP.sub [3, 4, 0, 1, 2] rfl, hD.sub [3, 4, 0, 1, 2] (by decide +kernel) rfl⟩, hS.F ht⟩) hS.2.2 dX12_lateness_103
    ·
      have n_16 : gNe (z3.toInt) ((-1)) := g5_eqN (a := z3.toInt) (b := (-1)) rfl (by decide +kernel) c_16
      have i_16 : z3.toInt ≥ 0 := by have z := g5_eqN (a := z3.toInt) (b := (-1)) (by rfl) (by decide +kernel) c_16; omega
      refine lv_aload_n hx hb dX12_lateness_26 rfl (lv_at hl 3 rfl) ?_
      refine lv_iload hx hb dX12_lateness_27 (lv_at hl 2 rfl) ?_
      refine lv_iload hx hb dX12_lateness_29 (lv_at hl 1 rfl) ?_
      refine lv_iload_n hx hb dX12_lateness_31 rfl (lv_at hl 6 rfl) ?_
      refine W.eq (g2 := F0 m 32 ls [.int p_3, .int k14_6, .int z3, .ref b_o]) rfl ?_
      refine lv_iconst (v := 0) hx hb dX12_lateness_32 (by decide +kernel) ?_
      obtain ⟨hPc, hDc, hFc⟩ := g5_sub3 (wc := [(b_o, (oc12 u_th u_sa b_rf b_ro b_im b_ke u_fd b_tp u_td u_fr u_to u_so u_wo u_fa u_bd u_nc b_nl u_co b_op b_ar u_le b_pi b_pa u_pd u_od b_ws b_hw k14_la b_se b_re k14_bk k14_va k14_su k14_ce k14_ho k14_wy k14_bt k14_ps b_pt k14_tg k14_sn b_ip u_ic b_ah b_be b_me u_wd b_tr b_ld u_st b_wn u_id)), (b_ro, (arI G 5740 v_ro)), (b_se, (arJ G 13 k14_se)), (b_re, (arJ G 400 k14_re)), (b_pt, (arI G 200 k14_pt))]) hP hD hS hA [3, 4, 0, 1, 2] (by decide +kernel) rfl
      refine va_callv (va_runV (As := [.int z3, .int k14_6, .int p_3, .int 0]) (rest := []) ⟨hx, hb, hml, hown, hts⟩ (n_go l G b_o b_ro b_se b_re b_pt b_rf b_im b_ke b_tp b_nl b_op b_ar b_pi b_pa b_ws b_hw b_ip b_ah b_be b_me b_tr b_ld b_wn H.size u_th u_sa u_fd u_td u_fr u_to u_so u_fa u_bd u_nc u_co u_le u_pd u_od k14_la k14_bk k14_ce k14_ho k14_wy k14_bt k14_ps k14_tg k14_sn u_ic u_wd u_id z3 k14_6 p_3 0 u_wo k14_va k14_su u_st v_ro k14_se k14_re k14_pt h_u_td h_u_fr h_u_to h_u_bd h_u_nc h_u_co h_u_pd i_6 i_7 i_8 i_9 i_10 i_11 i_12 h_u_ic h_u_id ⟨by omega, by omega⟩ ⟨by omega, by omega⟩ h_p_3 (r_ro) (i_13)) (cwV 4 hts gV_X12_401 rfl rfl rfl hv_X12_go ⟨Nat.le_of_ble_eq_true rfl, Nat.le_of_ble_eq_true rfl⟩) (g5_preV hPc hK hDc hN hT hS hFc (ci := 12) (q0 := 0) rfl rfl) rfl rfl hl.1 rfl (lv_room (Nat.le_of_ble_eq_true rfl)) dX12_lateness_33 ⟨Nat.le_of_ble_eq_true rfl, Nat.le_of_ble_eq_true rfl⟩) hS (fun q _ h => hFc q h) hFc (fun u t H locs ht hvm hw hB hz1 hk1 hS => ?_)
      obtain ⟨hP1, hD1⟩ := hB
      have hP1 := g5_ht ht hP1
      obtain ⟨z25, z26, z27, z28, z29, z30, z31, z32, z33, z34, z35, z36, z37, z38, (i_17 : 0 ≤ z25.toInt ∧ z25.toInt ≤ 4840), (i_18 : 0 ≤ z26.toInt ∧ z26.toInt ≤ 1), (i_19 : 0 ≤ z29.toInt ∧ z29.toInt ≤ 63), (i_20 : 0 ≤ z30.toInt ∧ z30.toInt ≤ 23), (i_21 : 0 ≤ z31.toInt ∧ z31.toInt ≤ 3), (i_22 : 0 ≤ z32.toInt ∧ z32.toInt ≤ 1000000), (i_23 : 0 ≤ z33.toInt ∧ z33.toInt ≤ 200), (i_24 : PTI z38), rfl⟩ := hw
      have hJ9 := va_join (wr := []) hP hD [3, 4, 0, 1, 2] [] rfl rfl (by decide +kernel) (by decide +kernel) hk1 hFc hP1 hD1
      clear hP hD hPc hDc hFc ht hvm hz1 hk1 hP1 hD1
      obtain ⟨hP, hD⟩ := hJ9
      refine g5_rs [(b_o, (oc12 u_th u_sa b_rf b_ro b_im b_ke u_fd b_tp u_td u_fr u_to u_so u_wo u_fa u_bd u_nc b_nl u_co b_op b_ar u_le b_pi b_pa u_pd u_od b_ws b_hw z25 b_se b_re z26 z27 z28 z29 z30 z31 z32 z33 b_pt z34 z35 b_ip u_ic b_ah b_be b_me u_wd b_tr b_ld u_st b_wn u_id)), (b_ro, (arI G 5740 v_ro)), (b_se, (arJ G 13 z36)), (b_re, (arJ G 400 z37)), (b_pt, (arI G 200 z38))] hP hD ?_
      clear hP hD
      intro hP hD
      refine lv_aload_n hx hb dX12_lateness_36 rfl (lv_at hl 3 rfl) ?_
      refine va_get (D := G.1) (ci := 12) (v := .int z33) (C := RX12) (T := TX12) (N := 52) hx hb hts inG_X12 hown hK hP 0 rfl rfl 37 (by decide +kernel) (hts _ fl_X12_358) (fun _ h9 => h9) rfl dX12_lateness_37 ?_
      refine lv_if_ne (tgt := 47) hx hb dX12_lateness_40 (by decide +kernel) (fun c_39 => ?_) (fun c_39 => ?_)
      ·
        have n_39 : gNe (z33.toInt) (0) := g5_ne (a := z33.toInt) (b := 0) rfl (by decide +kernel) c_39
        have i_39 : z33.toInt ≥ 1 := by have z := g5_ne (a := z33.toInt) (b := 0) (by rfl) (by decide +kernel) c_39; omega
        refine lv_iload_n hx hb dX12_lateness_47 rfl (lv_at hl 6 rfl) ?_
        refine lv_aload_n hx hb dX12_lateness_48 rfl (lv_at hl 3 rfl) ?_
        refine va_get (D := G.1) (ci := 12) (v := .ref b_pt) (C := RX12) (T := TX12) (N := 52) hx hb hts inG_X12 hown hK hP 0 rfl rfl 38 (by decide +kernel) (hts _ fl_X12_82) (fun _ h9 => h9) rfl dX12_lateness_49 ?_
        refine lv_aload_n hx hb dX12_lateness_52 rfl (lv_at hl 3 rfl) ?_
        refine W.eq (g2 := F0 m 53 ls [.ref b_o, .ref b_pt, .int p_3]) rfl ?_
        refine va_get (D := G.1) (ci := 12) (v := .int z33) (C := RX12) (T := TX12) (N := 52) hx hb hts inG_X12 hown hK hP 0 rfl rfl 37 (by decide +kernel) (hts _ fl_X12_358) (fun _ h9 => h9) rfl dX12_lateness_53 ?_
        refine lv_iconst (v := 1) hx hb dX12_lateness_56 (by decide +kernel) ?_
        refine lv_isub hx hb dX12_lateness_57 ?_
        have t_40 : (z33 - 1).toInt = z33.toInt - 1 := g5_isub (a := z33.toInt) (b := 1) (by rfl) (by decide +kernel) (by omega) (by omega)
        refine va_iald hx hb hK hP 4 0 rfl rfl (i := (z33 - 1)) (vp_in_iff.mpr ⟨by omega, by omega⟩) dX12_lateness_58 ?_
        have hr_41 : 0 ≤ (z38 (z33 - 1).toNatClampNeg).toInt ∧ (z38 (z33 - 1).toNatClampNeg).toInt ≤ 1535 := i_24 ((z33 - 1).toNatClampNeg)
        refine lv_bipush (v := 64) hx hb dX12_lateness_59 (by decide +kernel) ?_
        refine W.eq (g2 := F0 m 61 ls [.int 64, .int (z38 (z33 - 1).toNatClampNeg), .int p_3]) rfl ?_
        refine lv_idiv hx hb dX12_lateness_61 (by decide +kernel) ?_
        have t_42 : ((z38 (z33 - 1).toNatClampNeg) / 64).toInt = (z38 (z33 - 1).toNatClampNeg).toInt / 64 := g5_idiv (a := (z38 (z33 - 1).toNatClampNeg).toInt) (b := 64) rfl (by decide +kernel) (by omega) (by decide +kernel)
        refine lv_isub hx hb dX12_lateness_62 ?_
        have t_43 : (p_3 - ((z38 (z33 - 1).toNatClampNeg) / 64)).toInt = p_3.toInt - ((z38 (z33 - 1).toNatClampNeg) / 64).toInt := g5_isub (a := p_3.toInt) (b := ((z38 (z33 - 1).toNatClampNeg) / 64).toInt) (by rfl) (by rfl) (by omega) (by omega)
        refine lv_istore (lv' := [(7, .int (p_3 - ((z38 (z33 - 1).toNatClampNeg) / 64))), (4, .int k14_4), (6, .int k14_6), (5, .int z3), (0, .ref b_o), (1, .int p_1), (2, .int p_2), (3, .int p_3)]) hx hb dX12_lateness_63 hl (by decide +kernel) rfl ?_
        clear hl
        intro ls hl
        refine lv_aload_n hx hb dX12_lateness_65 rfl (lv_at hl 4 rfl) ?_
        refine va_get (D := G.1) (ci := 12) (v := .int z35) (C := RX12) (T := TX12) (N := 52) hx hb hts inG_X12 hown hK hP 0 rfl rfl 40 (by decide +kernel) (hts _ fl_X12_371) (fun _ h9 => h9) rfl dX12_lateness_66 ?_
        refine W.eq (g2 := F0 m 69 ls [.int z35]) rfl ?_
        refine lv_iload_n hx hb dX12_lateness_69 rfl (lv_at hl 6 rfl) ?_
        refine lv_icmp_ne (tgt := 91) hx hb dX12_lateness_70 (by decide +kernel) (fun c_44 => ?_) (fun c_44 => ?_)
        ·
          have n_44 : gNe (z35.toInt) (p_2.toInt) := g5_ne (a := z35.toInt) (b := p_2.toInt) rfl rfl c_44
          refine lv_iload hx hb dX12_lateness_91 (lv_at hl 1 rfl) ?_
          refine lv_istore (lv' := [(4, .int k14_4), (7, .int (p_3 - ((z38 (z33 - 1).toNatClampNeg) / 64))), (6, .int k14_6), (5, .int z3), (0, .ref b_o), (1, .int p_1), (2, .int p_2), (3, .int p_3)]) hx hb dX12_lateness_93 hl (by decide +kernel) rfl ?_
          clear hl
          intro ls hl
          refine lv_iinc (v := (k14_6 + 1)) (lv' := [(6, .int (k14_6 + 1)), (4, .int k14_4), (7, .int (p_3 - ((z38 (z33 - 1).toNatClampNeg) / 64))), (5, .int z3), (0, .ref b_o), (1, .int p_1), (2, .int p_2), (3, .int p_3)]) hx hb dX12_lateness_95 hl (k := 2) rfl rfl (by decide +kernel) rfl ?_
          clear hl
          intro ls hl
          have t_45 : (k14_6 + 1).toInt = k14_6.toInt + 1 := g5_iadd (a := k14_6.toInt) (b := 1) rfl (by decide +kernel) (by omega) (by omega)
          refine lv_goto (tgt := 14) hx hb dX12_lateness_98 (by decide +kernel) ?_
          exact ih_14_14 ((k14_6 + 1), k14_4, z25, z26, z27, z28, z29, z30, z31, z32, z33, z34, z35, z36, z37, z38) ls H locs (show Int.toNat (4 - (k14_6 + 1).toInt) < Int.toNat (4 - k14_6.toInt) from g_up (show k14_6.toInt < (k14_6 + 1).toInt by omega) (show k14_6.toInt < 4 by omega)) ⟨lv_sub hl [1, 0, 3, 4, 5, 6, 7] rfl, hP.sub [2, 3, 4, 0, 1] rfl, hD.sub [2, 3, 4, 0, 1] (by decide +kernel) rfl, hS, ⟨by omega, by omega⟩, i_17, i_18, i_19, i_20, i_21, i_22, i_23, i_24⟩
        ·
          have i_44 : z35.toInt = p_2.toInt := g5_neN (a := z35.toInt) (b := p_2.toInt) rfl rfl c_44
          refine lv_iload hx hb dX12_lateness_73 (lv_at hl 1 rfl) ?_
          refine lv_iconst (v := (-1)) hx hb dX12_lateness_75 (by decide +kernel) ?_
          refine lv_icmp_eq (tgt := 86) hx hb dX12_lateness_76 (by decide +kernel) (fun c_46 => ?_) (fun c_46 => ?_)
          ·
            have i_46 : k14_4.toInt = (-1) := g5_eq (a := k14_4.toInt) (b := (-1)) rfl (by decide +kernel) c_46
            refine lv_iload hx hb dX12_lateness_86 (lv_at hl 0 rfl) ?_
            refine lv_goto (tgt := 93) hx hb dX12_lateness_88 (by decide +kernel) ?_
            refine lv_istore (lv' := [(4, .int (p_3 - ((z38 (z33 - 1).toNatClampNeg) / 64))), (7, .int (p_3 - ((z38 (z33 - 1).toNatClampNeg) / 64))), (6, .int k14_6), (5, .int z3), (0, .ref b_o), (1, .int p_1), (2, .int p_2), (3, .int p_3)]) hx hb dX12_lateness_93 hl (by decide +kernel) rfl ?_
            clear hl
            intro ls hl
            refine lv_iinc (v := (k14_6 + 1)) (lv' := [(6, .int (k14_6 + 1)), (4, .int (p_3 - ((z38 (z33 - 1).toNatClampNeg) / 64))), (7, .int (p_3 - ((z38 (z33 - 1).toNatClampNeg) / 64))), (5, .int z3), (0, .ref b_o), (1, .int p_1), (2, .int p_2), (3, .int p_3)]) hx hb dX12_lateness_95 hl (k := 2) rfl rfl (by decide +kernel) rfl ?_
            clear hl
            intro ls hl
            have t_47 : (k14_6 + 1).toInt = k14_6.toInt + 1 := g5_iadd (a := k14_6.toInt) (b := 1) rfl (by decide +kernel) (by omega) (by omega)
            refine W.eq (g2 := F0 m 98 ls []) rfl ?_
            refine lv_goto (tgt := 14) hx hb dX12_lateness_98 (by decide +kernel) ?_
            exact ih_14_14 ((k14_6 + 1), (p_3 - ((z38 (z33 - 1).toNatClampNeg) / 64)), z25, z26, z27, z28, z29, z30, z31, z32, z33, z34, z35, z36, z37, z38) ls H locs (show Int.toNat (4 - (k14_6 + 1).toInt) < Int.toNat (4 - k14_6.toInt) from g_up (show k14_6.toInt < (k14_6 + 1).toInt by omega) (show k14_6.toInt < 4 by omega)) ⟨lv_sub hl [1, 0, 3, 4, 5, 6, 7] rfl, hP.sub [2, 3, 4, 0, 1] rfl, hD.sub [2, 3, 4, 0, 1] (by decide +kernel) rfl, hS, ⟨by omega, by omega⟩, i_17, i_18, i_19, i_20, i_21, i_22, i_23, i_24⟩
          ·
            have n_46 : gNe (k14_4.toInt) ((-1)) := g5_eqN (a := k14_4.toInt) (b := (-1)) rfl (by decide +kernel) c_46
            refine lv_iload hx hb dX12_lateness_79 (lv_at hl 0 rfl) ?_
            refine lv_iload hx hb dX12_lateness_81 (lv_at hl 1 rfl) ?_
            refine lv_icmp_ge (tgt := 91) hx hb dX12_lateness_83 (by decide +kernel) (fun c_48 => ?_) (fun c_48 => ?_)
            ·
              have i_48 : (p_3.toInt - ((z38 (z33 - 1).toNatClampNeg).toInt / 64)) ≥ k14_4.toInt := by have z := g5_ge (a := (p_3 - ((z38 (z33 - 1).toNatClampNeg) / 64)).toInt) (b := k14_4.toInt) (by rfl) (by rfl) c_48; omega
              refine lv_iload hx hb dX12_lateness_91 (lv_at hl 1 rfl) ?_
              refine lv_istore (lv' := [(4, .int k14_4), (7, .int (p_3 - ((z38 (z33 - 1).toNatClampNeg) / 64))), (6, .int k14_6), (5, .int z3), (0, .ref b_o), (1, .int p_1), (2, .int p_2), (3, .int p_3)]) hx hb dX12_lateness_93 hl (by decide +kernel) rfl ?_
              clear hl
              intro ls hl
              refine lv_iinc (v := (k14_6 + 1)) (lv' := [(6, .int (k14_6 + 1)), (4, .int k14_4), (7, .int (p_3 - ((z38 (z33 - 1).toNatClampNeg) / 64))), (5, .int z3), (0, .ref b_o), (1, .int p_1), (2, .int p_2), (3, .int p_3)]) hx hb dX12_lateness_95 hl (k := 2) rfl rfl (by decide +kernel) rfl ?_
              clear hl
              intro ls hl
              have t_49 : (k14_6 + 1).toInt = k14_6.toInt + 1 := g5_iadd (a := k14_6.toInt) (b := 1) rfl (by decide +kernel) (by omega) (by omega)
              refine lv_goto (tgt := 14) hx hb dX12_lateness_98 (by decide +kernel) ?_
              exact ih_14_14 ((k14_6 + 1), k14_4, z25, z26, z27, z28, z29, z30, z31, z32, z33, z34, z35, z36, z37, z38) ls H locs (show Int.toNat (4 - (k14_6 + 1).toInt) < Int.toNat (4 - k14_6.toInt) from g_up (show k14_6.toInt < (k14_6 + 1).toInt by omega) (show k14_6.toInt < 4 by omega)) ⟨lv_sub hl [1, 0, 3, 4, 5, 6, 7] rfl, hP.sub [2, 3, 4, 0, 1] rfl, hD.sub [2, 3, 4, 0, 1] (by decide +kernel) rfl, hS, ⟨by omega, by omega⟩, i_17, i_18, i_19, i_20, i_21, i_22, i_23, i_24⟩
            ·
              have i_48 : (p_3.toInt - ((z38 (z33 - 1).toNatClampNeg).toInt / 64)) < k14_4.toInt := by have z := g5_geN (a := (p_3 - ((z38 (z33 - 1).toNatClampNeg) / 64)).toInt) (b := k14_4.toInt) (by rfl) (by rfl) c_48; omega
              refine lv_iload hx hb dX12_lateness_86 (lv_at hl 0 rfl) ?_
              refine lv_goto (tgt := 93) hx hb dX12_lateness_88 (by decide +kernel) ?_
              refine lv_istore (lv' := [(4, .int (p_3 - ((z38 (z33 - 1).toNatClampNeg) / 64))), (7, .int (p_3 - ((z38 (z33 - 1).toNatClampNeg) / 64))), (6, .int k14_6), (5, .int z3), (0, .ref b_o), (1, .int p_1), (2, .int p_2), (3, .int p_3)]) hx hb dX12_lateness_93 hl (by decide +kernel) rfl ?_
              clear hl
              intro ls hl
              refine lv_iinc (v := (k14_6 + 1)) (lv' := [(6, .int (k14_6 + 1)), (4, .int (p_3 - ((z38 (z33 - 1).toNatClampNeg) / 64))), (7, .int (p_3 - ((z38 (z33 - 1).toNatClampNeg) / 64))), (5, .int z3), (0, .ref b_o), (1, .int p_1), (2, .int p_2), (3, .int p_3)]) hx hb dX12_lateness_95 hl (k := 2) rfl rfl (by decide +kernel) rfl ?_
              clear hl
              intro ls hl
              have t_50 : (k14_6 + 1).toInt = k14_6.toInt + 1 := g5_iadd (a := k14_6.toInt) (b := 1) rfl (by decide +kernel) (by omega) (by omega)
              refine W.eq (g2 := F0 m 98 ls []) rfl ?_
              refine lv_goto (tgt := 14) hx hb dX12_lateness_98 (by decide +kernel) ?_
              exact ih_14_14 ((k14_6 + 1), (p_3 - ((z38 (z33 - 1).toNatClampNeg) / 64)), z25, z26, z27, z28, z29, z30, z31, z32, z33, z34, z35, z36, z37, z38) ls H locs (show Int.toNat (4 - (k14_6 + 1).toInt) < Int.toNat (4 - k14_6.toInt) from g_up (show k14_6.toInt < (k14_6 + 1).toInt by omega) (show k14_6.toInt < 4 by omega)) ⟨lv_sub hl [1, 0, 3, 4, 5, 6, 7] rfl, hP.sub [2, 3, 4, 0, 1] rfl, hD.sub [2, 3, 4, 0, 1] (by decide +kernel) rfl, hS, ⟨by omega, by omega⟩, i_17, i_18, i_19, i_20, i_21, i_22, i_23, i_24⟩
      ·
        have i_39 : z33.toInt = 0 := g5_neN (a := z33.toInt) (b := 0) rfl (by decide +kernel) c_39
        refine lv_iconst (v := 0) hx hb dX12_lateness_43 (by decide +kernel) ?_
        refine lv_goto (tgt := 63) hx hb dX12_lateness_44 (by decide +kernel) ?_
        refine lv_istore (lv' := [(7, .int 0), (4, .int k14_4), (6, .int k14_6), (5, .int z3), (0, .ref b_o), (1, .int p_1), (2, .int p_2), (3, .int p_3)]) hx hb dX12_lateness_63 hl (by decide +kernel) rfl ?_
        clear hl
        intro ls hl
        refine lv_aload_n hx hb dX12_lateness_65 rfl (lv_at hl 4 rfl) ?_
        refine W.eq (g2 := F0 m 66 ls [.ref b_o]) rfl ?_
        refine va_get (D := G.1) (ci := 12) (v := .int z35) (C := RX12) (T := TX12) (N := 52) hx hb hts inG_X12 hown hK hP 0 rfl rfl 40 (by decide +kernel) (hts _ fl_X12_371) (fun _ h9 => h9) rfl dX12_lateness_66 ?_
        refine lv_iload_n hx hb dX12_lateness_69 rfl (lv_at hl 6 rfl) ?_
        refine lv_icmp_ne (tgt := 91) hx hb dX12_lateness_70 (by decide +kernel) (fun c_51 => ?_) (fun c_51 => ?_)
        ·
          have n_51 : gNe (z35.toInt) (p_2.toInt) := g5_ne (a := z35.toInt) (b := p_2.toInt) rfl rfl c_51
          refine lv_iload hx hb dX12_lateness_91 (lv_at hl 1 rfl) ?_
          refine lv_istore (lv' := [(4, .int k14_4), (7, .int 0), (6, .int k14_6), (5, .int z3), (0, .ref b_o), (1, .int p_1), (2, .int p_2), (3, .int p_3)]) hx hb dX12_lateness_93 hl (by decide +kernel) rfl ?_
          clear hl
          intro ls hl
          refine lv_iinc (v := (k14_6 + 1)) (lv' := [(6, .int (k14_6 + 1)), (4, .int k14_4), (7, .int 0), (5, .int z3), (0, .ref b_o), (1, .int p_1), (2, .int p_2), (3, .int p_3)]) hx hb dX12_lateness_95 hl (k := 2) rfl rfl (by decide +kernel) rfl ?_
          clear hl
          intro ls hl
          have t_52 : (k14_6 + 1).toInt = k14_6.toInt + 1 := g5_iadd (a := k14_6.toInt) (b := 1) rfl (by decide +kernel) (by omega) (by omega)
          refine lv_goto (tgt := 14) hx hb dX12_lateness_98 (by decide +kernel) ?_
          exact ih_14_14 ((k14_6 + 1), k14_4, z25, z26, z27, z28, z29, z30, z31, z32, z33, z34, z35, z36, z37, z38) ls H locs (show Int.toNat (4 - (k14_6 + 1).toInt) < Int.toNat (4 - k14_6.toInt) from g_up (show k14_6.toInt < (k14_6 + 1).toInt by omega) (show k14_6.toInt < 4 by omega)) ⟨lv_sub hl [1, 0, 3, 4, 5, 6, 7] rfl, hP.sub [2, 3, 4, 0, 1] rfl, hD.sub [2, 3, 4, 0, 1] (by decide +kernel) rfl, hS, ⟨by omega, by omega⟩, i_17, i_18, i_19, i_20, i_21, i_22, i_23, i_24⟩
        ·
          have i_51 : z35.toInt = p_2.toInt := g5_neN (a := z35.toInt) (b := p_2.toInt) rfl rfl c_51
          refine lv_iload hx hb dX12_lateness_73 (lv_at hl 1 rfl) ?_
          refine lv_iconst (v := (-1)) hx hb dX12_lateness_75 (by decide +kernel) ?_
          refine lv_icmp_eq (tgt := 86) hx hb dX12_lateness_76 (by decide +kernel) (fun c_53 => ?_) (fun c_53 => ?_)
          ·
            have i_53 : k14_4.toInt = (-1) := g5_eq (a := k14_4.toInt) (b := (-1)) rfl (by decide +kernel) c_53
            refine lv_iload hx hb dX12_lateness_86 (lv_at hl 0 rfl) ?_
            refine lv_goto (tgt := 93) hx hb dX12_lateness_88 (by decide +kernel) ?_
            refine lv_istore (lv' := [(4, .int 0), (7, .int 0), (6, .int k14_6), (5, .int z3), (0, .ref b_o), (1, .int p_1), (2, .int p_2), (3, .int p_3)]) hx hb dX12_lateness_93 hl (by decide +kernel) rfl ?_
            clear hl
            intro ls hl
            refine lv_iinc (v := (k14_6 + 1)) (lv' := [(6, .int (k14_6 + 1)), (4, .int 0), (7, .int 0), (5, .int z3), (0, .ref b_o), (1, .int p_1), (2, .int p_2), (3, .int p_3)]) hx hb dX12_lateness_95 hl (k := 2) rfl rfl (by decide +kernel) rfl ?_
            clear hl
            intro ls hl
            have t_54 : (k14_6 + 1).toInt = k14_6.toInt + 1 := g5_iadd (a := k14_6.toInt) (b := 1) rfl (by decide +kernel) (by omega) (by omega)
            refine W.eq (g2 := F0 m 98 ls []) rfl ?_
            refine lv_goto (tgt := 14) hx hb dX12_lateness_98 (by decide +kernel) ?_
            exact ih_14_14 ((k14_6 + 1), 0, z25, z26, z27, z28, z29, z30, z31, z32, z33, z34, z35, z36, z37, z38) ls H locs (show Int.toNat (4 - (k14_6 + 1).toInt) < Int.toNat (4 - k14_6.toInt) from g_up (show k14_6.toInt < (k14_6 + 1).toInt by omega) (show k14_6.toInt < 4 by omega)) ⟨lv_sub hl [1, 0, 3, 4, 5, 6, 7] rfl, hP.sub [2, 3, 4, 0, 1] rfl, hD.sub [2, 3, 4, 0, 1] (by decide +kernel) rfl, hS, ⟨by omega, by omega⟩, i_17, i_18, i_19, i_20, i_21, i_22, i_23, i_24⟩
          ·
            have n_53 : gNe (k14_4.toInt) ((-1)) := g5_eqN (a := k14_4.toInt) (b := (-1)) rfl (by decide +kernel) c_53
            refine lv_iload hx hb dX12_lateness_79 (lv_at hl 0 rfl) ?_
            refine lv_iload hx hb dX12_lateness_81 (lv_at hl 1 rfl) ?_
            refine lv_icmp_ge (tgt := 91) hx hb dX12_lateness_83 (by decide +kernel) (fun c_55 => ?_) (fun c_55 => ?_)
            ·
              have i_55 : 0 ≥ k14_4.toInt := g5_ge (a := 0) (b := k14_4.toInt) (by decide +kernel) rfl c_55
              refine lv_iload hx hb dX12_lateness_91 (lv_at hl 1 rfl) ?_
              refine lv_istore (lv' := [(4, .int k14_4), (7, .int 0), (6, .int k14_6), (5, .int z3), (0, .ref b_o), (1, .int p_1), (2, .int p_2), (3, .int p_3)]) hx hb dX12_lateness_93 hl (by decide +kernel) rfl ?_
              clear hl
              intro ls hl
              refine lv_iinc (v := (k14_6 + 1)) (lv' := [(6, .int (k14_6 + 1)), (4, .int k14_4), (7, .int 0), (5, .int z3), (0, .ref b_o), (1, .int p_1), (2, .int p_2), (3, .int p_3)]) hx hb dX12_lateness_95 hl (k := 2) rfl rfl (by decide +kernel) rfl ?_
              clear hl
              intro ls hl
              have t_56 : (k14_6 + 1).toInt = k14_6.toInt + 1 := g5_iadd (a := k14_6.toInt) (b := 1) rfl (by decide +kernel) (by omega) (by omega)
              refine lv_goto (tgt := 14) hx hb dX12_lateness_98 (by decide +kernel) ?_
              exact ih_14_14 ((k14_6 + 1), k14_4, z25, z26, z27, z28, z29, z30, z31, z32, z33, z34, z35, z36, z37, z38) ls H locs (show Int.toNat (4 - (k14_6 + 1).toInt) < Int.toNat (4 - k14_6.toInt) from g_up (show k14_6.toInt < (k14_6 + 1).toInt by omega) (show k14_6.toInt < 4 by omega)) ⟨lv_sub hl [1, 0, 3, 4, 5, 6, 7] rfl, hP.sub [2, 3, 4, 0, 1] rfl, hD.sub [2, 3, 4, 0, 1] (by decide +kernel) rfl, hS, ⟨by omega, by omega⟩, i_17, i_18, i_19, i_20, i_21, i_22, i_23, i_24⟩
            ·
              have i_55 : 0 < k14_4.toInt := g5_geN (a := 0) (b := k14_4.toInt) (by decide +kernel) rfl c_55
              refine lv_iload hx hb dX12_lateness_86 (lv_at hl 0 rfl) ?_
              refine lv_goto (tgt := 93) hx hb dX12_lateness_88 (by decide +kernel) ?_
              refine lv_istore (lv' := [(4, .int 0), (7, .int 0), (6, .int k14_6), (5, .int z3), (0, .ref b_o), (1, .int p_1), (2, .int p_2), (3, .int p_3)]) hx hb dX12_lateness_93 hl (by decide +kernel) rfl ?_
              clear hl
              intro ls hl
              refine lv_iinc (v := (k14_6 + 1)) (lv' := [(6, .int (k14_6 + 1)), (4, .int 0), (7, .int 0), (5, .int z3), (0, .ref b_o), (1, .int p_1), (2, .int p_2), (3, .int p_3)]) hx hb dX12_lateness_95 hl (k := 2) rfl rfl (by decide +kernel) rfl ?_
              clear hl
              intro ls hl
              have t_57 : (k14_6 + 1).toInt = k14_6.toInt + 1 := g5_iadd (a := k14_6.toInt) (b := 1) rfl (by decide +kernel) (by omega) (by omega)
              refine W.eq (g2 := F0 m 98 ls []) rfl ?_
              refine lv_goto (tgt := 14) hx hb dX12_lateness_98 (by decide +kernel) ?_
              exact ih_14_14 ((k14_6 + 1), 0, z25, z26, z27, z28, z29, z30, z31, z32, z33, z34, z35, z36, z37, z38) ls H locs (show Int.toNat (4 - (k14_6 + 1).toInt) < Int.toNat (4 - k14_6.toInt) from g_up (show k14_6.toInt < (k14_6 + 1).toInt by omega) (show k14_6.toInt < 4 by omega)) ⟨lv_sub hl [1, 0, 3, 4, 5, 6, 7] rfl, hP.sub [2, 3, 4, 0, 1] rfl, hD.sub [2, 3, 4, 0, 1] (by decide +kernel) rfl, hS, ⟨by omega, by omega⟩, i_17, i_18, i_19, i_20, i_21, i_22, i_23, i_24⟩
theorem dgX12_late_0 : ∀ r ∈ ([(0, (.aload_n 0, 1)), (1, (.iconst 0, 1)), (2, (.putfield 107, 3)), (5, (.aload_n 0, 1)), (6, (.iload_n 1, 1)), (7, (.invokevirtual 180, 3)), (10, (.ifCond .eq 28, 3)), (13, (.aload_n 0, 1)), (14, (.iload_n 2, 1)), (15, (.invokevirtual 180, 3)), (18, (.ifCond .eq 20, 3)), (21, (.iload_n 3, 1)), (22, (.invokestatic 175, 3)), (25, (.ifCond .eq 13, 3)), (28, (.aload_n 0, 1)), (29, (.iload_n 1, 1)), (30, (.iload_n 2, 1)), (31, (.iload_n 3, 1)), (32, (.invokevirtual 407, 3)), (35, (.goto 4, 3)), (38, (.iconst (-1), 1)), (39, (.ireturn, 1))] : List (Nat × (Instr × Nat))), decode cX12_late r.1 = .ok r.2 := by decide +kernel
theorem dX12_late_0 : decode cX12_late 0 = .ok (.aload_n 0, 1) := dgX12_late_0 (0, (.aload_n 0, 1)) (List.mem_of_getElem? (i := 0) rfl)
theorem dX12_late_1 : decode cX12_late 1 = .ok (.iconst 0, 1) := dgX12_late_0 (1, (.iconst 0, 1)) (List.mem_of_getElem? (i := 1) rfl)
theorem dX12_late_2 : decode cX12_late 2 = .ok (.putfield 107, 3) := dgX12_late_0 (2, (.putfield 107, 3)) (List.mem_of_getElem? (i := 2) rfl)
theorem dX12_late_5 : decode cX12_late 5 = .ok (.aload_n 0, 1) := dgX12_late_0 (5, (.aload_n 0, 1)) (List.mem_of_getElem? (i := 3) rfl)
theorem dX12_late_6 : decode cX12_late 6 = .ok (.iload_n 1, 1) := dgX12_late_0 (6, (.iload_n 1, 1)) (List.mem_of_getElem? (i := 4) rfl)
theorem dX12_late_7 : decode cX12_late 7 = .ok (.invokevirtual 180, 3) := dgX12_late_0 (7, (.invokevirtual 180, 3)) (List.mem_of_getElem? (i := 5) rfl)
theorem dX12_late_10 : decode cX12_late 10 = .ok (.ifCond .eq 28, 3) := dgX12_late_0 (10, (.ifCond .eq 28, 3)) (List.mem_of_getElem? (i := 6) rfl)
theorem dX12_late_13 : decode cX12_late 13 = .ok (.aload_n 0, 1) := dgX12_late_0 (13, (.aload_n 0, 1)) (List.mem_of_getElem? (i := 7) rfl)
theorem dX12_late_14 : decode cX12_late 14 = .ok (.iload_n 2, 1) := dgX12_late_0 (14, (.iload_n 2, 1)) (List.mem_of_getElem? (i := 8) rfl)
theorem dX12_late_15 : decode cX12_late 15 = .ok (.invokevirtual 180, 3) := dgX12_late_0 (15, (.invokevirtual 180, 3)) (List.mem_of_getElem? (i := 9) rfl)
theorem dX12_late_18 : decode cX12_late 18 = .ok (.ifCond .eq 20, 3) := dgX12_late_0 (18, (.ifCond .eq 20, 3)) (List.mem_of_getElem? (i := 10) rfl)
theorem dX12_late_21 : decode cX12_late 21 = .ok (.iload_n 3, 1) := dgX12_late_0 (21, (.iload_n 3, 1)) (List.mem_of_getElem? (i := 11) rfl)
theorem dX12_late_22 : decode cX12_late 22 = .ok (.invokestatic 175, 3) := dgX12_late_0 (22, (.invokestatic 175, 3)) (List.mem_of_getElem? (i := 12) rfl)
theorem dX12_late_25 : decode cX12_late 25 = .ok (.ifCond .eq 13, 3) := dgX12_late_0 (25, (.ifCond .eq 13, 3)) (List.mem_of_getElem? (i := 13) rfl)
theorem dX12_late_28 : decode cX12_late 28 = .ok (.aload_n 0, 1) := dgX12_late_0 (28, (.aload_n 0, 1)) (List.mem_of_getElem? (i := 14) rfl)
theorem dX12_late_29 : decode cX12_late 29 = .ok (.iload_n 1, 1) := dgX12_late_0 (29, (.iload_n 1, 1)) (List.mem_of_getElem? (i := 15) rfl)
theorem dX12_late_30 : decode cX12_late 30 = .ok (.iload_n 2, 1) := dgX12_late_0 (30, (.iload_n 2, 1)) (List.mem_of_getElem? (i := 16) rfl)
theorem dX12_late_31 : decode cX12_late 31 = .ok (.iload_n 3, 1) := dgX12_late_0 (31, (.iload_n 3, 1)) (List.mem_of_getElem? (i := 17) rfl)
theorem dX12_late_32 : decode cX12_late 32 = .ok (.invokevirtual 407, 3) := dgX12_late_0 (32, (.invokevirtual 407, 3)) (List.mem_of_getElem? (i := 18) rfl)
theorem dX12_late_35 : decode cX12_late 35 = .ok (.goto 4, 3) := dgX12_late_0 (35, (.goto 4, 3)) (List.mem_of_getElem? (i := 19) rfl)
theorem dX12_late_38 : decode cX12_late 38 = .ok (.iconst (-1), 1) := dgX12_late_0 (38, (.iconst (-1), 1)) (List.mem_of_getElem? (i := 20) rfl)
theorem dX12_late_39 : decode cX12_late 39 = .ok (.ireturn, 1) := dgX12_late_0 (39, (.ireturn, 1)) (List.mem_of_getElem? (i := 21) rfl)
theorem ml_X12_407 : Cond.methodLink RX12 407 yX12_lateness ∈ tblG := tg 1667 (by decide +kernel) (by decide +kernel)
theorem im_X12_lateness : Cond.instanceMethod yX12_lateness ∈ tblG := tg 1669 (by decide +kernel) (by decide +kernel)
theorem se_X12_lateness : Cond.selects RX12 yX12_lateness yX12_lateness ∈ tblG := tg 71 (by decide +kernel) (by decide +kernel)
theorem cd_X12_lateness : Cond.code yX12_lateness cX12_lateness 8 (some .int) ∈ tblG := tg 1670 (by decide +kernel) (by decide +kernel)
theorem gW_X12_lateness : GoodIn tblG (wsG yX12_lateness cX12_lateness 8 (some .int)) := tgi cd_X12_lateness
theorem gV_X12_407 : GoodIn tblG (wsV RX12 407 RX12 yX12_lateness (wsG yX12_lateness cX12_lateness 8 (some .int))) := tgV ml_X12_407 im_X12_lateness se_X12_lateness ini_X12 gW_X12_lateness
theorem hv_X12_lateness : yX12_lateness.cls = RX12 ∧ yX12_lateness.cls ≠ "java/lang/invoke/MethodHandle" ∧ yX12_lateness.cls ≠ "java/lang/invoke/VarHandle" ∧ (parseMethodDescriptor yX12_lateness.desc).map (fun d => d.parameters.length) = some 3 := by decide +kernel
set_option maxHeartbeats 4000000 in
set_option maxRecDepth 100000 in
theorem n_late (l : Launch) (G : g5_G) (b_o b_ro b_se b_re b_pt b_rf b_im b_ke b_tp b_nl b_op b_ar b_pi b_pa b_ws b_hw b_ip b_ah b_be b_me b_tr b_ld b_wn : Nat) (sz : Nat) (u_th : Int32) (u_sa : Int32) (u_fd : Int32) (u_td : Int32) (u_fr : Int32) (u_to : Int32) (u_so : Int32) (u_fa : Int32) (u_bd : Int32) (u_nc : Int32) (u_co : Int32) (u_le : Int32) (u_pd : Int32) (u_od : Int32) (u_la : Int32) (u_bk : Int32) (u_ce : Int32) (u_ho : Int32) (u_wy : Int32) (u_bt : Int32) (u_ps : Int32) (u_tg : Int32) (u_sn : Int32) (u_ic : Int32) (u_wd : Int32) (u_id : Int32) (p_1 : Int32) (p_2 : Int32) (p_3 : Int32) (u_wo : Int64) (u_va : Int64) (u_su : Int64) (u_st : Int64) (v_ro : Nat → Int32) (v_se : Nat → Int64) (v_re : Nat → Int64) (v_pt : Nat → Int32) (h_u_td : 0 ≤ u_td.toInt ∧ u_td.toInt ≤ 400) (h_u_fr : 0 ≤ u_fr.toInt ∧ u_fr.toInt ≤ 400) (h_u_to : 0 ≤ u_to.toInt ∧ u_to.toInt ≤ 400) (h_u_bd : 0 ≤ u_bd.toInt ∧ u_bd.toInt ≤ 1) (h_u_nc : 0 ≤ u_nc.toInt ∧ u_nc.toInt ≤ 12) (h_u_co : 0 ≤ u_co.toInt ∧ u_co.toInt ≤ 400) (h_u_pd : 0 ≤ u_pd.toInt ∧ u_pd.toInt ≤ 400) (h_u_la : 0 ≤ u_la.toInt ∧ u_la.toInt ≤ 4840) (h_u_bk : 0 ≤ u_bk.toInt ∧ u_bk.toInt ≤ 1) (h_u_ce : 0 ≤ u_ce.toInt ∧ u_ce.toInt ≤ 63) (h_u_ho : 0 ≤ u_ho.toInt ∧ u_ho.toInt ≤ 23) (h_u_wy : 0 ≤ u_wy.toInt ∧ u_wy.toInt ≤ 3) (h_u_bt : 0 ≤ u_bt.toInt ∧ u_bt.toInt ≤ 1000000) (h_u_ps : 0 ≤ u_ps.toInt ∧ u_ps.toInt ≤ 200) (h_u_ic : 0 ≤ u_ic.toInt ∧ u_ic.toInt ≤ 1) (h_u_id : 0 ≤ u_id.toInt ∧ u_id.toInt ≤ 1) (r_ro : MI v_ro) (r_pt : PTI v_pt) : Met l yX12_late (wsG yX12_late cX12_late 4 (some .int)) ({ frames := 8, cells := 0, slots := 0, locals := 203 }) (va_Pc [.ref b_o, .int p_1, .int p_2, .int p_3] (g5_P G [(b_o, (oc12 u_th u_sa b_rf b_ro b_im b_ke u_fd b_tp u_td u_fr u_to u_so u_wo u_fa u_bd u_nc b_nl u_co b_op b_ar u_le b_pi b_pa u_pd u_od b_ws b_hw u_la b_se b_re u_bk u_va u_su u_ce u_ho u_wy u_bt u_ps b_pt u_tg u_sn b_ip u_ic b_ah b_be b_me u_wd b_tr b_ld u_st b_wn u_id)), (b_ro, (arI G 5740 v_ro)), (b_se, (arJ G 13 v_se)), (b_re, (arJ G 400 v_re)), (b_pt, (arI G 200 v_pt))] sz)) (va_Qi (fun (r : Int32) (u : va_W) => (∃ (o_r : Int32) (o_th : Int32) (o_la : Int32) (o_bk : Int32) (o_va : Int64) (o_su : Int64) (o_ce : Int32) (o_ho : Int32) (o_wy : Int32) (o_bt : Int32) (o_ps : Int32) (o_tg : Int32) (o_sn : Int32) (o_se : Nat → Int64) (o_re : Nat → Int64) (o_pt : Nat → Int32), (0 ≤ o_la.toInt ∧ o_la.toInt ≤ 4840) ∧ (0 ≤ o_bk.toInt ∧ o_bk.toInt ≤ 1) ∧ (0 ≤ o_ce.toInt ∧ o_ce.toInt ≤ 63) ∧ (0 ≤ o_ho.toInt ∧ o_ho.toInt ≤ 23) ∧ (0 ≤ o_wy.toInt ∧ o_wy.toInt ≤ 3) ∧ (0 ≤ o_bt.toInt ∧ o_bt.toInt ≤ 1000000) ∧ (0 ≤ o_ps.toInt ∧ o_ps.toInt ≤ 200) ∧ (PTI o_pt) ∧ (r = o_r) ∧ (u = [(b_o, (oc12 o_th u_sa b_rf b_ro b_im b_ke u_fd b_tp u_td u_fr u_to u_so u_wo u_fa u_bd u_nc b_nl u_co b_op b_ar u_le b_pi b_pa u_pd u_od b_ws b_hw o_la b_se b_re o_bk o_va o_su o_ce o_ho o_wy o_bt o_ps b_pt o_tg o_sn b_ip u_ic b_ah b_be b_me u_wd b_tr b_ld u_st b_wn u_id)), (b_ro, (arI G 5740 v_ro)), (b_se, (arJ G 13 o_se)), (b_re, (arJ G 400 o_re)), (b_pt, (arI G 200 o_pt))]))) (g5_B G (va_A [(b_o, (oc12 u_th u_sa b_rf b_ro b_im b_ke u_fd b_tp u_td u_fr u_to u_so u_wo u_fa u_bd u_nc b_nl u_co b_op b_ar u_le b_pi b_pa u_pd u_od b_ws b_hw u_la b_se b_re u_bk u_va u_su u_ce u_ho u_wy u_bt u_ps b_pt u_tg u_sn b_ip u_ic b_ah b_be b_me u_wd b_tr b_ld u_st b_wn u_id)), (b_ro, (arI G 5740 v_ro)), (b_se, (arJ G 13 v_se)), (b_re, (arJ G 400 v_re)), (b_pt, (arI G 200 v_pt))] sz)) (va_A [(b_o, (oc12 u_th u_sa b_rf b_ro b_im b_ke u_fd b_tp u_td u_fr u_to u_so u_wo u_fa u_bd u_nc b_nl u_co b_op b_ar u_le b_pi b_pa u_pd u_od b_ws b_hw u_la b_se b_re u_bk u_va u_su u_ce u_ho u_wy u_bt u_ps b_pt u_tg u_sn b_ip u_ic b_ah b_be b_me u_wd b_tr b_ld u_st b_wn u_id)), (b_ro, (arI G 5740 v_ro)), (b_se, (arJ G 13 v_se)), (b_re, (arJ G 400 v_re)), (b_pt, (arI G 200 v_pt))] sz)) 0 0 (va_A [(b_o, (oc12 u_th u_sa b_rf b_ro b_im b_ke u_fd b_tp u_td u_fr u_to u_so u_wo u_fa u_bd u_nc b_nl u_co b_op b_ar u_le b_pi b_pa u_pd u_od b_ws b_hw u_la b_se b_re u_bk u_va u_su u_ce u_ho u_wy u_bt u_ps b_pt u_tg u_sn b_ip u_ic b_ah b_be b_me u_wd b_tr b_ld u_st b_wn u_id)), (b_ro, (arI G 5740 v_ro)), (b_se, (arJ G 13 v_se)), (b_re, (arJ G 400 v_re)), (b_pt, (arI G 200 v_pt))] sz) := by
  refine Met.ofW (cc := cX12_late) (maxL := 4) (ret := (some .int)) (by decide +kernel) rfl ?_
  intro p e s m args below meth c s₁ B hml hv
  obtain ⟨rfl, hsz, hP, hK, hD0, hN, hT⟩ := hv
  have hx := B.exec
  have hb := B.bytes
  have hr := B.returns
  have hts : ∀ w ∈ tblG, w.before _ s = true := fun w h => atoms_spec (ws := (wsG yX12_late cX12_late 4 (some .int))) B.pre w (List.mem_cons_of_mem _ h)
  have hown : s.vm.findClass RX12 = some m.cls := findClass_of_methodNamed B.named
  have hlocks := B.notSynchronized
  subst hsz
  have hD := hD0.self (sz := s.heap.size)
  generalize hAe : va_A [(b_o, (oc12 u_th u_sa b_rf b_ro b_im b_ke u_fd b_tp u_td u_fr u_to u_so u_wo u_fa u_bd u_nc b_nl u_co b_op b_ar u_le b_pi b_pa u_pd u_od b_ws b_hw u_la b_se b_re u_bk u_va u_su u_ce u_ho u_wy u_bt u_ps b_pt u_tg u_sn b_ip u_ic b_ah b_be b_me u_wd b_tr b_ld u_st b_wn u_id)), (b_ro, (arI G 5740 v_ro)), (b_se, (arJ G 13 v_se)), (b_re, (arJ G 400 v_re)), (b_pt, (arI G 200 v_pt))] s.heap.size = A at hD hT ⊢
  have hA : ∀ q : Nat, s.heap.size ≤ q → A q := fun q h => by rw [← hAe]; exact Or.inr h
  have hS : va_S A s.heap s.heap [] := va_S.rf
  replace hP : va_P G.1 vwCl [(b_o, (oc12 u_th u_sa b_rf b_ro b_im b_ke u_fd b_tp u_td u_fr u_to u_so u_wo u_fa u_bd u_nc b_nl u_co b_op b_ar u_le b_pi b_pa u_pd u_od b_ws b_hw u_la b_se b_re u_bk u_va u_su u_ce u_ho u_wy u_bt u_ps b_pt u_tg u_sn b_ip u_ic b_ah b_be b_me u_wd b_tr b_ld u_st b_wn u_id)), (b_ro, (arI G 5740 v_ro)), (b_se, (arJ G 13 v_se)), (b_re, (arJ G 400 v_re)), (b_pt, (arI G 200 v_pt))] s.heap := hP
  have hl := lv_entry ([.ref b_o, .int p_1, .int p_2, .int p_3]) (n := 4) (Nat.le_of_ble_eq_true rfl)
  rw [lg_entry_eq]
  generalize (lg_sl ([.ref b_o, .int p_1, .int p_2, .int p_3]) ++ List.replicate (4 - (lg_sl ([.ref b_o, .int p_1, .int p_2, .int p_3])).length) Slot.unset).toArray = ls at hl ⊢
  replace hl : lv_has ls 4 [(0, .ref b_o), (1, .int p_1), (2, .int p_2), (3, .int p_3)] := hl
  refine lv_aload_n hx hb dX12_late_0 rfl (lv_at hl 0 rfl) ?_
  refine lv_iconst (v := 0) hx hb dX12_late_1 (by decide +kernel) ?_
  refine va_put (D := G.1) (ci := 12) (v := .int 0) (ty := .int) (C := RX12) (T := TX12) (N := 52) hx hb hts inG_X12 tyX12 tyX12_ok nmX12 hown hK hP hD hS 0 rfl rfl 0 (by decide +kernel) (hts _ fl_X12_107) (fun _ h9 => h9) rfl (by decide +kernel) rfl rfl (Nat.le_of_ble_eq_true rfl) dX12_late_2 ?_
  clear hP hD hS
  intro H locs hP hD hS
  refine g5_rs [(b_o, (oc12 0 u_sa b_rf b_ro b_im b_ke u_fd b_tp u_td u_fr u_to u_so u_wo u_fa u_bd u_nc b_nl u_co b_op b_ar u_le b_pi b_pa u_pd u_od b_ws b_hw u_la b_se b_re u_bk u_va u_su u_ce u_ho u_wy u_bt u_ps b_pt u_tg u_sn b_ip u_ic b_ah b_be b_me u_wd b_tr b_ld u_st b_wn u_id)), (b_ro, (arI G 5740 v_ro)), (b_se, (arJ G 13 v_se)), (b_re, (arJ G 400 v_re)), (b_pt, (arI G 200 v_pt))] hP hD ?_
  clear hP hD
  intro hP hD
  refine lv_aload_n hx hb dX12_late_5 rfl (lv_at hl 0 rfl) ?_
  refine W.eq (g2 := F0 m 6 ls [.ref b_o]) rfl ?_
  refine lv_iload_n hx hb dX12_late_6 rfl (lv_at hl 1 rfl) ?_
  obtain ⟨hPc, hDc, hFc⟩ := g5_sub3 (wc := [(b_o, (oc12 0 u_sa b_rf b_ro b_im b_ke u_fd b_tp u_td u_fr u_to u_so u_wo u_fa u_bd u_nc b_nl u_co b_op b_ar u_le b_pi b_pa u_pd u_od b_ws b_hw u_la b_se b_re u_bk u_va u_su u_ce u_ho u_wy u_bt u_ps b_pt u_tg u_sn b_ip u_ic b_ah b_be b_me u_wd b_tr b_ld u_st b_wn u_id)), (b_ro, (arI G 5740 v_ro))]) hP hD hS hA [0, 1] (by decide +kernel) rfl
  refine va_calli (va_runV (As := [.int p_1]) (rest := []) ⟨hx, hb, hml, hown, hts⟩ (n_isBody l G b_o b_ro b_rf b_im b_ke b_tp b_nl b_op b_ar b_pi b_pa b_ws b_hw b_se b_re b_pt b_ip b_ah b_be b_me b_tr b_ld b_wn H.size 0 u_sa u_fd u_td u_fr u_to u_so u_fa u_bd u_nc u_co u_le u_pd u_od u_la u_bk u_ce u_ho u_wy u_bt u_ps u_tg u_sn u_ic u_wd u_id p_1 u_wo u_va u_su u_st v_ro h_u_td h_u_fr h_u_to h_u_bd h_u_nc h_u_co h_u_pd h_u_la h_u_bk h_u_ce h_u_ho h_u_wy h_u_bt h_u_ps h_u_ic h_u_id (r_ro)) (cwV 1 hts gV_X12_180 rfl rfl rfl hv_X12_isBody ⟨Nat.le_of_ble_eq_true rfl, Nat.le_of_ble_eq_true rfl⟩) (g5_preV hPc hK hDc hN hT hS hFc (ci := 12) (q0 := 0) rfl rfl) rfl rfl hl.1 rfl (lv_room (Nat.le_of_ble_eq_true rfl)) dX12_late_7 ⟨Nat.le_of_ble_eq_true rfl, Nat.le_of_ble_eq_true rfl⟩) hS (fun q _ h => hFc q h) hFc (fun r u t H locs ht hvm hw hB hz1 hk1 hS => ?_)
  obtain ⟨hP1, hD1⟩ := hB
  have hP1 := g5_ht ht hP1
  rcases hw with ⟨(i_1 : 0 ≤ p_1.toInt ∧ p_1.toInt ≤ 4), rfl, rfl⟩ | ⟨rfl, rfl⟩
  ·
    have hJ9 := va_join (wr := [(b_se, (arJ G 13 v_se)), (b_re, (arJ G 400 v_re)), (b_pt, (arI G 200 v_pt))]) hP hD [0, 1] [2, 3, 4] rfl rfl (by decide +kernel) (by decide +kernel) hk1 hFc hP1 hD1
    clear hP hD hPc hDc hFc ht hvm hz1 hk1 hP1 hD1
    obtain ⟨hP, hD⟩ := hJ9
    refine g5_rs [(b_se, (arJ G 13 v_se)), (b_re, (arJ G 400 v_re)), (b_pt, (arI G 200 v_pt)), (b_o, (oc12 0 u_sa b_rf b_ro b_im b_ke u_fd b_tp u_td u_fr u_to u_so u_wo u_fa u_bd u_nc b_nl u_co b_op b_ar u_le b_pi b_pa u_pd u_od b_ws b_hw u_la b_se b_re u_bk u_va u_su u_ce u_ho u_wy u_bt u_ps b_pt u_tg u_sn b_ip u_ic b_ah b_be b_me u_wd b_tr b_ld u_st b_wn u_id)), (b_ro, (arI G 5740 v_ro))] hP hD ?_
    clear hP hD
    intro hP hD
    refine lv_if_eq (tgt := 38) hx hb dX12_late_10 (by decide +kernel) (fun c_2 => ?_) (fun c_2 => ?_)
    ·
      exact absurd c_2 (by decide +kernel)
    ·
      refine lv_aload_n hx hb dX12_late_13 rfl (lv_at hl 0 rfl) ?_
      refine lv_iload_n hx hb dX12_late_14 rfl (lv_at hl 2 rfl) ?_
      obtain ⟨hPc, hDc, hFc⟩ := g5_sub3 (wc := [(b_o, (oc12 0 u_sa b_rf b_ro b_im b_ke u_fd b_tp u_td u_fr u_to u_so u_wo u_fa u_bd u_nc b_nl u_co b_op b_ar u_le b_pi b_pa u_pd u_od b_ws b_hw u_la b_se b_re u_bk u_va u_su u_ce u_ho u_wy u_bt u_ps b_pt u_tg u_sn b_ip u_ic b_ah b_be b_me u_wd b_tr b_ld u_st b_wn u_id)), (b_ro, (arI G 5740 v_ro))]) hP hD hS hA [3, 4] (by decide +kernel) rfl
      refine va_calli (va_runV (As := [.int p_2]) (rest := []) ⟨hx, hb, hml, hown, hts⟩ (n_isBody l G b_o b_ro b_rf b_im b_ke b_tp b_nl b_op b_ar b_pi b_pa b_ws b_hw b_se b_re b_pt b_ip b_ah b_be b_me b_tr b_ld b_wn H.size 0 u_sa u_fd u_td u_fr u_to u_so u_fa u_bd u_nc u_co u_le u_pd u_od u_la u_bk u_ce u_ho u_wy u_bt u_ps u_tg u_sn u_ic u_wd u_id p_2 u_wo u_va u_su u_st v_ro h_u_td h_u_fr h_u_to h_u_bd h_u_nc h_u_co h_u_pd h_u_la h_u_bk h_u_ce h_u_ho h_u_wy h_u_bt h_u_ps h_u_ic h_u_id (r_ro)) (cwV 1 hts gV_X12_180 rfl rfl rfl hv_X12_isBody ⟨Nat.le_of_ble_eq_true rfl, Nat.le_of_ble_eq_true rfl⟩) (g5_preV hPc hK hDc hN hT hS hFc (ci := 12) (q0 := 0) rfl rfl) rfl rfl hl.1 rfl (lv_room (Nat.le_of_ble_eq_true rfl)) dX12_late_15 ⟨Nat.le_of_ble_eq_true rfl, Nat.le_of_ble_eq_true rfl⟩) hS (fun q _ h => hFc q h) hFc (fun r u t H locs ht hvm hw hB hz1 hk1 hS => ?_)
      obtain ⟨hP1, hD1⟩ := hB
      have hP1 := g5_ht ht hP1
      rcases hw with ⟨(i_3 : 0 ≤ p_2.toInt ∧ p_2.toInt ≤ 4), rfl, rfl⟩ | ⟨rfl, rfl⟩
      ·
        have hJ9 := va_join (wr := [(b_se, (arJ G 13 v_se)), (b_re, (arJ G 400 v_re)), (b_pt, (arI G 200 v_pt))]) hP hD [3, 4] [0, 1, 2] rfl rfl (by decide +kernel) (by decide +kernel) hk1 hFc hP1 hD1
        clear hP hD hPc hDc hFc ht hvm hz1 hk1 hP1 hD1
        obtain ⟨hP, hD⟩ := hJ9
        refine g5_rs [(b_se, (arJ G 13 v_se)), (b_re, (arJ G 400 v_re)), (b_pt, (arI G 200 v_pt)), (b_o, (oc12 0 u_sa b_rf b_ro b_im b_ke u_fd b_tp u_td u_fr u_to u_so u_wo u_fa u_bd u_nc b_nl u_co b_op b_ar u_le b_pi b_pa u_pd u_od b_ws b_hw u_la b_se b_re u_bk u_va u_su u_ce u_ho u_wy u_bt u_ps b_pt u_tg u_sn b_ip u_ic b_ah b_be b_me u_wd b_tr b_ld u_st b_wn u_id)), (b_ro, (arI G 5740 v_ro))] hP hD ?_
        clear hP hD
        intro hP hD
        refine lv_if_eq (tgt := 38) hx hb dX12_late_18 (by decide +kernel) (fun c_4 => ?_) (fun c_4 => ?_)
        ·
          exact absurd c_4 (by decide +kernel)
        ·
          refine lv_iload_n hx hb dX12_late_21 rfl (lv_at hl 3 rfl) ?_
          obtain ⟨hPc, hDc, hFc⟩ := g5_sub3 (wc := []) hP hD hS hA [] (by decide +kernel) rfl
          refine va_calli (va_runS (As := [.int p_3]) (rest := []) ⟨hx, hb, hml, hown, hts⟩ (n_isHour l G H.size p_3) (va_cwS 1 hts gS_X12_175 rfl rfl rfl hs_X12_isHour ⟨Nat.le_of_ble_eq_true rfl, Nat.le_of_ble_eq_true rfl⟩) (g5_preS hPc hK hDc hN hT hS hFc) rfl rfl hl.1 rfl (lv_room (Nat.le_of_ble_eq_true rfl)) dX12_late_22 ⟨Nat.le_of_ble_eq_true rfl, Nat.le_of_ble_eq_true rfl⟩) hS (fun q _ h => hFc q h) hFc (fun r u t H locs ht hvm hw hB hz1 hk1 hS => ?_)
          obtain ⟨hP1, hD1⟩ := hB
          have hP1 := g5_ht ht hP1
          rcases hw with ⟨(i_5 : 0 ≤ p_3.toInt ∧ p_3.toInt ≤ 23), rfl, rfl⟩ | ⟨rfl, rfl⟩
          ·
            have hJ9 := g5_same hP hk1
            clear hP hPc hDc hFc ht hvm hz1 hk1 hP1 hD1
            have hP := hJ9
            clear hJ9
            refine lv_if_eq (tgt := 38) hx hb dX12_late_25 (by decide +kernel) (fun c_6 => ?_) (fun c_6 => ?_)
            ·
              exact absurd c_6 (by decide +kernel)
            ·
              refine lv_aload_n hx hb dX12_late_28 rfl (lv_at hl 0 rfl) ?_
              refine lv_iload_n hx hb dX12_late_29 rfl (lv_at hl 1 rfl) ?_
              refine lv_iload_n hx hb dX12_late_30 rfl (lv_at hl 2 rfl) ?_
              refine lv_iload_n hx hb dX12_late_31 rfl (lv_at hl 3 rfl) ?_
              refine W.eq (g2 := F0 m 32 ls [.int p_3, .int p_2, .int p_1, .ref b_o]) rfl ?_
              obtain ⟨hPc, hDc, hFc⟩ := g5_sub3 (wc := [(b_o, (oc12 0 u_sa b_rf b_ro b_im b_ke u_fd b_tp u_td u_fr u_to u_so u_wo u_fa u_bd u_nc b_nl u_co b_op b_ar u_le b_pi b_pa u_pd u_od b_ws b_hw u_la b_se b_re u_bk u_va u_su u_ce u_ho u_wy u_bt u_ps b_pt u_tg u_sn b_ip u_ic b_ah b_be b_me u_wd b_tr b_ld u_st b_wn u_id)), (b_ro, (arI G 5740 v_ro)), (b_se, (arJ G 13 v_se)), (b_re, (arJ G 400 v_re)), (b_pt, (arI G 200 v_pt))]) hP hD hS hA [3, 4, 0, 1, 2] (by decide +kernel) rfl
              refine va_calli (va_runV (As := [.int p_1, .int p_2, .int p_3]) (rest := []) ⟨hx, hb, hml, hown, hts⟩ (n_lateness l G b_o b_ro b_se b_re b_pt b_rf b_im b_ke b_tp b_nl b_op b_ar b_pi b_pa b_ws b_hw b_ip b_ah b_be b_me b_tr b_ld b_wn H.size 0 u_sa u_fd u_td u_fr u_to u_so u_fa u_bd u_nc u_co u_le u_pd u_od u_la u_bk u_ce u_ho u_wy u_bt u_ps u_tg u_sn u_ic u_wd u_id p_1 p_2 p_3 u_wo u_va u_su u_st v_ro v_se v_re v_pt h_u_td h_u_fr h_u_to h_u_bd h_u_nc h_u_co h_u_pd h_u_la h_u_bk h_u_ce h_u_ho h_u_wy h_u_bt h_u_ps h_u_ic h_u_id i_1 i_5 (r_ro) (r_pt)) (cwV 3 hts gV_X12_407 rfl rfl rfl hv_X12_lateness ⟨Nat.le_of_ble_eq_true rfl, Nat.le_of_ble_eq_true rfl⟩) (g5_preV hPc hK hDc hN hT hS hFc (ci := 12) (q0 := 0) rfl rfl) rfl rfl hl.1 rfl (lv_room (Nat.le_of_ble_eq_true rfl)) dX12_late_32 ⟨Nat.le_of_ble_eq_true rfl, Nat.le_of_ble_eq_true rfl⟩) hS (fun q _ h => hFc q h) hFc (fun r u t H locs ht hvm hw hB hz1 hk1 hS => ?_)
              obtain ⟨hP1, hD1⟩ := hB
              have hP1 := g5_ht ht hP1
              obtain ⟨z15, z16, z17, z18, z19, z20, z21, z22, z23, z24, z25, z26, z27, z28, z29, (i_7 : 0 ≤ z16.toInt ∧ z16.toInt ≤ 4840), (i_8 : 0 ≤ z17.toInt ∧ z17.toInt ≤ 1), (i_9 : 0 ≤ z20.toInt ∧ z20.toInt ≤ 63), (i_10 : 0 ≤ z21.toInt ∧ z21.toInt ≤ 23), (i_11 : 0 ≤ z22.toInt ∧ z22.toInt ≤ 3), (i_12 : 0 ≤ z23.toInt ∧ z23.toInt ≤ 1000000), (i_13 : 0 ≤ z24.toInt ∧ z24.toInt ≤ 200), (i_14 : PTI z29), y30, rfl⟩ := hw
              have hJ9 := va_join (wr := []) hP hD [3, 4, 0, 1, 2] [] rfl rfl (by decide +kernel) (by decide +kernel) hk1 hFc hP1 hD1
              clear hP hD hPc hDc hFc ht hvm hz1 hk1 hP1 hD1
              obtain ⟨hP, hD⟩ := hJ9
              refine g5_rs [(b_o, (oc12 0 u_sa b_rf b_ro b_im b_ke u_fd b_tp u_td u_fr u_to u_so u_wo u_fa u_bd u_nc b_nl u_co b_op b_ar u_le b_pi b_pa u_pd u_od b_ws b_hw z16 b_se b_re z17 z18 z19 z20 z21 z22 z23 z24 b_pt z25 z26 b_ip u_ic b_ah b_be b_me u_wd b_tr b_ld u_st b_wn u_id)), (b_ro, (arI G 5740 v_ro)), (b_se, (arJ G 13 z27)), (b_re, (arJ G 400 z28)), (b_pt, (arI G 200 z29))] hP hD ?_
              clear hP hD
              intro hP hD
              refine g5_ti (v := z15) y30 ?_
              refine lv_goto (tgt := 39) hx hb dX12_late_35 (by decide +kernel) ?_
              exact W.iret (v := z15) hx hb hr (fun t ht hW => ⟨⟨z15, [(b_o, (oc12 0 u_sa b_rf b_ro b_im b_ke u_fd b_tp u_td u_fr u_to u_so u_wo u_fa u_bd u_nc b_nl u_co b_op b_ar u_le b_pi b_pa u_pd u_od b_ws b_hw z16 b_se b_re z17 z18 z19 z20 z21 z22 z23 z24 b_pt z25 z26 b_ip u_ic b_ah b_be b_me u_wd b_tr b_ld u_st b_wn u_id)), (b_ro, (arI G 5740 v_ro)), (b_se, (arJ G 13 z27)), (b_re, (arJ G 400 z28)), (b_pt, (arI G 200 z29))], rfl, ⟨z15, 0, z16, z17, z18, z19, z20, z21, z22, z23, z24, z25, z26, z27, z28, z29, i_7, i_8, i_9, i_10, i_11, i_12, i_13, i_14, rfl, rfl⟩, by rw [ht]; exact hP.sub [0, 1, 2, 3, 4] rfl, hD.sub [0, 1, 2, 3, 4] (by decide +kernel) rfl⟩, hS.F ht⟩) hS.2.2 dX12_late_39
          ·
            have hJ9 := g5_same hP hk1
            clear hP hPc hDc hFc ht hvm hz1 hk1 hP1 hD1
            have hP := hJ9
            clear hJ9
            refine lv_if_eq (tgt := 38) hx hb dX12_late_25 (by decide +kernel) (fun c_31 => ?_) (fun c_31 => ?_)
            ·
              refine lv_iconst (v := (-1)) hx hb dX12_late_38 (by decide +kernel) ?_
              exact W.iret (v := (-1)) hx hb hr (fun t ht hW => ⟨⟨(-1), [(b_o, (oc12 0 u_sa b_rf b_ro b_im b_ke u_fd b_tp u_td u_fr u_to u_so u_wo u_fa u_bd u_nc b_nl u_co b_op b_ar u_le b_pi b_pa u_pd u_od b_ws b_hw u_la b_se b_re u_bk u_va u_su u_ce u_ho u_wy u_bt u_ps b_pt u_tg u_sn b_ip u_ic b_ah b_be b_me u_wd b_tr b_ld u_st b_wn u_id)), (b_ro, (arI G 5740 v_ro)), (b_se, (arJ G 13 v_se)), (b_re, (arJ G 400 v_re)), (b_pt, (arI G 200 v_pt))], rfl, ⟨(-1), 0, u_la, u_bk, u_va, u_su, u_ce, u_ho, u_wy, u_bt, u_ps, u_tg, u_sn, v_se, v_re, v_pt, h_u_la, h_u_bk, h_u_ce, h_u_ho, h_u_wy, h_u_bt, h_u_ps, r_pt, rfl, rfl⟩, by rw [ht]; exact hP.sub [3, 4, 0, 1, 2] rfl, hD.sub [3, 4, 0, 1, 2] (by decide +kernel) rfl⟩, hS.F ht⟩) hS.2.2 dX12_late_39
            ·
              exact absurd c_31 (by decide +kernel)
      ·
        have hJ9 := va_join (wr := [(b_se, (arJ G 13 v_se)), (b_re, (arJ G 400 v_re)), (b_pt, (arI G 200 v_pt))]) hP hD [3, 4] [0, 1, 2] rfl rfl (by decide +kernel) (by decide +kernel) hk1 hFc hP1 hD1
        clear hP hD hPc hDc hFc ht hvm hz1 hk1 hP1 hD1
        obtain ⟨hP, hD⟩ := hJ9
        refine g5_rs [(b_se, (arJ G 13 v_se)), (b_re, (arJ G 400 v_re)), (b_pt, (arI G 200 v_pt)), (b_o, (oc12 0 u_sa b_rf b_ro b_im b_ke u_fd b_tp u_td u_fr u_to u_so u_wo u_fa u_bd u_nc b_nl u_co b_op b_ar u_le b_pi b_pa u_pd u_od b_ws b_hw u_la b_se b_re u_bk u_va u_su u_ce u_ho u_wy u_bt u_ps b_pt u_tg u_sn b_ip u_ic b_ah b_be b_me u_wd b_tr b_ld u_st b_wn u_id)), (b_ro, (arI G 5740 v_ro))] hP hD ?_
        clear hP hD
        intro hP hD
        refine lv_if_eq (tgt := 38) hx hb dX12_late_18 (by decide +kernel) (fun c_32 => ?_) (fun c_32 => ?_)
        ·
          refine lv_iconst (v := (-1)) hx hb dX12_late_38 (by decide +kernel) ?_
          exact W.iret (v := (-1)) hx hb hr (fun t ht hW => ⟨⟨(-1), [(b_o, (oc12 0 u_sa b_rf b_ro b_im b_ke u_fd b_tp u_td u_fr u_to u_so u_wo u_fa u_bd u_nc b_nl u_co b_op b_ar u_le b_pi b_pa u_pd u_od b_ws b_hw u_la b_se b_re u_bk u_va u_su u_ce u_ho u_wy u_bt u_ps b_pt u_tg u_sn b_ip u_ic b_ah b_be b_me u_wd b_tr b_ld u_st b_wn u_id)), (b_ro, (arI G 5740 v_ro)), (b_se, (arJ G 13 v_se)), (b_re, (arJ G 400 v_re)), (b_pt, (arI G 200 v_pt))], rfl, ⟨(-1), 0, u_la, u_bk, u_va, u_su, u_ce, u_ho, u_wy, u_bt, u_ps, u_tg, u_sn, v_se, v_re, v_pt, h_u_la, h_u_bk, h_u_ce, h_u_ho, h_u_wy, h_u_bt, h_u_ps, r_pt, rfl, rfl⟩, by rw [ht]; exact hP.sub [3, 4, 0, 1, 2] rfl, hD.sub [3, 4, 0, 1, 2] (by decide +kernel) rfl⟩, hS.F ht⟩) hS.2.2 dX12_late_39
        ·
          exact absurd c_32 (by decide +kernel)
  ·
    have hJ9 := va_join (wr := [(b_se, (arJ G 13 v_se)), (b_re, (arJ G 400 v_re)), (b_pt, (arI G 200 v_pt))]) hP hD [0, 1] [2, 3, 4] rfl rfl (by decide +kernel) (by decide +kernel) hk1 hFc hP1 hD1
    clear hP hD hPc hDc hFc ht hvm hz1 hk1 hP1 hD1
    obtain ⟨hP, hD⟩ := hJ9
    refine g5_rs [(b_se, (arJ G 13 v_se)), (b_re, (arJ G 400 v_re)), (b_pt, (arI G 200 v_pt)), (b_o, (oc12 0 u_sa b_rf b_ro b_im b_ke u_fd b_tp u_td u_fr u_to u_so u_wo u_fa u_bd u_nc b_nl u_co b_op b_ar u_le b_pi b_pa u_pd u_od b_ws b_hw u_la b_se b_re u_bk u_va u_su u_ce u_ho u_wy u_bt u_ps b_pt u_tg u_sn b_ip u_ic b_ah b_be b_me u_wd b_tr b_ld u_st b_wn u_id)), (b_ro, (arI G 5740 v_ro))] hP hD ?_
    clear hP hD
    intro hP hD
    refine lv_if_eq (tgt := 38) hx hb dX12_late_10 (by decide +kernel) (fun c_33 => ?_) (fun c_33 => ?_)
    ·
      refine lv_iconst (v := (-1)) hx hb dX12_late_38 (by decide +kernel) ?_
      exact W.iret (v := (-1)) hx hb hr (fun t ht hW => ⟨⟨(-1), [(b_o, (oc12 0 u_sa b_rf b_ro b_im b_ke u_fd b_tp u_td u_fr u_to u_so u_wo u_fa u_bd u_nc b_nl u_co b_op b_ar u_le b_pi b_pa u_pd u_od b_ws b_hw u_la b_se b_re u_bk u_va u_su u_ce u_ho u_wy u_bt u_ps b_pt u_tg u_sn b_ip u_ic b_ah b_be b_me u_wd b_tr b_ld u_st b_wn u_id)), (b_ro, (arI G 5740 v_ro)), (b_se, (arJ G 13 v_se)), (b_re, (arJ G 400 v_re)), (b_pt, (arI G 200 v_pt))], rfl, ⟨(-1), 0, u_la, u_bk, u_va, u_su, u_ce, u_ho, u_wy, u_bt, u_ps, u_tg, u_sn, v_se, v_re, v_pt, h_u_la, h_u_bk, h_u_ce, h_u_ho, h_u_wy, h_u_bt, h_u_ps, r_pt, rfl, rfl⟩, by rw [ht]; exact hP.sub [3, 4, 0, 1, 2] rfl, hD.sub [3, 4, 0, 1, 2] (by decide +kernel) rfl⟩, hS.F ht⟩) hS.2.2 dX12_late_39
    ·
      exact absurd c_33 (by decide +kernel)
theorem dgX12_first_0 : ∀ r ∈ ([(0, (.aload_n 0, 1)), (1, (.iconst 0, 1)), (2, (.putfield 107, 3)), (5, (.aload_n 0, 1)), (6, (.iload_n 1, 1)), (7, (.invokevirtual 180, 3)), (10, (.ifCond .eq 15, 3)), (13, (.iload_n 2, 1)), (14, (.i2l, 1)), (15, (.lconst 0, 1)), (16, (.ldc2_w 411, 3)), (19, (.invokestatic 121, 3)), (22, (.ifCond .ne 5, 3)), (25, (.iconst (-1), 1)), (26, (.ireturn, 1)), (27, (.iconst 0, 1)), (28, (.istore_n 3, 1)), (29, (.iload_n 3, 1)), (30, (.bipush 24, 2)), (32, (.if_icmp .ge 76, 3)), (35, (.iconst 0, 1)), (36, (.istore 4, 2)), (38, (.iload 4, 2)), (40, (.aload_n 0, 1)), (41, (.getfield 13, 3)), (44, (.iconst 1, 1)), (45, (.iaload, 1)), (46, (.if_icmp .ge 56, 3)), (49, (.iload 4, 2)), (51, (.iload_n 1, 1)), (52, (.if_icmp .ne 7, 3)), (55, (.iconst (-1), 1)), (56, (.goto 11, 3)), (59, (.aload_n 0, 1)), (60, (.iload 4, 2)), (62, (.iload_n 1, 1)), (63, (.iload_n 3, 1)), (64, (.invokevirtual 407, 3)), (67, (.istore 5, 2)), (69, (.iload 5, 2))] : List (Nat × (Instr × Nat))), decode cX12_first r.1 = .ok r.2 := by decide +kernel
theorem dX12_first_0 : decode cX12_first 0 = .ok (.aload_n 0, 1) := dgX12_first_0 (0, (.aload_n 0, 1)) (List.mem_of_getElem? (i := 0) rfl)
theorem dX12_first_1 : decode cX12_first 1 = .ok (.iconst 0, 1) := dgX12_first_0 (1, (.iconst 0, 1)) (List.mem_of_getElem? (i := 1) rfl)
theorem dX12_first_2 : decode cX12_first 2 = .ok (.putfield 107, 3) := dgX12_first_0 (2, (.putfield 107, 3)) (List.mem_of_getElem? (i := 2) rfl)
theorem dX12_first_5 : decode cX12_first 5 = .ok (.aload_n 0, 1) := dgX12_first_0 (5, (.aload_n 0, 1)) (List.mem_of_getElem? (i := 3) rfl)
theorem dX12_first_6 : decode cX12_first 6 = .ok (.iload_n 1, 1) := dgX12_first_0 (6, (.iload_n 1, 1)) (List.mem_of_getElem? (i := 4) rfl)
theorem dX12_first_7 : decode cX12_first 7 = .ok (.invokevirtual 180, 3) := dgX12_first_0 (7, (.invokevirtual 180, 3)) (List.mem_of_getElem? (i := 5) rfl)
theorem dX12_first_10 : decode cX12_first 10 = .ok (.ifCond .eq 15, 3) := dgX12_first_0 (10, (.ifCond .eq 15, 3)) (List.mem_of_getElem? (i := 6) rfl)
theorem dX12_first_13 : decode cX12_first 13 = .ok (.iload_n 2, 1) := dgX12_first_0 (13, (.iload_n 2, 1)) (List.mem_of_getElem? (i := 7) rfl)
theorem dX12_first_14 : decode cX12_first 14 = .ok (.i2l, 1) := dgX12_first_0 (14, (.i2l, 1)) (List.mem_of_getElem? (i := 8) rfl)
theorem dX12_first_15 : decode cX12_first 15 = .ok (.lconst 0, 1) := dgX12_first_0 (15, (.lconst 0, 1)) (List.mem_of_getElem? (i := 9) rfl)
theorem dX12_first_16 : decode cX12_first 16 = .ok (.ldc2_w 411, 3) := dgX12_first_0 (16, (.ldc2_w 411, 3)) (List.mem_of_getElem? (i := 10) rfl)
theorem dX12_first_19 : decode cX12_first 19 = .ok (.invokestatic 121, 3) := dgX12_first_0 (19, (.invokestatic 121, 3)) (List.mem_of_getElem? (i := 11) rfl)
theorem dX12_first_22 : decode cX12_first 22 = .ok (.ifCond .ne 5, 3) := dgX12_first_0 (22, (.ifCond .ne 5, 3)) (List.mem_of_getElem? (i := 12) rfl)
theorem dX12_first_25 : decode cX12_first 25 = .ok (.iconst (-1), 1) := dgX12_first_0 (25, (.iconst (-1), 1)) (List.mem_of_getElem? (i := 13) rfl)
theorem dX12_first_26 : decode cX12_first 26 = .ok (.ireturn, 1) := dgX12_first_0 (26, (.ireturn, 1)) (List.mem_of_getElem? (i := 14) rfl)
theorem dX12_first_27 : decode cX12_first 27 = .ok (.iconst 0, 1) := dgX12_first_0 (27, (.iconst 0, 1)) (List.mem_of_getElem? (i := 15) rfl)
theorem dX12_first_28 : decode cX12_first 28 = .ok (.istore_n 3, 1) := dgX12_first_0 (28, (.istore_n 3, 1)) (List.mem_of_getElem? (i := 16) rfl)
theorem dX12_first_29 : decode cX12_first 29 = .ok (.iload_n 3, 1) := dgX12_first_0 (29, (.iload_n 3, 1)) (List.mem_of_getElem? (i := 17) rfl)
theorem dX12_first_30 : decode cX12_first 30 = .ok (.bipush 24, 2) := dgX12_first_0 (30, (.bipush 24, 2)) (List.mem_of_getElem? (i := 18) rfl)
theorem dX12_first_32 : decode cX12_first 32 = .ok (.if_icmp .ge 76, 3) := dgX12_first_0 (32, (.if_icmp .ge 76, 3)) (List.mem_of_getElem? (i := 19) rfl)
theorem dX12_first_35 : decode cX12_first 35 = .ok (.iconst 0, 1) := dgX12_first_0 (35, (.iconst 0, 1)) (List.mem_of_getElem? (i := 20) rfl)
theorem dX12_first_36 : decode cX12_first 36 = .ok (.istore 4, 2) := dgX12_first_0 (36, (.istore 4, 2)) (List.mem_of_getElem? (i := 21) rfl)
theorem dX12_first_38 : decode cX12_first 38 = .ok (.iload 4, 2) := dgX12_first_0 (38, (.iload 4, 2)) (List.mem_of_getElem? (i := 22) rfl)
theorem dX12_first_40 : decode cX12_first 40 = .ok (.aload_n 0, 1) := dgX12_first_0 (40, (.aload_n 0, 1)) (List.mem_of_getElem? (i := 23) rfl)
theorem dX12_first_41 : decode cX12_first 41 = .ok (.getfield 13, 3) := dgX12_first_0 (41, (.getfield 13, 3)) (List.mem_of_getElem? (i := 24) rfl)
theorem dX12_first_44 : decode cX12_first 44 = .ok (.iconst 1, 1) := dgX12_first_0 (44, (.iconst 1, 1)) (List.mem_of_getElem? (i := 25) rfl)
theorem dX12_first_45 : decode cX12_first 45 = .ok (.iaload, 1) := dgX12_first_0 (45, (.iaload, 1)) (List.mem_of_getElem? (i := 26) rfl)
theorem dX12_first_46 : decode cX12_first 46 = .ok (.if_icmp .ge 56, 3) := dgX12_first_0 (46, (.if_icmp .ge 56, 3)) (List.mem_of_getElem? (i := 27) rfl)
theorem dX12_first_49 : decode cX12_first 49 = .ok (.iload 4, 2) := dgX12_first_0 (49, (.iload 4, 2)) (List.mem_of_getElem? (i := 28) rfl)
theorem dX12_first_51 : decode cX12_first 51 = .ok (.iload_n 1, 1) := dgX12_first_0 (51, (.iload_n 1, 1)) (List.mem_of_getElem? (i := 29) rfl)
theorem dX12_first_52 : decode cX12_first 52 = .ok (.if_icmp .ne 7, 3) := dgX12_first_0 (52, (.if_icmp .ne 7, 3)) (List.mem_of_getElem? (i := 30) rfl)
theorem dX12_first_55 : decode cX12_first 55 = .ok (.iconst (-1), 1) := dgX12_first_0 (55, (.iconst (-1), 1)) (List.mem_of_getElem? (i := 31) rfl)
theorem dX12_first_56 : decode cX12_first 56 = .ok (.goto 11, 3) := dgX12_first_0 (56, (.goto 11, 3)) (List.mem_of_getElem? (i := 32) rfl)
theorem dX12_first_59 : decode cX12_first 59 = .ok (.aload_n 0, 1) := dgX12_first_0 (59, (.aload_n 0, 1)) (List.mem_of_getElem? (i := 33) rfl)
theorem dX12_first_60 : decode cX12_first 60 = .ok (.iload 4, 2) := dgX12_first_0 (60, (.iload 4, 2)) (List.mem_of_getElem? (i := 34) rfl)
theorem dX12_first_62 : decode cX12_first 62 = .ok (.iload_n 1, 1) := dgX12_first_0 (62, (.iload_n 1, 1)) (List.mem_of_getElem? (i := 35) rfl)
theorem dX12_first_63 : decode cX12_first 63 = .ok (.iload_n 3, 1) := dgX12_first_0 (63, (.iload_n 3, 1)) (List.mem_of_getElem? (i := 36) rfl)
theorem dX12_first_64 : decode cX12_first 64 = .ok (.invokevirtual 407, 3) := dgX12_first_0 (64, (.invokevirtual 407, 3)) (List.mem_of_getElem? (i := 37) rfl)
theorem dX12_first_67 : decode cX12_first 67 = .ok (.istore 5, 2) := dgX12_first_0 (67, (.istore 5, 2)) (List.mem_of_getElem? (i := 38) rfl)
theorem dX12_first_69 : decode cX12_first 69 = .ok (.iload 5, 2) := dgX12_first_0 (69, (.iload 5, 2)) (List.mem_of_getElem? (i := 39) rfl)
theorem dgX12_first_1 : ∀ r ∈ ([(71, (.iconst (-1), 1)), (72, (.if_icmp .eq 24, 3)), (75, (.iload_n 2, 1)), (76, (.ifCond .ne 7, 3)), (79, (.iload_n 3, 1)), (80, (.goto 15, 3)), (83, (.iload_n 2, 1)), (84, (.iconst 1, 1)), (85, (.if_icmp .ne 8, 3)), (88, (.iload 4, 2)), (90, (.goto 5, 3)), (93, (.iload 5, 2)), (95, (.ireturn, 1)), (96, (.iinc 4 1, 3)), (99, (.goto (-61), 3)), (102, (.iinc 3 1, 3)), (105, (.goto (-76), 3)), (108, (.iconst (-1), 1)), (109, (.ireturn, 1))] : List (Nat × (Instr × Nat))), decode cX12_first r.1 = .ok r.2 := by decide +kernel
theorem dX12_first_71 : decode cX12_first 71 = .ok (.iconst (-1), 1) := dgX12_first_1 (71, (.iconst (-1), 1)) (List.mem_of_getElem? (i := 0) rfl)
theorem dX12_first_72 : decode cX12_first 72 = .ok (.if_icmp .eq 24, 3) := dgX12_first_1 (72, (.if_icmp .eq 24, 3)) (List.mem_of_getElem? (i := 1) rfl)
theorem dX12_first_75 : decode cX12_first 75 = .ok (.iload_n 2, 1) := dgX12_first_1 (75, (.iload_n 2, 1)) (List.mem_of_getElem? (i := 2) rfl)
theorem dX12_first_76 : decode cX12_first 76 = .ok (.ifCond .ne 7, 3) := dgX12_first_1 (76, (.ifCond .ne 7, 3)) (List.mem_of_getElem? (i := 3) rfl)
theorem dX12_first_79 : decode cX12_first 79 = .ok (.iload_n 3, 1) := dgX12_first_1 (79, (.iload_n 3, 1)) (List.mem_of_getElem? (i := 4) rfl)
theorem dX12_first_80 : decode cX12_first 80 = .ok (.goto 15, 3) := dgX12_first_1 (80, (.goto 15, 3)) (List.mem_of_getElem? (i := 5) rfl)
theorem dX12_first_83 : decode cX12_first 83 = .ok (.iload_n 2, 1) := dgX12_first_1 (83, (.iload_n 2, 1)) (List.mem_of_getElem? (i := 6) rfl)
theorem dX12_first_84 : decode cX12_first 84 = .ok (.iconst 1, 1) := dgX12_first_1 (84, (.iconst 1, 1)) (List.mem_of_getElem? (i := 7) rfl)
theorem dX12_first_85 : decode cX12_first 85 = .ok (.if_icmp .ne 8, 3) := dgX12_first_1 (85, (.if_icmp .ne 8, 3)) (List.mem_of_getElem? (i := 8) rfl)
theorem dX12_first_88 : decode cX12_first 88 = .ok (.iload 4, 2) := dgX12_first_1 (88, (.iload 4, 2)) (List.mem_of_getElem? (i := 9) rfl)
theorem dX12_first_90 : decode cX12_first 90 = .ok (.goto 5, 3) := dgX12_first_1 (90, (.goto 5, 3)) (List.mem_of_getElem? (i := 10) rfl)
theorem dX12_first_93 : decode cX12_first 93 = .ok (.iload 5, 2) := dgX12_first_1 (93, (.iload 5, 2)) (List.mem_of_getElem? (i := 11) rfl)
theorem dX12_first_95 : decode cX12_first 95 = .ok (.ireturn, 1) := dgX12_first_1 (95, (.ireturn, 1)) (List.mem_of_getElem? (i := 12) rfl)
theorem dX12_first_96 : decode cX12_first 96 = .ok (.iinc 4 1, 3) := dgX12_first_1 (96, (.iinc 4 1, 3)) (List.mem_of_getElem? (i := 13) rfl)
theorem dX12_first_99 : decode cX12_first 99 = .ok (.goto (-61), 3) := dgX12_first_1 (99, (.goto (-61), 3)) (List.mem_of_getElem? (i := 14) rfl)
theorem dX12_first_102 : decode cX12_first 102 = .ok (.iinc 3 1, 3) := dgX12_first_1 (102, (.iinc 3 1, 3)) (List.mem_of_getElem? (i := 15) rfl)
theorem dX12_first_105 : decode cX12_first 105 = .ok (.goto (-76), 3) := dgX12_first_1 (105, (.goto (-76), 3)) (List.mem_of_getElem? (i := 16) rfl)
theorem dX12_first_108 : decode cX12_first 108 = .ok (.iconst (-1), 1) := dgX12_first_1 (108, (.iconst (-1), 1)) (List.mem_of_getElem? (i := 17) rfl)
theorem dX12_first_109 : decode cX12_first 109 = .ok (.ireturn, 1) := dgX12_first_1 (109, (.ireturn, 1)) (List.mem_of_getElem? (i := 18) rfl)
theorem kl_X12_411 : Cond.constantLong RX12 411 2 ∈ tblG := tg 1675 (by decide +kernel) (by decide +kernel)
set_option maxHeartbeats 4000000 in
set_option maxRecDepth 100000 in
theorem n_in_0_2 (l : Launch) (G : g5_G) (sz : Nat) (p_x : Int32) : Met l yX12_in (wsG yX12_in cX12_in 6 (some .boolean)) ({ frames := 0, cells := 0, slots := 0, locals := 0 }) (va_Pc [.long p_x.toInt64, .long 0, .long 2] (g5_P G [] sz)) (va_Qi (fun (r : Int32) (u : va_W) => ((p_x.toInt < 0 ∨ 2 < p_x.toInt) ∧ (r = 0) ∧ (u = [])) ∨ ((0 ≤ p_x.toInt ∧ p_x.toInt ≤ 2) ∧ (r = 1) ∧ (u = []))) (g5_B G (va_A [] sz)) (va_A [] sz)) 0 0 (va_A [] sz) := by
  refine Met.ofW (cc := cX12_in) (maxL := 6) (ret := (some .boolean)) (by decide) rfl ?_
  intro p e s m args below meth c s₁ B hml hv
  obtain ⟨rfl, hsz, hP, hK, hD0, hN, hT⟩ := hv
  have hx := B.exec
  have hb := B.bytes
  have hr := B.returns
  have hts : ∀ w ∈ tblG, w.before _ s = true := fun w h => atoms_spec (ws := (wsG yX12_in cX12_in 6 (some .boolean))) B.pre w (List.mem_cons_of_mem _ h)
  have hown : s.vm.findClass RX12 = some m.cls := findClass_of_methodNamed B.named
  have hlocks := B.notSynchronized
  subst hsz
  have hD := hD0.self (sz := s.heap.size)
  generalize hAe : va_A [] s.heap.size = A at hD hT ⊢
  have hA : ∀ q : Nat, s.heap.size ≤ q → A q := fun q h => by rw [← hAe]; exact Or.inr h
  have hS : va_S A s.heap s.heap [] := va_S.rf
  have hP : va_P G.1 vwCl [] s.heap := hP
  have hl := lv_entry ([.long p_x.toInt64, .long 0, .long 2]) (n := 6) (Nat.le_of_ble_eq_true rfl)
  rw [lg_entry_eq]
  generalize (lg_sl ([.long p_x.toInt64, .long 0, .long 2]) ++ List.replicate (6 - (lg_sl ([.long p_x.toInt64, .long 0, .long 2])).length) Slot.unset).toArray = ls at hl ⊢
  have hl : lv_has ls 6 [(0, .long p_x.toInt64), (2, .long 0), (4, .long 2)] := hl
  refine lv_lload_n hx hb dX12_in_0 rfl (lv_at hl 0 rfl) ?_
  refine lv_lload_n hx hb dX12_in_1 rfl (lv_at hl 1 rfl) ?_
  have tl_1 : p_x.toInt64.toInt = p_x.toInt := Int32.toInt_toInt64 _
  have tl_2 : (0 : Int64).toInt = 0 := (by decide)
  have tc_3 := g5_cmpI p_x.toInt64 0
  refine W.lcmp hx hb dX12_in_2 ?_
  refine lv_if_lt (tgt := 17) hx hb dX12_in_3 (by decide) (fun c_4 => ?_) (fun c_4 => ?_)
  ·
    have i_4 : (lg_cmp p_x.toInt64 0).toInt < 0 := by have z := g5_lt (a := (lg_cmp p_x.toInt64 0).toInt) (b := 0) (by rfl) (by decide) c_4; omega
    refine lv_iconst (v := 0) hx hb dX12_in_17 (by decide) ?_
    exact W.zret (v := 0) hx hb hr rfl (fun t ht hW => ⟨⟨0, [], rfl, Or.inl (⟨by omega, rfl, rfl⟩), by rw [ht]; exact hP.sub [] rfl, hD.sub [] (by decide) rfl⟩, hS.F ht⟩) hS.2.2 dX12_in_18
  ·
    have i_4 : (lg_cmp p_x.toInt64 0).toInt ≥ 0 := by have z := g5_ltN (a := (lg_cmp p_x.toInt64 0).toInt) (b := 0) (by rfl) (by decide) c_4; omega
    refine lv_lload_n hx hb dX12_in_6 rfl (lv_at hl 0 rfl) ?_
    refine lv_lload hx hb dX12_in_7 (lv_at hl 2 rfl) ?_
    have tl_5 : p_x.toInt64.toInt = p_x.toInt := Int32.toInt_toInt64 _
    have tl_6 : (2 : Int64).toInt = 2 := (by decide)
    have tc_7 := g5_cmpI p_x.toInt64 2
    refine W.lcmp hx hb dX12_in_9 ?_
    refine lv_if_gt (tgt := 17) hx hb dX12_in_10 (by decide) (fun c_8 => ?_) (fun c_8 => ?_)
    ·
      have i_8 : (lg_cmp p_x.toInt64 2).toInt > 0 := by have z := g5_gt (a := (lg_cmp p_x.toInt64 2).toInt) (b := 0) (by rfl) (by decide) c_8; omega
      refine lv_iconst (v := 0) hx hb dX12_in_17 (by decide) ?_
      exact W.zret (v := 0) hx hb hr rfl (fun t ht hW => ⟨⟨0, [], rfl, Or.inl (⟨by omega, rfl, rfl⟩), by rw [ht]; exact hP.sub [] rfl, hD.sub [] (by decide) rfl⟩, hS.F ht⟩) hS.2.2 dX12_in_18
    ·
      have i_8 : (lg_cmp p_x.toInt64 2).toInt ≤ 0 := by have z := g5_gtN (a := (lg_cmp p_x.toInt64 2).toInt) (b := 0) (by rfl) (by decide) c_8; omega
      refine lv_iconst (v := 1) hx hb dX12_in_13 (by decide) ?_
      refine lv_goto (tgt := 18) hx hb dX12_in_14 (by decide) ?_
      exact W.zret (v := 1) hx hb hr rfl (fun t ht hW => ⟨⟨1, [], rfl, Or.inr (⟨by omega, rfl, rfl⟩), by rw [ht]; exact hP.sub [] rfl, hD.sub [] (by decide) rfl⟩, hS.F ht⟩) hS.2.2 dX12_in_18
set_option maxHeartbeats 4000000 in
set_option maxRecDepth 100000 in
theorem n_first (l : Launch) (G : g5_G) (b_o b_ro b_se b_re b_pt b_rf b_im b_ke b_tp b_nl b_op b_ar b_pi b_pa b_ws b_hw b_ip b_ah b_be b_me b_tr b_ld b_wn : Nat) (sz : Nat) (u_th : Int32) (u_sa : Int32) (u_fd : Int32) (u_td : Int32) (u_fr : Int32) (u_to : Int32) (u_so : Int32) (u_fa : Int32) (u_bd : Int32) (u_nc : Int32) (u_co : Int32) (u_le : Int32) (u_pd : Int32) (u_od : Int32) (u_la : Int32) (u_bk : Int32) (u_ce : Int32) (u_ho : Int32) (u_wy : Int32) (u_bt : Int32) (u_ps : Int32) (u_tg : Int32) (u_sn : Int32) (u_ic : Int32) (u_wd : Int32) (u_id : Int32) (p_1 : Int32) (p_2 : Int32) (u_wo : Int64) (u_va : Int64) (u_su : Int64) (u_st : Int64) (v_ro : Nat → Int32) (v_se : Nat → Int64) (v_re : Nat → Int64) (v_pt : Nat → Int32) (h_u_td : 0 ≤ u_td.toInt ∧ u_td.toInt ≤ 400) (h_u_fr : 0 ≤ u_fr.toInt ∧ u_fr.toInt ≤ 400) (h_u_to : 0 ≤ u_to.toInt ∧ u_to.toInt ≤ 400) (h_u_bd : 0 ≤ u_bd.toInt ∧ u_bd.toInt ≤ 1) (h_u_nc : 0 ≤ u_nc.toInt ∧ u_nc.toInt ≤ 12) (h_u_co : 0 ≤ u_co.toInt ∧ u_co.toInt ≤ 400) (h_u_pd : 0 ≤ u_pd.toInt ∧ u_pd.toInt ≤ 400) (h_u_la : 0 ≤ u_la.toInt ∧ u_la.toInt ≤ 4840) (h_u_bk : 0 ≤ u_bk.toInt ∧ u_bk.toInt ≤ 1) (h_u_ce : 0 ≤ u_ce.toInt ∧ u_ce.toInt ≤ 63) (h_u_ho : 0 ≤ u_ho.toInt ∧ u_ho.toInt ≤ 23) (h_u_wy : 0 ≤ u_wy.toInt ∧ u_wy.toInt ≤ 3) (h_u_bt : 0 ≤ u_bt.toInt ∧ u_bt.toInt ≤ 1000000) (h_u_ps : 0 ≤ u_ps.toInt ∧ u_ps.toInt ≤ 200) (h_u_ic : 0 ≤ u_ic.toInt ∧ u_ic.toInt ≤ 1) (h_u_id : 0 ≤ u_id.toInt ∧ u_id.toInt ≤ 1) (r_ro : MI v_ro) (r_pt : PTI v_pt) : Met l yX12_first (wsG yX12_first cX12_first 6 (some .int)) ({ frames := 8, cells := 0, slots := 0, locals := 203 }) (va_Pc [.ref b_o, .int p_1, .int p_2] (g5_P G [(b_o, (oc12 u_th u_sa b_rf b_ro b_im b_ke u_fd b_tp u_td u_fr u_to u_so u_wo u_fa u_bd u_nc b_nl u_co b_op b_ar u_le b_pi b_pa u_pd u_od b_ws b_hw u_la b_se b_re u_bk u_va u_su u_ce u_ho u_wy u_bt u_ps b_pt u_tg u_sn b_ip u_ic b_ah b_be b_me u_wd b_tr b_ld u_st b_wn u_id)), (b_ro, (arI G 5740 v_ro)), (b_se, (arJ G 13 v_se)), (b_re, (arJ G 400 v_re)), (b_pt, (arI G 200 v_pt))] sz)) (va_Qi (fun (r : Int32) (u : va_W) => (∃ (o_r : Int32) (o_th : Int32) (o_la : Int32) (o_bk : Int32) (o_va : Int64) (o_su : Int64) (o_ce : Int32) (o_ho : Int32) (o_wy : Int32) (o_bt : Int32) (o_ps : Int32) (o_tg : Int32) (o_sn : Int32) (o_se : Nat → Int64) (o_re : Nat → Int64) (o_pt : Nat → Int32), (0 ≤ o_la.toInt ∧ o_la.toInt ≤ 4840) ∧ (0 ≤ o_bk.toInt ∧ o_bk.toInt ≤ 1) ∧ (0 ≤ o_ce.toInt ∧ o_ce.toInt ≤ 63) ∧ (0 ≤ o_ho.toInt ∧ o_ho.toInt ≤ 23) ∧ (0 ≤ o_wy.toInt ∧ o_wy.toInt ≤ 3) ∧ (0 ≤ o_bt.toInt ∧ o_bt.toInt ≤ 1000000) ∧ (0 ≤ o_ps.toInt ∧ o_ps.toInt ≤ 200) ∧ (PTI o_pt) ∧ (r = o_r) ∧ (u = [(b_o, (oc12 o_th u_sa b_rf b_ro b_im b_ke u_fd b_tp u_td u_fr u_to u_so u_wo u_fa u_bd u_nc b_nl u_co b_op b_ar u_le b_pi b_pa u_pd u_od b_ws b_hw o_la b_se b_re o_bk o_va o_su o_ce o_ho o_wy o_bt o_ps b_pt o_tg o_sn b_ip u_ic b_ah b_be b_me u_wd b_tr b_ld u_st b_wn u_id)), (b_ro, (arI G 5740 v_ro)), (b_se, (arJ G 13 o_se)), (b_re, (arJ G 400 o_re)), (b_pt, (arI G 200 o_pt))]))) (g5_B G (va_A [(b_o, (oc12 u_th u_sa b_rf b_ro b_im b_ke u_fd b_tp u_td u_fr u_to u_so u_wo u_fa u_bd u_nc b_nl u_co b_op b_ar u_le b_pi b_pa u_pd u_od b_ws b_hw u_la b_se b_re u_bk u_va u_su u_ce u_ho u_wy u_bt u_ps b_pt u_tg u_sn b_ip u_ic b_ah b_be b_me u_wd b_tr b_ld u_st b_wn u_id)), (b_ro, (arI G 5740 v_ro)), (b_se, (arJ G 13 v_se)), (b_re, (arJ G 400 v_re)), (b_pt, (arI G 200 v_pt))] sz)) (va_A [(b_o, (oc12 u_th u_sa b_rf b_ro b_im b_ke u_fd b_tp u_td u_fr u_to u_so u_wo u_fa u_bd u_nc b_nl u_co b_op b_ar u_le b_pi b_pa u_pd u_od b_ws b_hw u_la b_se b_re u_bk u_va u_su u_ce u_ho u_wy u_bt u_ps b_pt u_tg u_sn b_ip u_ic b_ah b_be b_me u_wd b_tr b_ld u_st b_wn u_id)), (b_ro, (arI G 5740 v_ro)), (b_se, (arJ G 13 v_se)), (b_re, (arJ G 400 v_re)), (b_pt, (arI G 200 v_pt))] sz)) 0 0 (va_A [(b_o, (oc12 u_th u_sa b_rf b_ro b_im b_ke u_fd b_tp u_td u_fr u_to u_so u_wo u_fa u_bd u_nc b_nl u_co b_op b_ar u_le b_pi b_pa u_pd u_od b_ws b_hw u_la b_se b_re u_bk u_va u_su u_ce u_ho u_wy u_bt u_ps b_pt u_tg u_sn b_ip u_ic b_ah b_be b_me u_wd b_tr b_ld u_st b_wn u_id)), (b_ro, (arI G 5740 v_ro)), (b_se, (arJ G 13 v_se)), (b_re, (arJ G 400 v_re)), (b_pt, (arI G 200 v_pt))] sz) := by
  refine Met.ofW (cc := cX12_first) (maxL := 6) (ret := (some .int)) (by decide +kernel) rfl ?_
  intro p e s m args below meth c s₁ B hml hv
  obtain ⟨rfl, hsz, hP, hK, hD0, hN, hT⟩ := hv
  have hx := B.exec
  have hb := B.bytes
  have hr := B.returns
  have hts : ∀ w ∈ tblG, w.before _ s = true := fun w h => atoms_spec (ws := (wsG yX12_first cX12_first 6 (some .int))) B.pre w (List.mem_cons_of_mem _ h)
  have hown : s.vm.findClass RX12 = some m.cls := findClass_of_methodNamed B.named
  have hlocks := B.notSynchronized
  subst hsz
  have hD := hD0.self (sz := s.heap.size)
  generalize hAe : va_A [(b_o, (oc12 u_th u_sa b_rf b_ro b_im b_ke u_fd b_tp u_td u_fr u_to u_so u_wo u_fa u_bd u_nc b_nl u_co b_op b_ar u_le b_pi b_pa u_pd u_od b_ws b_hw u_la b_se b_re u_bk u_va u_su u_ce u_ho u_wy u_bt u_ps b_pt u_tg u_sn b_ip u_ic b_ah b_be b_me u_wd b_tr b_ld u_st b_wn u_id)), (b_ro, (arI G 5740 v_ro)), (b_se, (arJ G 13 v_se)), (b_re, (arJ G 400 v_re)), (b_pt, (arI G 200 v_pt))] s.heap.size = A at hD hT ⊢
  have hA : ∀ q : Nat, s.heap.size ≤ q → A q := fun q h => by rw [← hAe]; exact Or.inr h
  have hS : va_S A s.heap s.heap [] := va_S.rf
  replace hP : va_P G.1 vwCl [(b_o, (oc12 u_th u_sa b_rf b_ro b_im b_ke u_fd b_tp u_td u_fr u_to u_so u_wo u_fa u_bd u_nc b_nl u_co b_op b_ar u_le b_pi b_pa u_pd u_od b_ws b_hw u_la b_se b_re u_bk u_va u_su u_ce u_ho u_wy u_bt u_ps b_pt u_tg u_sn b_ip u_ic b_ah b_be b_me u_wd b_tr b_ld u_st b_wn u_id)), (b_ro, (arI G 5740 v_ro)), (b_se, (arJ G 13 v_se)), (b_re, (arJ G 400 v_re)), (b_pt, (arI G 200 v_pt))] s.heap := hP
  have hl := lv_entry ([.ref b_o, .int p_1, .int p_2]) (n := 6) (Nat.le_of_ble_eq_true rfl)
  rw [lg_entry_eq]
  generalize (lg_sl ([.ref b_o, .int p_1, .int p_2]) ++ List.replicate (6 - (lg_sl ([.ref b_o, .int p_1, .int p_2])).length) Slot.unset).toArray = ls at hl ⊢
  replace hl : lv_has ls 6 [(0, .ref b_o), (1, .int p_1), (2, .int p_2)] := hl
  refine lv_aload_n hx hb dX12_first_0 rfl (lv_at hl 0 rfl) ?_
  refine lv_iconst (v := 0) hx hb dX12_first_1 (by decide +kernel) ?_
  refine va_put (D := G.1) (ci := 12) (v := .int 0) (ty := .int) (C := RX12) (T := TX12) (N := 52) hx hb hts inG_X12 tyX12 tyX12_ok nmX12 hown hK hP hD hS 0 rfl rfl 0 (by decide +kernel) (hts _ fl_X12_107) (fun _ h9 => h9) rfl (by decide +kernel) rfl rfl (Nat.le_of_ble_eq_true rfl) dX12_first_2 ?_
  clear hP hD hS
  intro H locs hP hD hS
  refine g5_rs [(b_o, (oc12 0 u_sa b_rf b_ro b_im b_ke u_fd b_tp u_td u_fr u_to u_so u_wo u_fa u_bd u_nc b_nl u_co b_op b_ar u_le b_pi b_pa u_pd u_od b_ws b_hw u_la b_se b_re u_bk u_va u_su u_ce u_ho u_wy u_bt u_ps b_pt u_tg u_sn b_ip u_ic b_ah b_be b_me u_wd b_tr b_ld u_st b_wn u_id)), (b_ro, (arI G 5740 v_ro)), (b_se, (arJ G 13 v_se)), (b_re, (arJ G 400 v_re)), (b_pt, (arI G 200 v_pt))] hP hD ?_
  clear hP hD
  intro hP hD
  refine lv_aload_n hx hb dX12_first_5 rfl (lv_at hl 0 rfl) ?_
  refine W.eq (g2 := F0 m 6 ls [.ref b_o]) rfl ?_
  refine lv_iload_n hx hb dX12_first_6 rfl (lv_at hl 1 rfl) ?_
  obtain ⟨hPc, hDc, hFc⟩ := g5_sub3 (wc := [(b_o, (oc12 0 u_sa b_rf b_ro b_im b_ke u_fd b_tp u_td u_fr u_to u_so u_wo u_fa u_bd u_nc b_nl u_co b_op b_ar u_le b_pi b_pa u_pd u_od b_ws b_hw u_la b_se b_re u_bk u_va u_su u_ce u_ho u_wy u_bt u_ps b_pt u_tg u_sn b_ip u_ic b_ah b_be b_me u_wd b_tr b_ld u_st b_wn u_id)), (b_ro, (arI G 5740 v_ro))]) hP hD hS hA [0, 1] (by decide +kernel) rfl
  refine va_calli (va_runV (As := [.int p_1]) (rest := []) ⟨hx, hb, hml, hown, hts⟩ (n_isBody l G b_o b_ro b_rf b_im b_ke b_tp b_nl b_op b_ar b_pi b_pa b_ws b_hw b_se b_re b_pt b_ip b_ah b_be b_me b_tr b_ld b_wn H.size 0 u_sa u_fd u_td u_fr u_to u_so u_fa u_bd u_nc u_co u_le u_pd u_od u_la u_bk u_ce u_ho u_wy u_bt u_ps u_tg u_sn u_ic u_wd u_id p_1 u_wo u_va u_su u_st v_ro h_u_td h_u_fr h_u_to h_u_bd h_u_nc h_u_co h_u_pd h_u_la h_u_bk h_u_ce h_u_ho h_u_wy h_u_bt h_u_ps h_u_ic h_u_id (r_ro)) (cwV 1 hts gV_X12_180 rfl rfl rfl hv_X12_isBody ⟨Nat.le_of_ble_eq_true rfl, Nat.le_of_ble_eq_true rfl⟩) (g5_preV hPc hK hDc hN hT hS hFc (ci := 12) (q0 := 0) rfl rfl) rfl rfl hl.1 rfl (lv_room (Nat.le_of_ble_eq_true rfl)) dX12_first_7 ⟨Nat.le_of_ble_eq_true rfl, Nat.le_of_ble_eq_true rfl⟩) hS (fun q _ h => hFc q h) hFc (fun r u t H locs ht hvm hw hB hz1 hk1 hS => ?_)
  obtain ⟨hP1, hD1⟩ := hB
  have hP1 := g5_ht ht hP1
  rcases hw with ⟨(i_1 : 0 ≤ p_1.toInt ∧ p_1.toInt ≤ 4), rfl, rfl⟩ | ⟨rfl, rfl⟩
  ·
    have hJ9 := va_join (wr := [(b_se, (arJ G 13 v_se)), (b_re, (arJ G 400 v_re)), (b_pt, (arI G 200 v_pt))]) hP hD [0, 1] [2, 3, 4] rfl rfl (by decide +kernel) (by decide +kernel) hk1 hFc hP1 hD1
    clear hP hD hPc hDc hFc ht hvm hz1 hk1 hP1 hD1
    obtain ⟨hP, hD⟩ := hJ9
    refine g5_rs [(b_se, (arJ G 13 v_se)), (b_re, (arJ G 400 v_re)), (b_pt, (arI G 200 v_pt)), (b_o, (oc12 0 u_sa b_rf b_ro b_im b_ke u_fd b_tp u_td u_fr u_to u_so u_wo u_fa u_bd u_nc b_nl u_co b_op b_ar u_le b_pi b_pa u_pd u_od b_ws b_hw u_la b_se b_re u_bk u_va u_su u_ce u_ho u_wy u_bt u_ps b_pt u_tg u_sn b_ip u_ic b_ah b_be b_me u_wd b_tr b_ld u_st b_wn u_id)), (b_ro, (arI G 5740 v_ro))] hP hD ?_
    clear hP hD
    intro hP hD
    refine lv_if_eq (tgt := 25) hx hb dX12_first_10 (by decide +kernel) (fun c_2 => ?_) (fun c_2 => ?_)
    ·
      exact absurd c_2 (by decide +kernel)
    ·
      refine lv_iload_n hx hb dX12_first_13 rfl (lv_at hl 2 rfl) ?_
      refine lv_i2l (v := p_2.toInt64) hx hb dX12_first_14 rfl ?_
      refine lv_lconst (v := 0) hx hb dX12_first_15 (by decide +kernel) ?_
      refine lv_ldc2 (v := 2) hx hb hown (hts _ kl_X12_411) dX12_first_16 ?_
      refine W.eq (g2 := F0 m 19 ls [.long 2, .long 0, .long p_2.toInt64]) rfl ?_
      obtain ⟨hPc, hDc, hFc⟩ := g5_sub3 (wc := []) hP hD hS hA [] (by decide +kernel) rfl
      refine va_calli (va_runS (As := [.long p_2.toInt64, .long 0, .long 2]) (rest := []) ⟨hx, hb, hml, hown, hts⟩ (n_in_0_2 l G H.size p_2) (va_cwS 3 hts gS_X12_121 rfl rfl rfl hs_X12_in ⟨Nat.le_of_ble_eq_true rfl, Nat.le_of_ble_eq_true rfl⟩) (g5_preS hPc hK hDc hN hT hS hFc) rfl rfl hl.1 rfl (lv_room (Nat.le_of_ble_eq_true rfl)) dX12_first_19 ⟨Nat.le_of_ble_eq_true rfl, Nat.le_of_ble_eq_true rfl⟩) hS (fun q _ h => hFc q h) hFc (fun r u t H locs ht hvm hw hB hz1 hk1 hS => ?_)
      obtain ⟨hP1, hD1⟩ := hB
      have hP1 := g5_ht ht hP1
      rcases hw with ⟨(i_3 : p_2.toInt < 0 ∨ 2 < p_2.toInt), rfl, rfl⟩ | ⟨(i_4 : 0 ≤ p_2.toInt ∧ p_2.toInt ≤ 2), rfl, rfl⟩
      ·
        have hJ9 := g5_same hP hk1
        clear hP hPc hDc hFc ht hvm hz1 hk1 hP1 hD1
        have hP := hJ9
        clear hJ9
        refine lv_if_ne (tgt := 27) hx hb dX12_first_22 (by decide +kernel) (fun c_5 => ?_) (fun c_5 => ?_)
        ·
          exact absurd c_5 (by decide +kernel)
        ·
          refine lv_iconst (v := (-1)) hx hb dX12_first_25 (by decide +kernel) ?_
          exact W.iret (v := (-1)) hx hb hr (fun t ht hW => ⟨⟨(-1), [(b_o, (oc12 0 u_sa b_rf b_ro b_im b_ke u_fd b_tp u_td u_fr u_to u_so u_wo u_fa u_bd u_nc b_nl u_co b_op b_ar u_le b_pi b_pa u_pd u_od b_ws b_hw u_la b_se b_re u_bk u_va u_su u_ce u_ho u_wy u_bt u_ps b_pt u_tg u_sn b_ip u_ic b_ah b_be b_me u_wd b_tr b_ld u_st b_wn u_id)), (b_ro, (arI G 5740 v_ro)), (b_se, (arJ G 13 v_se)), (b_re, (arJ G 400 v_re)), (b_pt, (arI G 200 v_pt))], rfl, ⟨(-1), 0, u_la, u_bk, u_va, u_su, u_ce, u_ho, u_wy, u_bt, u_ps, u_tg, u_sn, v_se, v_re, v_pt, h_u_la, h_u_bk, h_u_ce, h_u_ho, h_u_wy, h_u_bt, h_u_ps, r_pt, rfl, rfl⟩, by rw [ht]; exact hP.sub [3, 4, 0, 1, 2] rfl, hD.sub [3, 4, 0, 1, 2] (by decide +kernel) rfl⟩, hS.F ht⟩) hS.2.2 dX12_first_26
      ·
        have hJ9 := g5_same hP hk1
        clear hP hPc hDc hFc ht hvm hz1 hk1 hP1 hD1
        have hP := hJ9
        clear hJ9
        refine lv_if_ne (tgt := 27) hx hb dX12_first_22 (by decide +kernel) (fun c_6 => ?_) (fun c_6 => ?_)
        ·
          refine lv_iconst (v := 0) hx hb dX12_first_27 (by decide +kernel) ?_
          refine lv_istore_n (lv' := [(3, .int 0), (0, .ref b_o), (1, .int p_1), (2, .int p_2)]) hx hb dX12_first_28 rfl hl (by decide +kernel) rfl ?_
          clear hl
          intro ls hl
          refine g5_loop (α := (Int32) × (Int32) × (Int32) × (Int64) × (Int64) × (Int32) × (Int32) × (Int32) × (Int32) × (Int32) × (Int32) × (Int32) × (Nat → Int64) × (Nat → Int64) × (Nat → Int32)) (fun (q : (Int32) × (Int32) × (Int32) × (Int64) × (Int64) × (Int32) × (Int32) × (Int32) × (Int32) × (Int32) × (Int32) × (Int32) × (Nat → Int64) × (Nat → Int64) × (Nat → Int32)) (ls : Array Slot) (H : Heap) (locs : List Loc) => match q with | (k29_3, k29_la, k29_bk, k29_va, k29_su, k29_ce, k29_ho, k29_wy, k29_bt, k29_ps, k29_tg, k29_sn, k29_se, k29_re, k29_pt) => lv_has ls 6 [(3, .int k29_3), (0, .ref b_o), (1, .int p_1), (2, .int p_2)] ∧ va_P G.1 vwCl [(b_se, (arJ G 13 k29_se)), (b_re, (arJ G 400 k29_re)), (b_pt, (arI G 200 k29_pt)), (b_o, (oc12 0 u_sa b_rf b_ro b_im b_ke u_fd b_tp u_td u_fr u_to u_so u_wo u_fa u_bd u_nc b_nl u_co b_op b_ar u_le b_pi b_pa u_pd u_od b_ws b_hw k29_la b_se b_re k29_bk k29_va k29_su k29_ce k29_ho k29_wy k29_bt k29_ps b_pt k29_tg k29_sn b_ip u_ic b_ah b_be b_me u_wd b_tr b_ld u_st b_wn u_id)), (b_ro, (arI G 5740 v_ro))] H ∧ va_D A [(b_se, (arJ G 13 k29_se)), (b_re, (arJ G 400 k29_re)), (b_pt, (arI G 200 k29_pt)), (b_o, (oc12 0 u_sa b_rf b_ro b_im b_ke u_fd b_tp u_td u_fr u_to u_so u_wo u_fa u_bd u_nc b_nl u_co b_op b_ar u_le b_pi b_pa u_pd u_od b_ws b_hw k29_la b_se b_re k29_bk k29_va k29_su k29_ce k29_ho k29_wy k29_bt k29_ps b_pt k29_tg k29_sn b_ip u_ic b_ah b_be b_me u_wd b_tr b_ld u_st b_wn u_id)), (b_ro, (arI G 5740 v_ro))] ∧ va_S A s.heap H locs ∧ (0 ≤ k29_3.toInt ∧ k29_3.toInt ≤ 24) ∧ (0 ≤ k29_la.toInt ∧ k29_la.toInt ≤ 4840) ∧ (0 ≤ k29_bk.toInt ∧ k29_bk.toInt ≤ 1) ∧ (0 ≤ k29_ce.toInt ∧ k29_ce.toInt ≤ 63) ∧ (0 ≤ k29_ho.toInt ∧ k29_ho.toInt ≤ 23) ∧ (0 ≤ k29_wy.toInt ∧ k29_wy.toInt ≤ 3) ∧ (0 ≤ k29_bt.toInt ∧ k29_bt.toInt ≤ 1000000) ∧ (0 ≤ k29_ps.toInt ∧ k29_ps.toInt ≤ 200) ∧ (PTI k29_pt)) (fun (q : (Int32) × (Int32) × (Int32) × (Int64) × (Int64) × (Int32) × (Int32) × (Int32) × (Int32) × (Int32) × (Int32) × (Int32) × (Nat → Int64) × (Nat → Int64) × (Nat → Int32)) => match q with | (k29_3, k29_la, k29_bk, k29_va, k29_su, k29_ce, k29_ho, k29_wy, k29_bt, k29_ps, k29_tg, k29_sn, k29_se, k29_re, k29_pt) => Int.toNat (24 - k29_3.toInt)) (0, u_la, u_bk, u_va, u_su, u_ce, u_ho, u_wy, u_bt, u_ps, u_tg, u_sn, v_se, v_re, v_pt) ⟨lv_sub hl [0, 1, 2, 3] rfl, hP, hD, hS, ⟨by decide, by decide⟩, h_u_la, h_u_bk, h_u_ce, h_u_ho, h_u_wy, h_u_bt, h_u_ps, r_pt⟩ ?_
          rintro ⟨k29_3, k29_la, k29_bk, k29_va, k29_su, k29_ce, k29_ho, k29_wy, k29_bt, k29_ps, k29_tg, k29_sn, k29_se, k29_re, k29_pt⟩ ls H locs ⟨hl, hP, hD, hS, (i_7 : 0 ≤ k29_3.toInt ∧ k29_3.toInt ≤ 24), (i_8 : 0 ≤ k29_la.toInt ∧ k29_la.toInt ≤ 4840), (i_9 : 0 ≤ k29_bk.toInt ∧ k29_bk.toInt ≤ 1), (i_10 : 0 ≤ k29_ce.toInt ∧ k29_ce.toInt ≤ 63), (i_11 : 0 ≤ k29_ho.toInt ∧ k29_ho.toInt ≤ 23), (i_12 : 0 ≤ k29_wy.toInt ∧ k29_wy.toInt ≤ 3), (i_13 : 0 ≤ k29_bt.toInt ∧ k29_bt.toInt ≤ 1000000), (i_14 : 0 ≤ k29_ps.toInt ∧ k29_ps.toInt ≤ 200), (i_15 : PTI k29_pt)⟩ ih_29_16
          replace hl : lv_has ls 6 [(3, .int k29_3), (0, .ref b_o), (1, .int p_1), (2, .int p_2)] := hl
          refine g5_rs [(b_se, (arJ G 13 k29_se)), (b_re, (arJ G 400 k29_re)), (b_pt, (arI G 200 k29_pt)), (b_o, (oc12 0 u_sa b_rf b_ro b_im b_ke u_fd b_tp u_td u_fr u_to u_so u_wo u_fa u_bd u_nc b_nl u_co b_op b_ar u_le b_pi b_pa u_pd u_od b_ws b_hw k29_la b_se b_re k29_bk k29_va k29_su k29_ce k29_ho k29_wy k29_bt k29_ps b_pt k29_tg k29_sn b_ip u_ic b_ah b_be b_me u_wd b_tr b_ld u_st b_wn u_id)), (b_ro, (arI G 5740 v_ro))] hP hD ?_
          clear hP hD
          intro hP hD
          refine lv_iload_n hx hb dX12_first_29 rfl (lv_at hl 0 rfl) ?_
          refine lv_bipush (v := 24) hx hb dX12_first_30 (by decide +kernel) ?_
          refine lv_icmp_ge (tgt := 108) hx hb dX12_first_32 (by decide +kernel) (fun c_17 => ?_) (fun c_17 => ?_)
          ·
            have i_17 : k29_3.toInt ≥ 24 := g5_ge (a := k29_3.toInt) (b := 24) rfl (by decide +kernel) c_17
            refine lv_iconst (v := (-1)) hx hb dX12_first_108 (by decide +kernel) ?_
            exact W.iret (v := (-1)) hx hb hr (fun t ht hW => ⟨⟨(-1), [(b_o, (oc12 0 u_sa b_rf b_ro b_im b_ke u_fd b_tp u_td u_fr u_to u_so u_wo u_fa u_bd u_nc b_nl u_co b_op b_ar u_le b_pi b_pa u_pd u_od b_ws b_hw k29_la b_se b_re k29_bk k29_va k29_su k29_ce k29_ho k29_wy k29_bt k29_ps b_pt k29_tg k29_sn b_ip u_ic b_ah b_be b_me u_wd b_tr b_ld u_st b_wn u_id)), (b_ro, (arI G 5740 v_ro)), (b_se, (arJ G 13 k29_se)), (b_re, (arJ G 400 k29_re)), (b_pt, (arI G 200 k29_pt))], rfl, ⟨(-1), 0, k29_la, k29_bk, k29_va, k29_su, k29_ce, k29_ho, k29_wy, k29_bt, k29_ps, k29_tg, k29_sn, k29_se, k29_re, k29_pt, i_8, i_9, i_10, i_11, i_12, i_13, i_14, i_15, rfl, rfl⟩, by rw [ht]; exact hP.sub [3, 4, 0, 1, 2] rfl, hD.sub [3, 4, 0, 1, 2] (by decide +kernel) rfl⟩, hS.F ht⟩) hS.2.2 dX12_first_109
          ·
            have i_17 : k29_3.toInt < 24 := g5_geN (a := k29_3.toInt) (b := 24) rfl (by decide +kernel) c_17
            refine lv_iconst (v := 0) hx hb dX12_first_35 (by decide +kernel) ?_
            refine lv_istore (lv' := [(4, .int 0), (3, .int k29_3), (0, .ref b_o), (1, .int p_1), (2, .int p_2)]) hx hb dX12_first_36 hl (by decide +kernel) rfl ?_
            clear hl
            intro ls hl
            refine g5_loop (α := (Int32) × (Int32) × (Int32) × (Int64) × (Int64) × (Int32) × (Int32) × (Int32) × (Int32) × (Int32) × (Int32) × (Int32) × (Nat → Int64) × (Nat → Int64) × (Nat → Int32)) (fun (q : (Int32) × (Int32) × (Int32) × (Int64) × (Int64) × (Int32) × (Int32) × (Int32) × (Int32) × (Int32) × (Int32) × (Int32) × (Nat → Int64) × (Nat → Int64) × (Nat → Int32)) (ls : Array Slot) (H : Heap) (locs : List Loc) => match q with | (k38_4, k38_la, k38_bk, k38_va, k38_su, k38_ce, k38_ho, k38_wy, k38_bt, k38_ps, k38_tg, k38_sn, k38_se, k38_re, k38_pt) => lv_has ls 6 [(4, .int k38_4), (3, .int k29_3), (0, .ref b_o), (1, .int p_1), (2, .int p_2)] ∧ va_P G.1 vwCl [(b_se, (arJ G 13 k38_se)), (b_re, (arJ G 400 k38_re)), (b_pt, (arI G 200 k38_pt)), (b_o, (oc12 0 u_sa b_rf b_ro b_im b_ke u_fd b_tp u_td u_fr u_to u_so u_wo u_fa u_bd u_nc b_nl u_co b_op b_ar u_le b_pi b_pa u_pd u_od b_ws b_hw k38_la b_se b_re k38_bk k38_va k38_su k38_ce k38_ho k38_wy k38_bt k38_ps b_pt k38_tg k38_sn b_ip u_ic b_ah b_be b_me u_wd b_tr b_ld u_st b_wn u_id)), (b_ro, (arI G 5740 v_ro))] H ∧ va_D A [(b_se, (arJ G 13 k38_se)), (b_re, (arJ G 400 k38_re)), (b_pt, (arI G 200 k38_pt)), (b_o, (oc12 0 u_sa b_rf b_ro b_im b_ke u_fd b_tp u_td u_fr u_to u_so u_wo u_fa u_bd u_nc b_nl u_co b_op b_ar u_le b_pi b_pa u_pd u_od b_ws b_hw k38_la b_se b_re k38_bk k38_va k38_su k38_ce k38_ho k38_wy k38_bt k38_ps b_pt k38_tg k38_sn b_ip u_ic b_ah b_be b_me u_wd b_tr b_ld u_st b_wn u_id)), (b_ro, (arI G 5740 v_ro))] ∧ va_S A s.heap H locs ∧ (0 ≤ k38_4.toInt ∧ k38_4.toInt ≤ 5) ∧ (0 ≤ k38_la.toInt ∧ k38_la.toInt ≤ 4840) ∧ (0 ≤ k38_bk.toInt ∧ k38_bk.toInt ≤ 1) ∧ (0 ≤ k38_ce.toInt ∧ k38_ce.toInt ≤ 63) ∧ (0 ≤ k38_ho.toInt ∧ k38_ho.toInt ≤ 23) ∧ (0 ≤ k38_wy.toInt ∧ k38_wy.toInt ≤ 3) ∧ (0 ≤ k38_bt.toInt ∧ k38_bt.toInt ≤ 1000000) ∧ (0 ≤ k38_ps.toInt ∧ k38_ps.toInt ≤ 200) ∧ (PTI k38_pt)) (fun (q : (Int32) × (Int32) × (Int32) × (Int64) × (Int64) × (Int32) × (Int32) × (Int32) × (Int32) × (Int32) × (Int32) × (Int32) × (Nat → Int64) × (Nat → Int64) × (Nat → Int32)) => match q with | (k38_4, k38_la, k38_bk, k38_va, k38_su, k38_ce, k38_ho, k38_wy, k38_bt, k38_ps, k38_tg, k38_sn, k38_se, k38_re, k38_pt) => Int.toNat (5 - k38_4.toInt)) (0, k29_la, k29_bk, k29_va, k29_su, k29_ce, k29_ho, k29_wy, k29_bt, k29_ps, k29_tg, k29_sn, k29_se, k29_re, k29_pt) ⟨lv_sub hl [0, 1, 2, 3, 4] rfl, hP, hD, hS, ⟨by decide, by decide⟩, i_8, i_9, i_10, i_11, i_12, i_13, i_14, i_15⟩ ?_
            rintro ⟨k38_4, k38_la, k38_bk, k38_va, k38_su, k38_ce, k38_ho, k38_wy, k38_bt, k38_ps, k38_tg, k38_sn, k38_se, k38_re, k38_pt⟩ ls H locs ⟨hl, hP, hD, hS, (i_18 : 0 ≤ k38_4.toInt ∧ k38_4.toInt ≤ 5), (i_19 : 0 ≤ k38_la.toInt ∧ k38_la.toInt ≤ 4840), (i_20 : 0 ≤ k38_bk.toInt ∧ k38_bk.toInt ≤ 1), (i_21 : 0 ≤ k38_ce.toInt ∧ k38_ce.toInt ≤ 63), (i_22 : 0 ≤ k38_ho.toInt ∧ k38_ho.toInt ≤ 23), (i_23 : 0 ≤ k38_wy.toInt ∧ k38_wy.toInt ≤ 3), (i_24 : 0 ≤ k38_bt.toInt ∧ k38_bt.toInt ≤ 1000000), (i_25 : 0 ≤ k38_ps.toInt ∧ k38_ps.toInt ≤ 200), (i_26 : PTI k38_pt)⟩ ih_38_27
            replace hl : lv_has ls 6 [(4, .int k38_4), (3, .int k29_3), (0, .ref b_o), (1, .int p_1), (2, .int p_2)] := hl
            refine g5_rs [(b_se, (arJ G 13 k38_se)), (b_re, (arJ G 400 k38_re)), (b_pt, (arI G 200 k38_pt)), (b_o, (oc12 0 u_sa b_rf b_ro b_im b_ke u_fd b_tp u_td u_fr u_to u_so u_wo u_fa u_bd u_nc b_nl u_co b_op b_ar u_le b_pi b_pa u_pd u_od b_ws b_hw k38_la b_se b_re k38_bk k38_va k38_su k38_ce k38_ho k38_wy k38_bt k38_ps b_pt k38_tg k38_sn b_ip u_ic b_ah b_be b_me u_wd b_tr b_ld u_st b_wn u_id)), (b_ro, (arI G 5740 v_ro))] hP hD ?_
            clear hP hD
            intro hP hD
            refine lv_iload hx hb dX12_first_38 (lv_at hl 0 rfl) ?_
            refine lv_aload_n hx hb dX12_first_40 rfl (lv_at hl 2 rfl) ?_
            refine va_get (D := G.1) (ci := 12) (v := .ref b_ro) (C := RX12) (T := TX12) (N := 52) hx hb hts inG_X12 hown hK hP 3 rfl rfl 3 (by decide +kernel) (hts _ fl_X12_13) (fun _ h9 => h9) rfl dX12_first_41 ?_
            refine lv_iconst (v := 1) hx hb dX12_first_44 (by decide +kernel) ?_
            refine W.eq (g2 := F0 m 45 ls [.int 1, .ref b_ro, .int k38_4]) rfl ?_
            refine va_iald hx hb hK hP 4 0 rfl rfl (i := 1) (by unfold vp_in; decide) dX12_first_45 ?_
            refine g5_ti (v := (v_ro 1)) rfl ?_
            have hr_28 : 0 ≤ (v_ro 1).toInt ∧ (v_ro 1).toInt ≤ 5 := mi_1 r_ro
            refine lv_icmp_ge (tgt := 102) hx hb dX12_first_46 (by decide +kernel) (fun c_29 => ?_) (fun c_29 => ?_)
            ·
              have i_29 : k38_4.toInt ≥ (v_ro 1).toInt := g5_ge (a := k38_4.toInt) (b := (v_ro 1).toInt) rfl rfl c_29
              refine lv_iinc (v := (k29_3 + 1)) (lv' := [(3, .int (k29_3 + 1)), (4, .int k38_4), (0, .ref b_o), (1, .int p_1), (2, .int p_2)]) hx hb dX12_first_102 hl (k := 1) rfl rfl (by decide +kernel) rfl ?_
              clear hl
              intro ls hl
              have t_30 : (k29_3 + 1).toInt = k29_3.toInt + 1 := g5_iadd (a := k29_3.toInt) (b := 1) rfl (by decide +kernel) (by omega) (by omega)
              refine lv_goto (tgt := 29) hx hb dX12_first_105 (by decide +kernel) ?_
              exact ih_29_16 ((k29_3 + 1), k38_la, k38_bk, k38_va, k38_su, k38_ce, k38_ho, k38_wy, k38_bt, k38_ps, k38_tg, k38_sn, k38_se, k38_re, k38_pt) ls H locs (show Int.toNat (24 - (k29_3 + 1).toInt) < Int.toNat (24 - k29_3.toInt) from g_up (show k29_3.toInt < (k29_3 + 1).toInt by omega) (show k29_3.toInt < 24 by omega)) ⟨lv_sub hl [0, 2, 3, 4] rfl, hP, hD, hS, ⟨by omega, by omega⟩, i_19, i_20, i_21, i_22, i_23, i_24, i_25, i_26⟩
            ·
              have i_29 : k38_4.toInt < (v_ro 1).toInt := g5_geN (a := k38_4.toInt) (b := (v_ro 1).toInt) rfl rfl c_29
              refine lv_iload hx hb dX12_first_49 (lv_at hl 0 rfl) ?_
              refine lv_iload_n hx hb dX12_first_51 rfl (lv_at hl 3 rfl) ?_
              refine lv_icmp_ne (tgt := 59) hx hb dX12_first_52 (by decide +kernel) (fun c_31 => ?_) (fun c_31 => ?_)
              ·
                have n_31 : gNe (k38_4.toInt) (p_1.toInt) := g5_ne (a := k38_4.toInt) (b := p_1.toInt) rfl rfl c_31
                refine lv_aload_n hx hb dX12_first_59 rfl (lv_at hl 2 rfl) ?_
                refine lv_iload hx hb dX12_first_60 (lv_at hl 0 rfl) ?_
                refine lv_iload_n hx hb dX12_first_62 rfl (lv_at hl 3 rfl) ?_
                refine lv_iload_n hx hb dX12_first_63 rfl (lv_at hl 1 rfl) ?_
                refine W.eq (g2 := F0 m 64 ls [.int k29_3, .int p_1, .int k38_4, .ref b_o]) rfl ?_
                obtain ⟨hPc, hDc, hFc⟩ := g5_sub3 (wc := [(b_o, (oc12 0 u_sa b_rf b_ro b_im b_ke u_fd b_tp u_td u_fr u_to u_so u_wo u_fa u_bd u_nc b_nl u_co b_op b_ar u_le b_pi b_pa u_pd u_od b_ws b_hw k38_la b_se b_re k38_bk k38_va k38_su k38_ce k38_ho k38_wy k38_bt k38_ps b_pt k38_tg k38_sn b_ip u_ic b_ah b_be b_me u_wd b_tr b_ld u_st b_wn u_id)), (b_ro, (arI G 5740 v_ro)), (b_se, (arJ G 13 k38_se)), (b_re, (arJ G 400 k38_re)), (b_pt, (arI G 200 k38_pt))]) hP hD hS hA [3, 4, 0, 1, 2] (by decide +kernel) rfl
                refine va_calli (va_runV (As := [.int k38_4, .int p_1, .int k29_3]) (rest := []) ⟨hx, hb, hml, hown, hts⟩ (n_lateness l G b_o b_ro b_se b_re b_pt b_rf b_im b_ke b_tp b_nl b_op b_ar b_pi b_pa b_ws b_hw b_ip b_ah b_be b_me b_tr b_ld b_wn H.size 0 u_sa u_fd u_td u_fr u_to u_so u_fa u_bd u_nc u_co u_le u_pd u_od k38_la k38_bk k38_ce k38_ho k38_wy k38_bt k38_ps k38_tg k38_sn u_ic u_wd u_id k38_4 p_1 k29_3 u_wo k38_va k38_su u_st v_ro k38_se k38_re k38_pt h_u_td h_u_fr h_u_to h_u_bd h_u_nc h_u_co h_u_pd i_19 i_20 i_21 i_22 i_23 i_24 i_25 h_u_ic h_u_id ⟨by omega, by omega⟩ ⟨by omega, by omega⟩ (r_ro) (i_26)) (cwV 3 hts gV_X12_407 rfl rfl rfl hv_X12_lateness ⟨Nat.le_of_ble_eq_true rfl, Nat.le_of_ble_eq_true rfl⟩) (g5_preV hPc hK hDc hN hT hS hFc (ci := 12) (q0 := 0) rfl rfl) rfl rfl hl.1 rfl (lv_room (Nat.le_of_ble_eq_true rfl)) dX12_first_64 ⟨Nat.le_of_ble_eq_true rfl, Nat.le_of_ble_eq_true rfl⟩) hS (fun q _ h => hFc q h) hFc (fun r u t H locs ht hvm hw hB hz1 hk1 hS => ?_)
                obtain ⟨hP1, hD1⟩ := hB
                have hP1 := g5_ht ht hP1
                obtain ⟨z40, z41, z42, z43, z44, z45, z46, z47, z48, z49, z50, z51, z52, z53, z54, (i_32 : 0 ≤ z41.toInt ∧ z41.toInt ≤ 4840), (i_33 : 0 ≤ z42.toInt ∧ z42.toInt ≤ 1), (i_34 : 0 ≤ z45.toInt ∧ z45.toInt ≤ 63), (i_35 : 0 ≤ z46.toInt ∧ z46.toInt ≤ 23), (i_36 : 0 ≤ z47.toInt ∧ z47.toInt ≤ 3), (i_37 : 0 ≤ z48.toInt ∧ z48.toInt ≤ 1000000), (i_38 : 0 ≤ z49.toInt ∧ z49.toInt ≤ 200), (i_39 : PTI z54), y55, rfl⟩ := hw
                have hJ9 := va_join (wr := []) hP hD [3, 4, 0, 1, 2] [] rfl rfl (by decide +kernel) (by decide +kernel) hk1 hFc hP1 hD1
                clear hP hD hPc hDc hFc ht hvm hz1 hk1 hP1 hD1
                obtain ⟨hP, hD⟩ := hJ9
                refine g5_rs [(b_o, (oc12 0 u_sa b_rf b_ro b_im b_ke u_fd b_tp u_td u_fr u_to u_so u_wo u_fa u_bd u_nc b_nl u_co b_op b_ar u_le b_pi b_pa u_pd u_od b_ws b_hw z41 b_se b_re z42 z43 z44 z45 z46 z47 z48 z49 b_pt z50 z51 b_ip u_ic b_ah b_be b_me u_wd b_tr b_ld u_st b_wn u_id)), (b_ro, (arI G 5740 v_ro)), (b_se, (arJ G 13 z52)), (b_re, (arJ G 400 z53)), (b_pt, (arI G 200 z54))] hP hD ?_
                clear hP hD
                intro hP hD
                refine g5_ti (v := z40) y55 ?_
                refine lv_istore (lv' := [(5, .int z40), (4, .int k38_4), (3, .int k29_3), (0, .ref b_o), (1, .int p_1), (2, .int p_2)]) hx hb dX12_first_67 hl (by decide +kernel) rfl ?_
                clear hl
                intro ls hl
                refine lv_iload hx hb dX12_first_69 (lv_at hl 0 rfl) ?_
                refine lv_iconst (v := (-1)) hx hb dX12_first_71 (by decide +kernel) ?_
                refine lv_icmp_eq (tgt := 96) hx hb dX12_first_72 (by decide +kernel) (fun c_56 => ?_) (fun c_56 => ?_)
                ·
                  have i_56 : z40.toInt = (-1) := g5_eq (a := z40.toInt) (b := (-1)) rfl (by decide +kernel) c_56
                  refine lv_iinc (v := (k38_4 + 1)) (lv' := [(4, .int (k38_4 + 1)), (5, .int z40), (3, .int k29_3), (0, .ref b_o), (1, .int p_1), (2, .int p_2)]) hx hb dX12_first_96 hl (k := 1) rfl rfl (by decide +kernel) rfl ?_
                  clear hl
                  intro ls hl
                  have t_57 : (k38_4 + 1).toInt = k38_4.toInt + 1 := g5_iadd (a := k38_4.toInt) (b := 1) rfl (by decide +kernel) (by omega) (by omega)
                  refine lv_goto (tgt := 38) hx hb dX12_first_99 (by decide +kernel) ?_
                  exact ih_38_27 ((k38_4 + 1), z41, z42, z43, z44, z45, z46, z47, z48, z49, z50, z51, z52, z53, z54) ls H locs (show Int.toNat (5 - (k38_4 + 1).toInt) < Int.toNat (5 - k38_4.toInt) from g_up (show k38_4.toInt < (k38_4 + 1).toInt by omega) (show k38_4.toInt < 5 by omega)) ⟨lv_sub hl [0, 2, 3, 4, 5] rfl, hP.sub [2, 3, 4, 0, 1] rfl, hD.sub [2, 3, 4, 0, 1] (by decide +kernel) rfl, hS, ⟨by omega, by omega⟩, i_32, i_33, i_34, i_35, i_36, i_37, i_38, i_39⟩
                ·
                  have n_56 : gNe (z40.toInt) ((-1)) := g5_eqN (a := z40.toInt) (b := (-1)) rfl (by decide +kernel) c_56
                  refine lv_iload_n hx hb dX12_first_75 rfl (lv_at hl 5 rfl) ?_
                  refine lv_if_ne (tgt := 83) hx hb dX12_first_76 (by decide +kernel) (fun c_58 => ?_) (fun c_58 => ?_)
                  ·
                    have n_58 : gNe (p_2.toInt) (0) := g5_ne (a := p_2.toInt) (b := 0) rfl (by decide +kernel) c_58
                    have i_58 : p_2.toInt ≥ 1 := by have z := g5_ne (a := p_2.toInt) (b := 0) (by rfl) (by decide +kernel) c_58; omega
                    refine lv_iload_n hx hb dX12_first_83 rfl (lv_at hl 5 rfl) ?_
                    refine lv_iconst (v := 1) hx hb dX12_first_84 (by decide +kernel) ?_
                    refine lv_icmp_ne (tgt := 93) hx hb dX12_first_85 (by decide +kernel) (fun c_59 => ?_) (fun c_59 => ?_)
                    ·
                      have n_59 : gNe (p_2.toInt) (1) := g5_ne (a := p_2.toInt) (b := 1) rfl (by decide +kernel) c_59
                      have i_59 : p_2.toInt ≥ 2 := by have z := g5_ne (a := p_2.toInt) (b := 1) (by rfl) (by decide +kernel) c_59; omega
                      refine lv_iload hx hb dX12_first_93 (lv_at hl 0 rfl) ?_
                      exact W.iret (v := z40) hx hb hr (fun t ht hW => ⟨⟨z40, [(b_o, (oc12 0 u_sa b_rf b_ro b_im b_ke u_fd b_tp u_td u_fr u_to u_so u_wo u_fa u_bd u_nc b_nl u_co b_op b_ar u_le b_pi b_pa u_pd u_od b_ws b_hw z41 b_se b_re z42 z43 z44 z45 z46 z47 z48 z49 b_pt z50 z51 b_ip u_ic b_ah b_be b_me u_wd b_tr b_ld u_st b_wn u_id)), (b_ro, (arI G 5740 v_ro)), (b_se, (arJ G 13 z52)), (b_re, (arJ G 400 z53)), (b_pt, (arI G 200 z54))], rfl, ⟨z40, 0, z41, z42, z43, z44, z45, z46, z47, z48, z49, z50, z51, z52, z53, z54, i_32, i_33, i_34, i_35, i_36, i_37, i_38, i_39, rfl, rfl⟩, by rw [ht]; exact hP.sub [0, 1, 2, 3, 4] rfl, hD.sub [0, 1, 2, 3, 4] (by decide +kernel) rfl⟩, hS.F ht⟩) hS.2.2 dX12_first_95
                    ·
                      have i_59 : p_2.toInt = 1 := g5_neN (a := p_2.toInt) (b := 1) rfl (by decide +kernel) c_59
                      refine lv_iload hx hb dX12_first_88 (lv_at hl 1 rfl) ?_
                      refine lv_goto (tgt := 95) hx hb dX12_first_90 (by decide +kernel) ?_
                      exact W.iret (v := k38_4) hx hb hr (fun t ht hW => ⟨⟨k38_4, [(b_o, (oc12 0 u_sa b_rf b_ro b_im b_ke u_fd b_tp u_td u_fr u_to u_so u_wo u_fa u_bd u_nc b_nl u_co b_op b_ar u_le b_pi b_pa u_pd u_od b_ws b_hw z41 b_se b_re z42 z43 z44 z45 z46 z47 z48 z49 b_pt z50 z51 b_ip u_ic b_ah b_be b_me u_wd b_tr b_ld u_st b_wn u_id)), (b_ro, (arI G 5740 v_ro)), (b_se, (arJ G 13 z52)), (b_re, (arJ G 400 z53)), (b_pt, (arI G 200 z54))], rfl, ⟨k38_4, 0, z41, z42, z43, z44, z45, z46, z47, z48, z49, z50, z51, z52, z53, z54, i_32, i_33, i_34, i_35, i_36, i_37, i_38, i_39, rfl, rfl⟩, by rw [ht]; exact hP.sub [0, 1, 2, 3, 4] rfl, hD.sub [0, 1, 2, 3, 4] (by decide +kernel) rfl⟩, hS.F ht⟩) hS.2.2 dX12_first_95
                  ·
                    have i_58 : p_2.toInt = 0 := g5_neN (a := p_2.toInt) (b := 0) rfl (by decide +kernel) c_58
                    refine lv_iload_n hx hb dX12_first_79 rfl (lv_at hl 2 rfl) ?_
                    refine lv_goto (tgt := 95) hx hb dX12_first_80 (by decide +kernel) ?_
                    exact W.iret (v := k29_3) hx hb hr (fun t ht hW => ⟨⟨k29_3, [(b_o, (oc12 0 u_sa b_rf b_ro b_im b_ke u_fd b_tp u_td u_fr u_to u_so u_wo u_fa u_bd u_nc b_nl u_co b_op b_ar u_le b_pi b_pa u_pd u_od b_ws b_hw z41 b_se b_re z42 z43 z44 z45 z46 z47 z48 z49 b_pt z50 z51 b_ip u_ic b_ah b_be b_me u_wd b_tr b_ld u_st b_wn u_id)), (b_ro, (arI G 5740 v_ro)), (b_se, (arJ G 13 z52)), (b_re, (arJ G 400 z53)), (b_pt, (arI G 200 z54))], rfl, ⟨k29_3, 0, z41, z42, z43, z44, z45, z46, z47, z48, z49, z50, z51, z52, z53, z54, i_32, i_33, i_34, i_35, i_36, i_37, i_38, i_39, rfl, rfl⟩, by rw [ht]; exact hP.sub [0, 1, 2, 3, 4] rfl, hD.sub [0, 1, 2, 3, 4] (by decide +kernel) rfl⟩, hS.F ht⟩) hS.2.2 dX12_first_95
              ·
                have i_31 : k38_4.toInt = p_1.toInt := g5_neN (a := k38_4.toInt) (b := p_1.toInt) rfl rfl c_31
                refine lv_iconst (v := (-1)) hx hb dX12_first_55 (by decide +kernel) ?_
                refine lv_goto (tgt := 67) hx hb dX12_first_56 (by decide +kernel) ?_
                refine lv_istore (lv' := [(5, .int (-1)), (4, .int k38_4), (3, .int k29_3), (0, .ref b_o), (1, .int p_1), (2, .int p_2)]) hx hb dX12_first_67 hl (by decide +kernel) rfl ?_
                clear hl
                intro ls hl
                refine lv_iload hx hb dX12_first_69 (lv_at hl 0 rfl) ?_
                refine W.eq (g2 := F0 m 71 ls [.int (-1)]) rfl ?_
                refine lv_iconst (v := (-1)) hx hb dX12_first_71 (by decide +kernel) ?_
                refine lv_icmp_eq (tgt := 96) hx hb dX12_first_72 (by decide +kernel) (fun c_60 => ?_) (fun c_60 => ?_)
                ·
                  refine lv_iinc (v := (k38_4 + 1)) (lv' := [(4, .int (k38_4 + 1)), (5, .int (-1)), (3, .int k29_3), (0, .ref b_o), (1, .int p_1), (2, .int p_2)]) hx hb dX12_first_96 hl (k := 1) rfl rfl (by decide +kernel) rfl ?_
                  clear hl
                  intro ls hl
                  have t_61 : (k38_4 + 1).toInt = k38_4.toInt + 1 := g5_iadd (a := k38_4.toInt) (b := 1) rfl (by decide +kernel) (by omega) (by omega)
                  refine lv_goto (tgt := 38) hx hb dX12_first_99 (by decide +kernel) ?_
                  exact ih_38_27 ((k38_4 + 1), k38_la, k38_bk, k38_va, k38_su, k38_ce, k38_ho, k38_wy, k38_bt, k38_ps, k38_tg, k38_sn, k38_se, k38_re, k38_pt) ls H locs (show Int.toNat (5 - (k38_4 + 1).toInt) < Int.toNat (5 - k38_4.toInt) from g_up (show k38_4.toInt < (k38_4 + 1).toInt by omega) (show k38_4.toInt < 5 by omega)) ⟨lv_sub hl [0, 2, 3, 4, 5] rfl, hP, hD, hS, ⟨by omega, by omega⟩, i_19, i_20, i_21, i_22, i_23, i_24, i_25, i_26⟩
                ·
                  exact absurd c_60 (by decide +kernel)
        ·
          exact absurd c_6 (by decide +kernel)
  ·
    have hJ9 := va_join (wr := [(b_se, (arJ G 13 v_se)), (b_re, (arJ G 400 v_re)), (b_pt, (arI G 200 v_pt))]) hP hD [0, 1] [2, 3, 4] rfl rfl (by decide +kernel) (by decide +kernel) hk1 hFc hP1 hD1
    clear hP hD hPc hDc hFc ht hvm hz1 hk1 hP1 hD1
    obtain ⟨hP, hD⟩ := hJ9
    refine g5_rs [(b_se, (arJ G 13 v_se)), (b_re, (arJ G 400 v_re)), (b_pt, (arI G 200 v_pt)), (b_o, (oc12 0 u_sa b_rf b_ro b_im b_ke u_fd b_tp u_td u_fr u_to u_so u_wo u_fa u_bd u_nc b_nl u_co b_op b_ar u_le b_pi b_pa u_pd u_od b_ws b_hw u_la b_se b_re u_bk u_va u_su u_ce u_ho u_wy u_bt u_ps b_pt u_tg u_sn b_ip u_ic b_ah b_be b_me u_wd b_tr b_ld u_st b_wn u_id)), (b_ro, (arI G 5740 v_ro))] hP hD ?_
    clear hP hD
    intro hP hD
    refine lv_if_eq (tgt := 25) hx hb dX12_first_10 (by decide +kernel) (fun c_62 => ?_) (fun c_62 => ?_)
    ·
      refine lv_iconst (v := (-1)) hx hb dX12_first_25 (by decide +kernel) ?_
      exact W.iret (v := (-1)) hx hb hr (fun t ht hW => ⟨⟨(-1), [(b_o, (oc12 0 u_sa b_rf b_ro b_im b_ke u_fd b_tp u_td u_fr u_to u_so u_wo u_fa u_bd u_nc b_nl u_co b_op b_ar u_le b_pi b_pa u_pd u_od b_ws b_hw u_la b_se b_re u_bk u_va u_su u_ce u_ho u_wy u_bt u_ps b_pt u_tg u_sn b_ip u_ic b_ah b_be b_me u_wd b_tr b_ld u_st b_wn u_id)), (b_ro, (arI G 5740 v_ro)), (b_se, (arJ G 13 v_se)), (b_re, (arJ G 400 v_re)), (b_pt, (arI G 200 v_pt))], rfl, ⟨(-1), 0, u_la, u_bk, u_va, u_su, u_ce, u_ho, u_wy, u_bt, u_ps, u_tg, u_sn, v_se, v_re, v_pt, h_u_la, h_u_bk, h_u_ce, h_u_ho, h_u_wy, h_u_bt, h_u_ps, r_pt, rfl, rfl⟩, by rw [ht]; exact hP.sub [3, 4, 0, 1, 2] rfl, hD.sub [3, 4, 0, 1, 2] (by decide +kernel) rfl⟩, hS.F ht⟩) hS.2.2 dX12_first_26
    ·
      exact absurd c_62 (by decide +kernel)
theorem dgX12_mark_0 : ∀ r ∈ ([(0, (.iconst 0, 1)), (1, (.istore_n 3, 1)), (2, (.iload_n 3, 1)), (3, (.iconst 4, 1)), (4, (.if_icmp .ge 48, 3)), (7, (.aload_n 0, 1)), (8, (.iload_n 1, 1)), (9, (.iload_n 3, 1)), (10, (.iload_n 2, 1)), (11, (.iconst 0, 1)), (12, (.invokevirtual 401, 3)), (15, (.iconst 0, 1)), (16, (.istore 4, 2)), (18, (.iload 4, 2)), (20, (.aload_n 0, 1)), (21, (.getfield 358, 3)), (24, (.if_icmp .ge 22, 3)), (27, (.aload_n 0, 1)), (28, (.getfield 85, 3)), (31, (.aload_n 0, 1)), (32, (.getfield 82, 3)), (35, (.iload 4, 2)), (37, (.iaload, 1)), (38, (.iconst 1, 1)), (39, (.bastore, 1)), (40, (.iinc 4 1, 3)), (43, (.goto (-25), 3)), (46, (.iinc 3 1, 3)), (49, (.goto (-47), 3)), (52, (.return_, 1))] : List (Nat × (Instr × Nat))), decode cX12_mark r.1 = .ok r.2 := by decide +kernel
theorem dX12_mark_0 : decode cX12_mark 0 = .ok (.iconst 0, 1) := dgX12_mark_0 (0, (.iconst 0, 1)) (List.mem_of_getElem? (i := 0) rfl)
theorem dX12_mark_1 : decode cX12_mark 1 = .ok (.istore_n 3, 1) := dgX12_mark_0 (1, (.istore_n 3, 1)) (List.mem_of_getElem? (i := 1) rfl)
theorem dX12_mark_2 : decode cX12_mark 2 = .ok (.iload_n 3, 1) := dgX12_mark_0 (2, (.iload_n 3, 1)) (List.mem_of_getElem? (i := 2) rfl)
theorem dX12_mark_3 : decode cX12_mark 3 = .ok (.iconst 4, 1) := dgX12_mark_0 (3, (.iconst 4, 1)) (List.mem_of_getElem? (i := 3) rfl)
theorem dX12_mark_4 : decode cX12_mark 4 = .ok (.if_icmp .ge 48, 3) := dgX12_mark_0 (4, (.if_icmp .ge 48, 3)) (List.mem_of_getElem? (i := 4) rfl)
theorem dX12_mark_7 : decode cX12_mark 7 = .ok (.aload_n 0, 1) := dgX12_mark_0 (7, (.aload_n 0, 1)) (List.mem_of_getElem? (i := 5) rfl)
theorem dX12_mark_8 : decode cX12_mark 8 = .ok (.iload_n 1, 1) := dgX12_mark_0 (8, (.iload_n 1, 1)) (List.mem_of_getElem? (i := 6) rfl)
theorem dX12_mark_9 : decode cX12_mark 9 = .ok (.iload_n 3, 1) := dgX12_mark_0 (9, (.iload_n 3, 1)) (List.mem_of_getElem? (i := 7) rfl)
theorem dX12_mark_10 : decode cX12_mark 10 = .ok (.iload_n 2, 1) := dgX12_mark_0 (10, (.iload_n 2, 1)) (List.mem_of_getElem? (i := 8) rfl)
theorem dX12_mark_11 : decode cX12_mark 11 = .ok (.iconst 0, 1) := dgX12_mark_0 (11, (.iconst 0, 1)) (List.mem_of_getElem? (i := 9) rfl)
theorem dX12_mark_12 : decode cX12_mark 12 = .ok (.invokevirtual 401, 3) := dgX12_mark_0 (12, (.invokevirtual 401, 3)) (List.mem_of_getElem? (i := 10) rfl)
theorem dX12_mark_15 : decode cX12_mark 15 = .ok (.iconst 0, 1) := dgX12_mark_0 (15, (.iconst 0, 1)) (List.mem_of_getElem? (i := 11) rfl)
theorem dX12_mark_16 : decode cX12_mark 16 = .ok (.istore 4, 2) := dgX12_mark_0 (16, (.istore 4, 2)) (List.mem_of_getElem? (i := 12) rfl)
theorem dX12_mark_18 : decode cX12_mark 18 = .ok (.iload 4, 2) := dgX12_mark_0 (18, (.iload 4, 2)) (List.mem_of_getElem? (i := 13) rfl)
theorem dX12_mark_20 : decode cX12_mark 20 = .ok (.aload_n 0, 1) := dgX12_mark_0 (20, (.aload_n 0, 1)) (List.mem_of_getElem? (i := 14) rfl)
theorem dX12_mark_21 : decode cX12_mark 21 = .ok (.getfield 358, 3) := dgX12_mark_0 (21, (.getfield 358, 3)) (List.mem_of_getElem? (i := 15) rfl)
theorem dX12_mark_24 : decode cX12_mark 24 = .ok (.if_icmp .ge 22, 3) := dgX12_mark_0 (24, (.if_icmp .ge 22, 3)) (List.mem_of_getElem? (i := 16) rfl)
theorem dX12_mark_27 : decode cX12_mark 27 = .ok (.aload_n 0, 1) := dgX12_mark_0 (27, (.aload_n 0, 1)) (List.mem_of_getElem? (i := 17) rfl)
theorem dX12_mark_28 : decode cX12_mark 28 = .ok (.getfield 85, 3) := dgX12_mark_0 (28, (.getfield 85, 3)) (List.mem_of_getElem? (i := 18) rfl)
theorem dX12_mark_31 : decode cX12_mark 31 = .ok (.aload_n 0, 1) := dgX12_mark_0 (31, (.aload_n 0, 1)) (List.mem_of_getElem? (i := 19) rfl)
theorem dX12_mark_32 : decode cX12_mark 32 = .ok (.getfield 82, 3) := dgX12_mark_0 (32, (.getfield 82, 3)) (List.mem_of_getElem? (i := 20) rfl)
theorem dX12_mark_35 : decode cX12_mark 35 = .ok (.iload 4, 2) := dgX12_mark_0 (35, (.iload 4, 2)) (List.mem_of_getElem? (i := 21) rfl)
theorem dX12_mark_37 : decode cX12_mark 37 = .ok (.iaload, 1) := dgX12_mark_0 (37, (.iaload, 1)) (List.mem_of_getElem? (i := 22) rfl)
theorem dX12_mark_38 : decode cX12_mark 38 = .ok (.iconst 1, 1) := dgX12_mark_0 (38, (.iconst 1, 1)) (List.mem_of_getElem? (i := 23) rfl)
theorem dX12_mark_39 : decode cX12_mark 39 = .ok (.bastore, 1) := dgX12_mark_0 (39, (.bastore, 1)) (List.mem_of_getElem? (i := 24) rfl)
theorem dX12_mark_40 : decode cX12_mark 40 = .ok (.iinc 4 1, 3) := dgX12_mark_0 (40, (.iinc 4 1, 3)) (List.mem_of_getElem? (i := 25) rfl)
theorem dX12_mark_43 : decode cX12_mark 43 = .ok (.goto (-25), 3) := dgX12_mark_0 (43, (.goto (-25), 3)) (List.mem_of_getElem? (i := 26) rfl)
theorem dX12_mark_46 : decode cX12_mark 46 = .ok (.iinc 3 1, 3) := dgX12_mark_0 (46, (.iinc 3 1, 3)) (List.mem_of_getElem? (i := 27) rfl)
theorem dX12_mark_49 : decode cX12_mark 49 = .ok (.goto (-47), 3) := dgX12_mark_0 (49, (.goto (-47), 3)) (List.mem_of_getElem? (i := 28) rfl)
theorem dX12_mark_52 : decode cX12_mark 52 = .ok (.return_, 1) := dgX12_mark_0 (52, (.return_, 1)) (List.mem_of_getElem? (i := 29) rfl)
theorem fl_X12_85 : Cond.fieldLink RX12 85 "LateGlassModel" "isPoint" "[Z" ∈ tblG := tg 1244 (by decide +kernel) (by decide +kernel)
set_option maxHeartbeats 4000000 in
set_option maxRecDepth 100000 in
theorem n_mark (l : Launch) (G : g5_G) (b_o b_ro b_se b_re b_pt b_ip b_rf b_im b_ke b_tp b_nl b_op b_ar b_pi b_pa b_ws b_hw b_ah b_be b_me b_tr b_ld b_wn : Nat) (sz : Nat) (u_th : Int32) (u_sa : Int32) (u_fd : Int32) (u_td : Int32) (u_fr : Int32) (u_to : Int32) (u_so : Int32) (u_fa : Int32) (u_bd : Int32) (u_nc : Int32) (u_co : Int32) (u_le : Int32) (u_pd : Int32) (u_od : Int32) (u_la : Int32) (u_bk : Int32) (u_ce : Int32) (u_ho : Int32) (u_wy : Int32) (u_bt : Int32) (u_ps : Int32) (u_tg : Int32) (u_sn : Int32) (u_ic : Int32) (u_wd : Int32) (u_id : Int32) (p_1 : Int32) (p_2 : Int32) (u_wo : Int64) (u_va : Int64) (u_su : Int64) (u_st : Int64) (v_ro : Nat → Int32) (v_se : Nat → Int64) (v_re : Nat → Int64) (v_pt : Nat → Int32) (v_ip : Nat → Int32) (h_u_td : 0 ≤ u_td.toInt ∧ u_td.toInt ≤ 400) (h_u_fr : 0 ≤ u_fr.toInt ∧ u_fr.toInt ≤ 400) (h_u_to : 0 ≤ u_to.toInt ∧ u_to.toInt ≤ 400) (h_u_bd : 0 ≤ u_bd.toInt ∧ u_bd.toInt ≤ 1) (h_u_nc : 0 ≤ u_nc.toInt ∧ u_nc.toInt ≤ 12) (h_u_co : 0 ≤ u_co.toInt ∧ u_co.toInt ≤ 400) (h_u_pd : 0 ≤ u_pd.toInt ∧ u_pd.toInt ≤ 400) (h_u_la : 0 ≤ u_la.toInt ∧ u_la.toInt ≤ 4840) (h_u_bk : 0 ≤ u_bk.toInt ∧ u_bk.toInt ≤ 1) (h_u_ce : 0 ≤ u_ce.toInt ∧ u_ce.toInt ≤ 63) (h_u_ho : 0 ≤ u_ho.toInt ∧ u_ho.toInt ≤ 23) (h_u_wy : 0 ≤ u_wy.toInt ∧ u_wy.toInt ≤ 3) (h_u_bt : 0 ≤ u_bt.toInt ∧ u_bt.toInt ≤ 1000000) (h_u_ps : 0 ≤ u_ps.toInt ∧ u_ps.toInt ≤ 200) (h_u_ic : 0 ≤ u_ic.toInt ∧ u_ic.toInt ≤ 1) (h_u_id : 0 ≤ u_id.toInt ∧ u_id.toInt ≤ 1) (h_p_1 : 0 ≤ p_1.toInt ∧ p_1.toInt ≤ 63) (h_p_2 : 0 ≤ p_2.toInt ∧ p_2.toInt ≤ 23) (r_ro : MI v_ro) (r_pt : PTI v_pt) : Met l yX12_mark (wsG yX12_mark cX12_mark 5 none) ({ frames := 7, cells := 0, slots := 0, locals := 176 }) (va_Pc [.ref b_o, .int p_1, .int p_2] (g5_P G [(b_o, (oc12 u_th u_sa b_rf b_ro b_im b_ke u_fd b_tp u_td u_fr u_to u_so u_wo u_fa u_bd u_nc b_nl u_co b_op b_ar u_le b_pi b_pa u_pd u_od b_ws b_hw u_la b_se b_re u_bk u_va u_su u_ce u_ho u_wy u_bt u_ps b_pt u_tg u_sn b_ip u_ic b_ah b_be b_me u_wd b_tr b_ld u_st b_wn u_id)), (b_ro, (arI G 5740 v_ro)), (b_se, (arJ G 13 v_se)), (b_re, (arJ G 400 v_re)), (b_pt, (arI G 200 v_pt)), (b_ip, (arZ G 1536 v_ip))] sz)) (va_Qv (fun (u : va_W) => (∃ (o_la : Int32) (o_bk : Int32) (o_va : Int64) (o_su : Int64) (o_ce : Int32) (o_ho : Int32) (o_wy : Int32) (o_bt : Int32) (o_ps : Int32) (o_tg : Int32) (o_sn : Int32) (o_se : Nat → Int64) (o_re : Nat → Int64) (o_pt : Nat → Int32) (o_ip : Nat → Int32), (0 ≤ o_la.toInt ∧ o_la.toInt ≤ 4840) ∧ (0 ≤ o_bk.toInt ∧ o_bk.toInt ≤ 1) ∧ (0 ≤ o_ce.toInt ∧ o_ce.toInt ≤ 63) ∧ (0 ≤ o_ho.toInt ∧ o_ho.toInt ≤ 23) ∧ (0 ≤ o_wy.toInt ∧ o_wy.toInt ≤ 3) ∧ (0 ≤ o_bt.toInt ∧ o_bt.toInt ≤ 1000000) ∧ (0 ≤ o_ps.toInt ∧ o_ps.toInt ≤ 200) ∧ (PTI o_pt) ∧ (u = [(b_o, (oc12 u_th u_sa b_rf b_ro b_im b_ke u_fd b_tp u_td u_fr u_to u_so u_wo u_fa u_bd u_nc b_nl u_co b_op b_ar u_le b_pi b_pa u_pd u_od b_ws b_hw o_la b_se b_re o_bk o_va o_su o_ce o_ho o_wy o_bt o_ps b_pt o_tg o_sn b_ip u_ic b_ah b_be b_me u_wd b_tr b_ld u_st b_wn u_id)), (b_ro, (arI G 5740 v_ro)), (b_se, (arJ G 13 o_se)), (b_re, (arJ G 400 o_re)), (b_pt, (arI G 200 o_pt)), (b_ip, (arZ G 1536 o_ip))]))) (g5_B G (va_A [(b_o, (oc12 u_th u_sa b_rf b_ro b_im b_ke u_fd b_tp u_td u_fr u_to u_so u_wo u_fa u_bd u_nc b_nl u_co b_op b_ar u_le b_pi b_pa u_pd u_od b_ws b_hw u_la b_se b_re u_bk u_va u_su u_ce u_ho u_wy u_bt u_ps b_pt u_tg u_sn b_ip u_ic b_ah b_be b_me u_wd b_tr b_ld u_st b_wn u_id)), (b_ro, (arI G 5740 v_ro)), (b_se, (arJ G 13 v_se)), (b_re, (arJ G 400 v_re)), (b_pt, (arI G 200 v_pt)), (b_ip, (arZ G 1536 v_ip))] sz)) (va_A [(b_o, (oc12 u_th u_sa b_rf b_ro b_im b_ke u_fd b_tp u_td u_fr u_to u_so u_wo u_fa u_bd u_nc b_nl u_co b_op b_ar u_le b_pi b_pa u_pd u_od b_ws b_hw u_la b_se b_re u_bk u_va u_su u_ce u_ho u_wy u_bt u_ps b_pt u_tg u_sn b_ip u_ic b_ah b_be b_me u_wd b_tr b_ld u_st b_wn u_id)), (b_ro, (arI G 5740 v_ro)), (b_se, (arJ G 13 v_se)), (b_re, (arJ G 400 v_re)), (b_pt, (arI G 200 v_pt)), (b_ip, (arZ G 1536 v_ip))] sz)) 0 0 (va_A [(b_o, (oc12 u_th u_sa b_rf b_ro b_im b_ke u_fd b_tp u_td u_fr u_to u_so u_wo u_fa u_bd u_nc b_nl u_co b_op b_ar u_le b_pi b_pa u_pd u_od b_ws b_hw u_la b_se b_re u_bk u_va u_su u_ce u_ho u_wy u_bt u_ps b_pt u_tg u_sn b_ip u_ic b_ah b_be b_me u_wd b_tr b_ld u_st b_wn u_id)), (b_ro, (arI G 5740 v_ro)), (b_se, (arJ G 13 v_se)), (b_re, (arJ G 400 v_re)), (b_pt, (arI G 200 v_pt)), (b_ip, (arZ G 1536 v_ip))] sz) := by
  refine Met.ofW (cc := cX12_mark) (maxL := 5) (ret := none) (by decide +kernel) rfl ?_
  intro p e s m args below meth c s₁ B hml hv
  obtain ⟨rfl, hsz, hP, hK, hD0, hN, hT⟩ := hv
  have hx := B.exec
  have hb := B.bytes
  have hr := B.returns
  have hts : ∀ w ∈ tblG, w.before _ s = true := fun w h => atoms_spec (ws := (wsG yX12_mark cX12_mark 5 none)) B.pre w (List.mem_cons_of_mem _ h)
  have hown : s.vm.findClass RX12 = some m.cls := findClass_of_methodNamed B.named
  have hlocks := B.notSynchronized
  subst hsz
  have hD := hD0.self (sz := s.heap.size)
  generalize hAe : va_A [(b_o, (oc12 u_th u_sa b_rf b_ro b_im b_ke u_fd b_tp u_td u_fr u_to u_so u_wo u_fa u_bd u_nc b_nl u_co b_op b_ar u_le b_pi b_pa u_pd u_od b_ws b_hw u_la b_se b_re u_bk u_va u_su u_ce u_ho u_wy u_bt u_ps b_pt u_tg u_sn b_ip u_ic b_ah b_be b_me u_wd b_tr b_ld u_st b_wn u_id)), (b_ro, (arI G 5740 v_ro)), (b_se, (arJ G 13 v_se)), (b_re, (arJ G 400 v_re)), (b_pt, (arI G 200 v_pt)), (b_ip, (arZ G 1536 v_ip))] s.heap.size = A at hD hT ⊢
  have hA : ∀ q : Nat, s.heap.size ≤ q → A q := fun q h => by rw [← hAe]; exact Or.inr h
  have hS : va_S A s.heap s.heap [] := va_S.rf
  replace hP : va_P G.1 vwCl [(b_o, (oc12 u_th u_sa b_rf b_ro b_im b_ke u_fd b_tp u_td u_fr u_to u_so u_wo u_fa u_bd u_nc b_nl u_co b_op b_ar u_le b_pi b_pa u_pd u_od b_ws b_hw u_la b_se b_re u_bk u_va u_su u_ce u_ho u_wy u_bt u_ps b_pt u_tg u_sn b_ip u_ic b_ah b_be b_me u_wd b_tr b_ld u_st b_wn u_id)), (b_ro, (arI G 5740 v_ro)), (b_se, (arJ G 13 v_se)), (b_re, (arJ G 400 v_re)), (b_pt, (arI G 200 v_pt)), (b_ip, (arZ G 1536 v_ip))] s.heap := hP
  have hl := lv_entry ([.ref b_o, .int p_1, .int p_2]) (n := 5) (Nat.le_of_ble_eq_true rfl)
  rw [lg_entry_eq]
  generalize (lg_sl ([.ref b_o, .int p_1, .int p_2]) ++ List.replicate (5 - (lg_sl ([.ref b_o, .int p_1, .int p_2])).length) Slot.unset).toArray = ls at hl ⊢
  replace hl : lv_has ls 5 [(0, .ref b_o), (1, .int p_1), (2, .int p_2)] := hl
  refine lv_iconst (v := 0) hx hb dX12_mark_0 (by decide +kernel) ?_
  refine lv_istore_n (lv' := [(3, .int 0), (0, .ref b_o), (1, .int p_1), (2, .int p_2)]) hx hb dX12_mark_1 rfl hl (by decide +kernel) rfl ?_
  clear hl
  intro ls hl
  refine g5_loop (α := (Int32) × (Int32) × (Int32) × (Int64) × (Int64) × (Int32) × (Int32) × (Int32) × (Int32) × (Int32) × (Int32) × (Int32) × (Nat → Int64) × (Nat → Int64) × (Nat → Int32) × (Nat → Int32)) (fun (q : (Int32) × (Int32) × (Int32) × (Int64) × (Int64) × (Int32) × (Int32) × (Int32) × (Int32) × (Int32) × (Int32) × (Int32) × (Nat → Int64) × (Nat → Int64) × (Nat → Int32) × (Nat → Int32)) (ls : Array Slot) (H : Heap) (locs : List Loc) => match q with | (k2_3, k2_la, k2_bk, k2_va, k2_su, k2_ce, k2_ho, k2_wy, k2_bt, k2_ps, k2_tg, k2_sn, k2_se, k2_re, k2_pt, k2_ip) => lv_has ls 5 [(3, .int k2_3), (0, .ref b_o), (1, .int p_1), (2, .int p_2)] ∧ va_P G.1 vwCl [(b_o, (oc12 u_th u_sa b_rf b_ro b_im b_ke u_fd b_tp u_td u_fr u_to u_so u_wo u_fa u_bd u_nc b_nl u_co b_op b_ar u_le b_pi b_pa u_pd u_od b_ws b_hw k2_la b_se b_re k2_bk k2_va k2_su k2_ce k2_ho k2_wy k2_bt k2_ps b_pt k2_tg k2_sn b_ip u_ic b_ah b_be b_me u_wd b_tr b_ld u_st b_wn u_id)), (b_ro, (arI G 5740 v_ro)), (b_se, (arJ G 13 k2_se)), (b_re, (arJ G 400 k2_re)), (b_pt, (arI G 200 k2_pt)), (b_ip, (arZ G 1536 k2_ip))] H ∧ va_D A [(b_o, (oc12 u_th u_sa b_rf b_ro b_im b_ke u_fd b_tp u_td u_fr u_to u_so u_wo u_fa u_bd u_nc b_nl u_co b_op b_ar u_le b_pi b_pa u_pd u_od b_ws b_hw k2_la b_se b_re k2_bk k2_va k2_su k2_ce k2_ho k2_wy k2_bt k2_ps b_pt k2_tg k2_sn b_ip u_ic b_ah b_be b_me u_wd b_tr b_ld u_st b_wn u_id)), (b_ro, (arI G 5740 v_ro)), (b_se, (arJ G 13 k2_se)), (b_re, (arJ G 400 k2_re)), (b_pt, (arI G 200 k2_pt)), (b_ip, (arZ G 1536 k2_ip))] ∧ va_S A s.heap H locs ∧ (0 ≤ k2_3.toInt ∧ k2_3.toInt ≤ 4) ∧ (0 ≤ k2_la.toInt ∧ k2_la.toInt ≤ 4840) ∧ (0 ≤ k2_bk.toInt ∧ k2_bk.toInt ≤ 1) ∧ (0 ≤ k2_ce.toInt ∧ k2_ce.toInt ≤ 63) ∧ (0 ≤ k2_ho.toInt ∧ k2_ho.toInt ≤ 23) ∧ (0 ≤ k2_wy.toInt ∧ k2_wy.toInt ≤ 3) ∧ (0 ≤ k2_bt.toInt ∧ k2_bt.toInt ≤ 1000000) ∧ (0 ≤ k2_ps.toInt ∧ k2_ps.toInt ≤ 200) ∧ (PTI k2_pt)) (fun (q : (Int32) × (Int32) × (Int32) × (Int64) × (Int64) × (Int32) × (Int32) × (Int32) × (Int32) × (Int32) × (Int32) × (Int32) × (Nat → Int64) × (Nat → Int64) × (Nat → Int32) × (Nat → Int32)) => match q with | (k2_3, k2_la, k2_bk, k2_va, k2_su, k2_ce, k2_ho, k2_wy, k2_bt, k2_ps, k2_tg, k2_sn, k2_se, k2_re, k2_pt, k2_ip) => Int.toNat (4 - k2_3.toInt)) (0, u_la, u_bk, u_va, u_su, u_ce, u_ho, u_wy, u_bt, u_ps, u_tg, u_sn, v_se, v_re, v_pt, v_ip) ⟨lv_sub hl [0, 1, 2, 3] rfl, hP, hD, hS, ⟨by decide, by decide⟩, h_u_la, h_u_bk, h_u_ce, h_u_ho, h_u_wy, h_u_bt, h_u_ps, r_pt⟩ ?_
  rintro ⟨k2_3, k2_la, k2_bk, k2_va, k2_su, k2_ce, k2_ho, k2_wy, k2_bt, k2_ps, k2_tg, k2_sn, k2_se, k2_re, k2_pt, k2_ip⟩ ls H locs ⟨hl, hP, hD, hS, (i_1 : 0 ≤ k2_3.toInt ∧ k2_3.toInt ≤ 4), (i_2 : 0 ≤ k2_la.toInt ∧ k2_la.toInt ≤ 4840), (i_3 : 0 ≤ k2_bk.toInt ∧ k2_bk.toInt ≤ 1), (i_4 : 0 ≤ k2_ce.toInt ∧ k2_ce.toInt ≤ 63), (i_5 : 0 ≤ k2_ho.toInt ∧ k2_ho.toInt ≤ 23), (i_6 : 0 ≤ k2_wy.toInt ∧ k2_wy.toInt ≤ 3), (i_7 : 0 ≤ k2_bt.toInt ∧ k2_bt.toInt ≤ 1000000), (i_8 : 0 ≤ k2_ps.toInt ∧ k2_ps.toInt ≤ 200), (i_9 : PTI k2_pt)⟩ ih_2_10
  replace hl : lv_has ls 5 [(3, .int k2_3), (0, .ref b_o), (1, .int p_1), (2, .int p_2)] := hl
  refine g5_rs [(b_o, (oc12 u_th u_sa b_rf b_ro b_im b_ke u_fd b_tp u_td u_fr u_to u_so u_wo u_fa u_bd u_nc b_nl u_co b_op b_ar u_le b_pi b_pa u_pd u_od b_ws b_hw k2_la b_se b_re k2_bk k2_va k2_su k2_ce k2_ho k2_wy k2_bt k2_ps b_pt k2_tg k2_sn b_ip u_ic b_ah b_be b_me u_wd b_tr b_ld u_st b_wn u_id)), (b_ro, (arI G 5740 v_ro)), (b_se, (arJ G 13 k2_se)), (b_re, (arJ G 400 k2_re)), (b_pt, (arI G 200 k2_pt)), (b_ip, (arZ G 1536 k2_ip))] hP hD ?_
  clear hP hD
  intro hP hD
  refine lv_iload_n hx hb dX12_mark_2 rfl (lv_at hl 0 rfl) ?_
  refine lv_iconst (v := 4) hx hb dX12_mark_3 (by decide +kernel) ?_
  refine lv_icmp_ge (tgt := 52) hx hb dX12_mark_4 (by decide +kernel) (fun c_11 => ?_) (fun c_11 => ?_)
  ·
    have i_11 : k2_3.toInt ≥ 4 := g5_ge (a := k2_3.toInt) (b := 4) rfl (by decide +kernel) c_11
    exact W.vret hx hb hr (fun t ht hW => ⟨⟨[(b_o, (oc12 u_th u_sa b_rf b_ro b_im b_ke u_fd b_tp u_td u_fr u_to u_so u_wo u_fa u_bd u_nc b_nl u_co b_op b_ar u_le b_pi b_pa u_pd u_od b_ws b_hw k2_la b_se b_re k2_bk k2_va k2_su k2_ce k2_ho k2_wy k2_bt k2_ps b_pt k2_tg k2_sn b_ip u_ic b_ah b_be b_me u_wd b_tr b_ld u_st b_wn u_id)), (b_ro, (arI G 5740 v_ro)), (b_se, (arJ G 13 k2_se)), (b_re, (arJ G 400 k2_re)), (b_pt, (arI G 200 k2_pt)), (b_ip, (arZ G 1536 k2_ip))], rfl, ⟨k2_la, k2_bk, k2_va, k2_su, k2_ce, k2_ho, k2_wy, k2_bt, k2_ps, k2_tg, k2_sn, k2_se, k2_re, k2_pt, k2_ip, i_2, i_3, i_4, i_5, i_6, i_7, i_8, i_9, rfl⟩, by rw [ht]; exact hP.sub [0, 1, 2, 3, 4, 5] rfl, hD.sub [0, 1, 2, 3, 4, 5] (by decide +kernel) rfl⟩, hS.F ht⟩) hS.2.2 dX12_mark_52
  ·
    have i_11 : k2_3.toInt < 4 := g5_geN (a := k2_3.toInt) (b := 4) rfl (by decide +kernel) c_11
    refine lv_aload_n hx hb dX12_mark_7 rfl (lv_at hl 1 rfl) ?_
    refine lv_iload_n hx hb dX12_mark_8 rfl (lv_at hl 2 rfl) ?_
    refine lv_iload_n hx hb dX12_mark_9 rfl (lv_at hl 0 rfl) ?_
    refine lv_iload_n hx hb dX12_mark_10 rfl (lv_at hl 3 rfl) ?_
    refine W.eq (g2 := F0 m 11 ls [.int p_2, .int k2_3, .int p_1, .ref b_o]) rfl ?_
    refine lv_iconst (v := 0) hx hb dX12_mark_11 (by decide +kernel) ?_
    obtain ⟨hPc, hDc, hFc⟩ := g5_sub3 (wc := [(b_o, (oc12 u_th u_sa b_rf b_ro b_im b_ke u_fd b_tp u_td u_fr u_to u_so u_wo u_fa u_bd u_nc b_nl u_co b_op b_ar u_le b_pi b_pa u_pd u_od b_ws b_hw k2_la b_se b_re k2_bk k2_va k2_su k2_ce k2_ho k2_wy k2_bt k2_ps b_pt k2_tg k2_sn b_ip u_ic b_ah b_be b_me u_wd b_tr b_ld u_st b_wn u_id)), (b_ro, (arI G 5740 v_ro)), (b_se, (arJ G 13 k2_se)), (b_re, (arJ G 400 k2_re)), (b_pt, (arI G 200 k2_pt))]) hP hD hS hA [0, 1, 2, 3, 4] (by decide +kernel) rfl
    refine va_callv (va_runV (As := [.int p_1, .int k2_3, .int p_2, .int 0]) (rest := []) ⟨hx, hb, hml, hown, hts⟩ (n_go l G b_o b_ro b_se b_re b_pt b_rf b_im b_ke b_tp b_nl b_op b_ar b_pi b_pa b_ws b_hw b_ip b_ah b_be b_me b_tr b_ld b_wn H.size u_th u_sa u_fd u_td u_fr u_to u_so u_fa u_bd u_nc u_co u_le u_pd u_od k2_la k2_bk k2_ce k2_ho k2_wy k2_bt k2_ps k2_tg k2_sn u_ic u_wd u_id p_1 k2_3 p_2 0 u_wo k2_va k2_su u_st v_ro k2_se k2_re k2_pt h_u_td h_u_fr h_u_to h_u_bd h_u_nc h_u_co h_u_pd i_2 i_3 i_4 i_5 i_6 i_7 i_8 h_u_ic h_u_id h_p_1 ⟨by omega, by omega⟩ h_p_2 (r_ro) (i_9)) (cwV 4 hts gV_X12_401 rfl rfl rfl hv_X12_go ⟨Nat.le_of_ble_eq_true rfl, Nat.le_of_ble_eq_true rfl⟩) (g5_preV hPc hK hDc hN hT hS hFc (ci := 12) (q0 := 0) rfl rfl) rfl rfl hl.1 rfl (lv_room (Nat.le_of_ble_eq_true rfl)) dX12_mark_12 ⟨Nat.le_of_ble_eq_true rfl, Nat.le_of_ble_eq_true rfl⟩) hS (fun q _ h => hFc q h) hFc (fun u t H locs ht hvm hw hB hz1 hk1 hS => ?_)
    obtain ⟨hP1, hD1⟩ := hB
    have hP1 := g5_ht ht hP1
    obtain ⟨z20, z21, z22, z23, z24, z25, z26, z27, z28, z29, z30, z31, z32, z33, (i_12 : 0 ≤ z20.toInt ∧ z20.toInt ≤ 4840), (i_13 : 0 ≤ z21.toInt ∧ z21.toInt ≤ 1), (i_14 : 0 ≤ z24.toInt ∧ z24.toInt ≤ 63), (i_15 : 0 ≤ z25.toInt ∧ z25.toInt ≤ 23), (i_16 : 0 ≤ z26.toInt ∧ z26.toInt ≤ 3), (i_17 : 0 ≤ z27.toInt ∧ z27.toInt ≤ 1000000), (i_18 : 0 ≤ z28.toInt ∧ z28.toInt ≤ 200), (i_19 : PTI z33), rfl⟩ := hw
    have hJ9 := va_join (wr := [(b_ip, (arZ G 1536 k2_ip))]) hP hD [0, 1, 2, 3, 4] [5] rfl rfl (by decide +kernel) (by decide +kernel) hk1 hFc hP1 hD1
    clear hP hD hPc hDc hFc ht hvm hz1 hk1 hP1 hD1
    obtain ⟨hP, hD⟩ := hJ9
    refine g5_rs [(b_ip, (arZ G 1536 k2_ip)), (b_o, (oc12 u_th u_sa b_rf b_ro b_im b_ke u_fd b_tp u_td u_fr u_to u_so u_wo u_fa u_bd u_nc b_nl u_co b_op b_ar u_le b_pi b_pa u_pd u_od b_ws b_hw z20 b_se b_re z21 z22 z23 z24 z25 z26 z27 z28 b_pt z29 z30 b_ip u_ic b_ah b_be b_me u_wd b_tr b_ld u_st b_wn u_id)), (b_ro, (arI G 5740 v_ro)), (b_se, (arJ G 13 z31)), (b_re, (arJ G 400 z32)), (b_pt, (arI G 200 z33))] hP hD ?_
    clear hP hD
    intro hP hD
    refine lv_iconst (v := 0) hx hb dX12_mark_15 (by decide +kernel) ?_
    refine lv_istore (lv' := [(4, .int 0), (3, .int k2_3), (0, .ref b_o), (1, .int p_1), (2, .int p_2)]) hx hb dX12_mark_16 hl (by decide +kernel) rfl ?_
    clear hl
    intro ls hl
    refine g5_loop (α := (Int32) × (Nat → Int32)) (fun (q : (Int32) × (Nat → Int32)) (ls : Array Slot) (H : Heap) (locs : List Loc) => match q with | (k18_4, k18_ip) => lv_has ls 5 [(4, .int k18_4), (3, .int k2_3), (0, .ref b_o), (1, .int p_1), (2, .int p_2)] ∧ va_P G.1 vwCl [(b_ip, (arZ G 1536 k18_ip)), (b_o, (oc12 u_th u_sa b_rf b_ro b_im b_ke u_fd b_tp u_td u_fr u_to u_so u_wo u_fa u_bd u_nc b_nl u_co b_op b_ar u_le b_pi b_pa u_pd u_od b_ws b_hw z20 b_se b_re z21 z22 z23 z24 z25 z26 z27 z28 b_pt z29 z30 b_ip u_ic b_ah b_be b_me u_wd b_tr b_ld u_st b_wn u_id)), (b_ro, (arI G 5740 v_ro)), (b_se, (arJ G 13 z31)), (b_re, (arJ G 400 z32)), (b_pt, (arI G 200 z33))] H ∧ va_D A [(b_ip, (arZ G 1536 k18_ip)), (b_o, (oc12 u_th u_sa b_rf b_ro b_im b_ke u_fd b_tp u_td u_fr u_to u_so u_wo u_fa u_bd u_nc b_nl u_co b_op b_ar u_le b_pi b_pa u_pd u_od b_ws b_hw z20 b_se b_re z21 z22 z23 z24 z25 z26 z27 z28 b_pt z29 z30 b_ip u_ic b_ah b_be b_me u_wd b_tr b_ld u_st b_wn u_id)), (b_ro, (arI G 5740 v_ro)), (b_se, (arJ G 13 z31)), (b_re, (arJ G 400 z32)), (b_pt, (arI G 200 z33))] ∧ va_S A s.heap H locs ∧ (0 ≤ k18_4.toInt ∧ k18_4.toInt ≤ 200)) (fun (q : (Int32) × (Nat → Int32)) => match q with | (k18_4, k18_ip) => Int.toNat (200 - k18_4.toInt)) (0, k2_ip) ⟨lv_sub hl [0, 1, 2, 3, 4] rfl, hP, hD, hS, ⟨by decide, by decide⟩⟩ ?_
    rintro ⟨k18_4, k18_ip⟩ ls H locs ⟨hl, hP, hD, hS, (i_34 : 0 ≤ k18_4.toInt ∧ k18_4.toInt ≤ 200)⟩ ih_18_35
    replace hl : lv_has ls 5 [(4, .int k18_4), (3, .int k2_3), (0, .ref b_o), (1, .int p_1), (2, .int p_2)] := hl
    refine g5_rs [(b_ip, (arZ G 1536 k18_ip)), (b_o, (oc12 u_th u_sa b_rf b_ro b_im b_ke u_fd b_tp u_td u_fr u_to u_so u_wo u_fa u_bd u_nc b_nl u_co b_op b_ar u_le b_pi b_pa u_pd u_od b_ws b_hw z20 b_se b_re z21 z22 z23 z24 z25 z26 z27 z28 b_pt z29 z30 b_ip u_ic b_ah b_be b_me u_wd b_tr b_ld u_st b_wn u_id)), (b_ro, (arI G 5740 v_ro)), (b_se, (arJ G 13 z31)), (b_re, (arJ G 400 z32)), (b_pt, (arI G 200 z33))] hP hD ?_
    clear hP hD
    intro hP hD
    refine lv_iload hx hb dX12_mark_18 (lv_at hl 0 rfl) ?_
    refine lv_aload_n hx hb dX12_mark_20 rfl (lv_at hl 2 rfl) ?_
    refine va_get (D := G.1) (ci := 12) (v := .int z28) (C := RX12) (T := TX12) (N := 52) hx hb hts inG_X12 hown hK hP 1 rfl rfl 37 (by decide +kernel) (hts _ fl_X12_358) (fun _ h9 => h9) rfl dX12_mark_21 ?_
    refine lv_icmp_ge (tgt := 46) hx hb dX12_mark_24 (by decide +kernel) (fun c_36 => ?_) (fun c_36 => ?_)
    ·
      have i_36 : k18_4.toInt ≥ z28.toInt := g5_ge (a := k18_4.toInt) (b := z28.toInt) rfl rfl c_36
      refine lv_iinc (v := (k2_3 + 1)) (lv' := [(3, .int (k2_3 + 1)), (4, .int k18_4), (0, .ref b_o), (1, .int p_1), (2, .int p_2)]) hx hb dX12_mark_46 hl (k := 1) rfl rfl (by decide +kernel) rfl ?_
      clear hl
      intro ls hl
      have t_37 : (k2_3 + 1).toInt = k2_3.toInt + 1 := g5_iadd (a := k2_3.toInt) (b := 1) rfl (by decide +kernel) (by omega) (by omega)
      refine lv_goto (tgt := 2) hx hb dX12_mark_49 (by decide +kernel) ?_
      exact ih_2_10 ((k2_3 + 1), z20, z21, z22, z23, z24, z25, z26, z27, z28, z29, z30, z31, z32, z33, k18_ip) ls H locs (show Int.toNat (4 - (k2_3 + 1).toInt) < Int.toNat (4 - k2_3.toInt) from g_up (show k2_3.toInt < (k2_3 + 1).toInt by omega) (show k2_3.toInt < 4 by omega)) ⟨lv_sub hl [0, 2, 3, 4] rfl, hP.sub [1, 2, 3, 4, 5, 0] rfl, hD.sub [1, 2, 3, 4, 5, 0] (by decide +kernel) rfl, hS, ⟨by omega, by omega⟩, i_12, i_13, i_14, i_15, i_16, i_17, i_18, i_19⟩
    ·
      have i_36 : k18_4.toInt < z28.toInt := g5_geN (a := k18_4.toInt) (b := z28.toInt) rfl rfl c_36
      refine lv_aload_n hx hb dX12_mark_27 rfl (lv_at hl 2 rfl) ?_
      refine va_get (D := G.1) (ci := 12) (v := .ref b_ip) (C := RX12) (T := TX12) (N := 52) hx hb hts inG_X12 hown hK hP 1 rfl rfl 41 (by decide +kernel) (hts _ fl_X12_85) (fun _ h9 => h9) rfl dX12_mark_28 ?_
      refine lv_aload_n hx hb dX12_mark_31 rfl (lv_at hl 2 rfl) ?_
      refine va_get (D := G.1) (ci := 12) (v := .ref b_pt) (C := RX12) (T := TX12) (N := 52) hx hb hts inG_X12 hown hK hP 1 rfl rfl 38 (by decide +kernel) (hts _ fl_X12_82) (fun _ h9 => h9) rfl dX12_mark_32 ?_
      refine W.eq (g2 := F0 m 35 ls [.ref b_pt, .ref b_ip]) rfl ?_
      refine lv_iload hx hb dX12_mark_35 (lv_at hl 0 rfl) ?_
      refine va_iald hx hb hK hP 5 0 rfl rfl (i := k18_4) (vp_in_iff.mpr ⟨by omega, by omega⟩) dX12_mark_37 ?_
      have hr_38 : 0 ≤ (z33 k18_4.toNatClampNeg).toInt ∧ (z33 k18_4.toNatClampNeg).toInt ≤ 1535 := i_19 (k18_4.toNatClampNeg)
      refine lv_iconst (v := 1) hx hb dX12_mark_38 (by decide +kernel) ?_
      refine va_zast hx hb hK hP hD hS 0 2 rfl rfl (i := (z33 k18_4.toNatClampNeg)) (x := 1) (vp_in_iff.mpr ⟨by omega, by omega⟩) dX12_mark_39 ?_
      clear hP hD hS
      intro H locs hP hD hS
      refine g5_rs [(b_ip, (arZ G 1536 (upd k18_ip (z33 k18_4.toNatClampNeg).toNatClampNeg 1))), (b_o, (oc12 u_th u_sa b_rf b_ro b_im b_ke u_fd b_tp u_td u_fr u_to u_so u_wo u_fa u_bd u_nc b_nl u_co b_op b_ar u_le b_pi b_pa u_pd u_od b_ws b_hw z20 b_se b_re z21 z22 z23 z24 z25 z26 z27 z28 b_pt z29 z30 b_ip u_ic b_ah b_be b_me u_wd b_tr b_ld u_st b_wn u_id)), (b_ro, (arI G 5740 v_ro)), (b_se, (arJ G 13 z31)), (b_re, (arJ G 400 z32)), (b_pt, (arI G 200 z33))] hP hD ?_
      clear hP hD
      intro hP hD
      refine lv_iinc (v := (k18_4 + 1)) (lv' := [(4, .int (k18_4 + 1)), (3, .int k2_3), (0, .ref b_o), (1, .int p_1), (2, .int p_2)]) hx hb dX12_mark_40 hl (k := 0) rfl rfl (by decide +kernel) rfl ?_
      clear hl
      intro ls hl
      have t_39 : (k18_4 + 1).toInt = k18_4.toInt + 1 := g5_iadd (a := k18_4.toInt) (b := 1) rfl (by decide +kernel) (by omega) (by omega)
      refine W.eq (g2 := F0 m 43 ls []) rfl ?_
      refine lv_goto (tgt := 18) hx hb dX12_mark_43 (by decide +kernel) ?_
      exact ih_18_35 ((k18_4 + 1), (upd k18_ip (z33 k18_4.toNatClampNeg).toNatClampNeg 1)) ls H locs (show Int.toNat (200 - (k18_4 + 1).toInt) < Int.toNat (200 - k18_4.toInt) from g_up (show k18_4.toInt < (k18_4 + 1).toInt by omega) (show k18_4.toInt < 200 by omega)) ⟨lv_sub hl [0, 1, 2, 3, 4] rfl, hP, hD, hS, ⟨by omega, by omega⟩⟩
theorem dgX12_clearPoints_0 : ∀ r ∈ ([(0, (.iconst 0, 1)), (1, (.istore_n 1, 1)), (2, (.iload_n 1, 1)), (3, (.sipush 1536, 3)), (6, (.if_icmp .ge 16, 3)), (9, (.aload_n 0, 1)), (10, (.getfield 85, 3)), (13, (.iload_n 1, 1)), (14, (.iconst 0, 1)), (15, (.bastore, 1)), (16, (.iinc 1 1, 3)), (19, (.goto (-17), 3)), (22, (.return_, 1))] : List (Nat × (Instr × Nat))), decode cX12_clearPoints r.1 = .ok r.2 := by decide +kernel
theorem dX12_clearPoints_0 : decode cX12_clearPoints 0 = .ok (.iconst 0, 1) := dgX12_clearPoints_0 (0, (.iconst 0, 1)) (List.mem_of_getElem? (i := 0) rfl)
theorem dX12_clearPoints_1 : decode cX12_clearPoints 1 = .ok (.istore_n 1, 1) := dgX12_clearPoints_0 (1, (.istore_n 1, 1)) (List.mem_of_getElem? (i := 1) rfl)
theorem dX12_clearPoints_2 : decode cX12_clearPoints 2 = .ok (.iload_n 1, 1) := dgX12_clearPoints_0 (2, (.iload_n 1, 1)) (List.mem_of_getElem? (i := 2) rfl)
theorem dX12_clearPoints_3 : decode cX12_clearPoints 3 = .ok (.sipush 1536, 3) := dgX12_clearPoints_0 (3, (.sipush 1536, 3)) (List.mem_of_getElem? (i := 3) rfl)
theorem dX12_clearPoints_6 : decode cX12_clearPoints 6 = .ok (.if_icmp .ge 16, 3) := dgX12_clearPoints_0 (6, (.if_icmp .ge 16, 3)) (List.mem_of_getElem? (i := 4) rfl)
theorem dX12_clearPoints_9 : decode cX12_clearPoints 9 = .ok (.aload_n 0, 1) := dgX12_clearPoints_0 (9, (.aload_n 0, 1)) (List.mem_of_getElem? (i := 5) rfl)
theorem dX12_clearPoints_10 : decode cX12_clearPoints 10 = .ok (.getfield 85, 3) := dgX12_clearPoints_0 (10, (.getfield 85, 3)) (List.mem_of_getElem? (i := 6) rfl)
theorem dX12_clearPoints_13 : decode cX12_clearPoints 13 = .ok (.iload_n 1, 1) := dgX12_clearPoints_0 (13, (.iload_n 1, 1)) (List.mem_of_getElem? (i := 7) rfl)
theorem dX12_clearPoints_14 : decode cX12_clearPoints 14 = .ok (.iconst 0, 1) := dgX12_clearPoints_0 (14, (.iconst 0, 1)) (List.mem_of_getElem? (i := 8) rfl)
theorem dX12_clearPoints_15 : decode cX12_clearPoints 15 = .ok (.bastore, 1) := dgX12_clearPoints_0 (15, (.bastore, 1)) (List.mem_of_getElem? (i := 9) rfl)
theorem dX12_clearPoints_16 : decode cX12_clearPoints 16 = .ok (.iinc 1 1, 3) := dgX12_clearPoints_0 (16, (.iinc 1 1, 3)) (List.mem_of_getElem? (i := 10) rfl)
theorem dX12_clearPoints_19 : decode cX12_clearPoints 19 = .ok (.goto (-17), 3) := dgX12_clearPoints_0 (19, (.goto (-17), 3)) (List.mem_of_getElem? (i := 11) rfl)
theorem dX12_clearPoints_22 : decode cX12_clearPoints 22 = .ok (.return_, 1) := dgX12_clearPoints_0 (22, (.return_, 1)) (List.mem_of_getElem? (i := 12) rfl)
set_option maxHeartbeats 4000000 in
set_option maxRecDepth 100000 in
theorem n_clearPoints (l : Launch) (G : g5_G) (b_o b_ip b_rf b_ro b_im b_ke b_tp b_nl b_op b_ar b_pi b_pa b_ws b_hw b_se b_re b_pt b_ah b_be b_me b_tr b_ld b_wn : Nat) (sz : Nat) (u_th : Int32) (u_sa : Int32) (u_fd : Int32) (u_td : Int32) (u_fr : Int32) (u_to : Int32) (u_so : Int32) (u_fa : Int32) (u_bd : Int32) (u_nc : Int32) (u_co : Int32) (u_le : Int32) (u_pd : Int32) (u_od : Int32) (u_la : Int32) (u_bk : Int32) (u_ce : Int32) (u_ho : Int32) (u_wy : Int32) (u_bt : Int32) (u_ps : Int32) (u_tg : Int32) (u_sn : Int32) (u_ic : Int32) (u_wd : Int32) (u_id : Int32) (u_wo : Int64) (u_va : Int64) (u_su : Int64) (u_st : Int64) (v_ip : Nat → Int32) (h_u_td : 0 ≤ u_td.toInt ∧ u_td.toInt ≤ 400) (h_u_fr : 0 ≤ u_fr.toInt ∧ u_fr.toInt ≤ 400) (h_u_to : 0 ≤ u_to.toInt ∧ u_to.toInt ≤ 400) (h_u_bd : 0 ≤ u_bd.toInt ∧ u_bd.toInt ≤ 1) (h_u_nc : 0 ≤ u_nc.toInt ∧ u_nc.toInt ≤ 12) (h_u_co : 0 ≤ u_co.toInt ∧ u_co.toInt ≤ 400) (h_u_pd : 0 ≤ u_pd.toInt ∧ u_pd.toInt ≤ 400) (h_u_la : 0 ≤ u_la.toInt ∧ u_la.toInt ≤ 4840) (h_u_bk : 0 ≤ u_bk.toInt ∧ u_bk.toInt ≤ 1) (h_u_ce : 0 ≤ u_ce.toInt ∧ u_ce.toInt ≤ 63) (h_u_ho : 0 ≤ u_ho.toInt ∧ u_ho.toInt ≤ 23) (h_u_wy : 0 ≤ u_wy.toInt ∧ u_wy.toInt ≤ 3) (h_u_bt : 0 ≤ u_bt.toInt ∧ u_bt.toInt ≤ 1000000) (h_u_ps : 0 ≤ u_ps.toInt ∧ u_ps.toInt ≤ 200) (h_u_ic : 0 ≤ u_ic.toInt ∧ u_ic.toInt ≤ 1) (h_u_id : 0 ≤ u_id.toInt ∧ u_id.toInt ≤ 1) : Met l yX12_clearPoints (wsG yX12_clearPoints cX12_clearPoints 2 none) ({ frames := 0, cells := 0, slots := 0, locals := 0 }) (va_Pc [.ref b_o] (g5_P G [(b_o, (oc12 u_th u_sa b_rf b_ro b_im b_ke u_fd b_tp u_td u_fr u_to u_so u_wo u_fa u_bd u_nc b_nl u_co b_op b_ar u_le b_pi b_pa u_pd u_od b_ws b_hw u_la b_se b_re u_bk u_va u_su u_ce u_ho u_wy u_bt u_ps b_pt u_tg u_sn b_ip u_ic b_ah b_be b_me u_wd b_tr b_ld u_st b_wn u_id)), (b_ip, (arZ G 1536 v_ip))] sz)) (va_Qv (fun (u : va_W) => (∃ (o_ip : Nat → Int32), (u = [(b_o, (oc12 u_th u_sa b_rf b_ro b_im b_ke u_fd b_tp u_td u_fr u_to u_so u_wo u_fa u_bd u_nc b_nl u_co b_op b_ar u_le b_pi b_pa u_pd u_od b_ws b_hw u_la b_se b_re u_bk u_va u_su u_ce u_ho u_wy u_bt u_ps b_pt u_tg u_sn b_ip u_ic b_ah b_be b_me u_wd b_tr b_ld u_st b_wn u_id)), (b_ip, (arZ G 1536 o_ip))]))) (g5_B G (va_A [(b_o, (oc12 u_th u_sa b_rf b_ro b_im b_ke u_fd b_tp u_td u_fr u_to u_so u_wo u_fa u_bd u_nc b_nl u_co b_op b_ar u_le b_pi b_pa u_pd u_od b_ws b_hw u_la b_se b_re u_bk u_va u_su u_ce u_ho u_wy u_bt u_ps b_pt u_tg u_sn b_ip u_ic b_ah b_be b_me u_wd b_tr b_ld u_st b_wn u_id)), (b_ip, (arZ G 1536 v_ip))] sz)) (va_A [(b_o, (oc12 u_th u_sa b_rf b_ro b_im b_ke u_fd b_tp u_td u_fr u_to u_so u_wo u_fa u_bd u_nc b_nl u_co b_op b_ar u_le b_pi b_pa u_pd u_od b_ws b_hw u_la b_se b_re u_bk u_va u_su u_ce u_ho u_wy u_bt u_ps b_pt u_tg u_sn b_ip u_ic b_ah b_be b_me u_wd b_tr b_ld u_st b_wn u_id)), (b_ip, (arZ G 1536 v_ip))] sz)) 0 0 (va_A [(b_o, (oc12 u_th u_sa b_rf b_ro b_im b_ke u_fd b_tp u_td u_fr u_to u_so u_wo u_fa u_bd u_nc b_nl u_co b_op b_ar u_le b_pi b_pa u_pd u_od b_ws b_hw u_la b_se b_re u_bk u_va u_su u_ce u_ho u_wy u_bt u_ps b_pt u_tg u_sn b_ip u_ic b_ah b_be b_me u_wd b_tr b_ld u_st b_wn u_id)), (b_ip, (arZ G 1536 v_ip))] sz) := by
  refine Met.ofW (cc := cX12_clearPoints) (maxL := 2) (ret := none) (by decide +kernel) rfl ?_
  intro p e s m args below meth c s₁ B hml hv
  obtain ⟨rfl, hsz, hP, hK, hD0, hN, hT⟩ := hv
  have hx := B.exec
  have hb := B.bytes
  have hr := B.returns
  have hts : ∀ w ∈ tblG, w.before _ s = true := fun w h => atoms_spec (ws := (wsG yX12_clearPoints cX12_clearPoints 2 none)) B.pre w (List.mem_cons_of_mem _ h)
  have hown : s.vm.findClass RX12 = some m.cls := findClass_of_methodNamed B.named
  have hlocks := B.notSynchronized
  subst hsz
  have hD := hD0.self (sz := s.heap.size)
  generalize hAe : va_A [(b_o, (oc12 u_th u_sa b_rf b_ro b_im b_ke u_fd b_tp u_td u_fr u_to u_so u_wo u_fa u_bd u_nc b_nl u_co b_op b_ar u_le b_pi b_pa u_pd u_od b_ws b_hw u_la b_se b_re u_bk u_va u_su u_ce u_ho u_wy u_bt u_ps b_pt u_tg u_sn b_ip u_ic b_ah b_be b_me u_wd b_tr b_ld u_st b_wn u_id)), (b_ip, (arZ G 1536 v_ip))] s.heap.size = A at hD hT ⊢
  have hA : ∀ q : Nat, s.heap.size ≤ q → A q := fun q h => by rw [← hAe]; exact Or.inr h
  have hS : va_S A s.heap s.heap [] := va_S.rf
  replace hP : va_P G.1 vwCl [(b_o, (oc12 u_th u_sa b_rf b_ro b_im b_ke u_fd b_tp u_td u_fr u_to u_so u_wo u_fa u_bd u_nc b_nl u_co b_op b_ar u_le b_pi b_pa u_pd u_od b_ws b_hw u_la b_se b_re u_bk u_va u_su u_ce u_ho u_wy u_bt u_ps b_pt u_tg u_sn b_ip u_ic b_ah b_be b_me u_wd b_tr b_ld u_st b_wn u_id)), (b_ip, (arZ G 1536 v_ip))] s.heap := hP
  have hl := lv_entry ([.ref b_o]) (n := 2) (Nat.le_of_ble_eq_true rfl)
  rw [lg_entry_eq]
  generalize (lg_sl ([.ref b_o]) ++ List.replicate (2 - (lg_sl ([.ref b_o])).length) Slot.unset).toArray = ls at hl ⊢
  replace hl : lv_has ls 2 [(0, .ref b_o)] := hl
  refine lv_iconst (v := 0) hx hb dX12_clearPoints_0 (by decide +kernel) ?_
  refine lv_istore_n (lv' := [(1, .int 0), (0, .ref b_o)]) hx hb dX12_clearPoints_1 rfl hl (by decide +kernel) rfl ?_
  clear hl
  intro ls hl
  refine g5_loop (α := (Int32) × (Nat → Int32)) (fun (q : (Int32) × (Nat → Int32)) (ls : Array Slot) (H : Heap) (locs : List Loc) => match q with | (k2_1, k2_ip) => lv_has ls 2 [(1, .int k2_1), (0, .ref b_o)] ∧ va_P G.1 vwCl [(b_o, (oc12 u_th u_sa b_rf b_ro b_im b_ke u_fd b_tp u_td u_fr u_to u_so u_wo u_fa u_bd u_nc b_nl u_co b_op b_ar u_le b_pi b_pa u_pd u_od b_ws b_hw u_la b_se b_re u_bk u_va u_su u_ce u_ho u_wy u_bt u_ps b_pt u_tg u_sn b_ip u_ic b_ah b_be b_me u_wd b_tr b_ld u_st b_wn u_id)), (b_ip, (arZ G 1536 k2_ip))] H ∧ va_D A [(b_o, (oc12 u_th u_sa b_rf b_ro b_im b_ke u_fd b_tp u_td u_fr u_to u_so u_wo u_fa u_bd u_nc b_nl u_co b_op b_ar u_le b_pi b_pa u_pd u_od b_ws b_hw u_la b_se b_re u_bk u_va u_su u_ce u_ho u_wy u_bt u_ps b_pt u_tg u_sn b_ip u_ic b_ah b_be b_me u_wd b_tr b_ld u_st b_wn u_id)), (b_ip, (arZ G 1536 k2_ip))] ∧ va_S A s.heap H locs ∧ (0 ≤ k2_1.toInt ∧ k2_1.toInt ≤ 1536)) (fun (q : (Int32) × (Nat → Int32)) => match q with | (k2_1, k2_ip) => Int.toNat (1536 - k2_1.toInt)) (0, v_ip) ⟨lv_sub hl [0, 1] rfl, hP, hD, hS, ⟨by decide, by decide⟩⟩ ?_
  rintro ⟨k2_1, k2_ip⟩ ls H locs ⟨hl, hP, hD, hS, (i_1 : 0 ≤ k2_1.toInt ∧ k2_1.toInt ≤ 1536)⟩ ih_2_2
  replace hl : lv_has ls 2 [(1, .int k2_1), (0, .ref b_o)] := hl
  refine g5_rs [(b_o, (oc12 u_th u_sa b_rf b_ro b_im b_ke u_fd b_tp u_td u_fr u_to u_so u_wo u_fa u_bd u_nc b_nl u_co b_op b_ar u_le b_pi b_pa u_pd u_od b_ws b_hw u_la b_se b_re u_bk u_va u_su u_ce u_ho u_wy u_bt u_ps b_pt u_tg u_sn b_ip u_ic b_ah b_be b_me u_wd b_tr b_ld u_st b_wn u_id)), (b_ip, (arZ G 1536 k2_ip))] hP hD ?_
  clear hP hD
  intro hP hD
  refine lv_iload_n hx hb dX12_clearPoints_2 rfl (lv_at hl 0 rfl) ?_
  refine lv_sipush (v := 1536) hx hb dX12_clearPoints_3 (by decide +kernel) ?_
  refine lv_icmp_ge (tgt := 22) hx hb dX12_clearPoints_6 (by decide +kernel) (fun c_3 => ?_) (fun c_3 => ?_)
  ·
    have i_3 : k2_1.toInt ≥ 1536 := g5_ge (a := k2_1.toInt) (b := 1536) rfl (by decide +kernel) c_3
    exact W.vret hx hb hr (fun t ht hW => ⟨⟨[(b_o, (oc12 u_th u_sa b_rf b_ro b_im b_ke u_fd b_tp u_td u_fr u_to u_so u_wo u_fa u_bd u_nc b_nl u_co b_op b_ar u_le b_pi b_pa u_pd u_od b_ws b_hw u_la b_se b_re u_bk u_va u_su u_ce u_ho u_wy u_bt u_ps b_pt u_tg u_sn b_ip u_ic b_ah b_be b_me u_wd b_tr b_ld u_st b_wn u_id)), (b_ip, (arZ G 1536 k2_ip))], rfl, ⟨k2_ip, rfl⟩, by rw [ht]; exact hP.sub [0, 1] rfl, hD.sub [0, 1] (by decide +kernel) rfl⟩, hS.F ht⟩) hS.2.2 dX12_clearPoints_22
  ·
    have i_3 : k2_1.toInt < 1536 := g5_geN (a := k2_1.toInt) (b := 1536) rfl (by decide +kernel) c_3
    refine lv_aload_n hx hb dX12_clearPoints_9 rfl (lv_at hl 1 rfl) ?_
    refine va_get (D := G.1) (ci := 12) (v := .ref b_ip) (C := RX12) (T := TX12) (N := 52) hx hb hts inG_X12 hown hK hP 0 rfl rfl 41 (by decide +kernel) (hts _ fl_X12_85) (fun _ h9 => h9) rfl dX12_clearPoints_10 ?_
    refine lv_iload_n hx hb dX12_clearPoints_13 rfl (lv_at hl 0 rfl) ?_
    refine lv_iconst (v := 0) hx hb dX12_clearPoints_14 (by decide +kernel) ?_
    refine W.eq (g2 := F0 m 15 ls [.int 0, .int k2_1, .ref b_ip]) rfl ?_
    refine va_zast hx hb hK hP hD hS 1 2 rfl rfl (i := k2_1) (x := 0) (vp_in_iff.mpr ⟨by omega, by omega⟩) dX12_clearPoints_15 ?_
    clear hP hD hS
    intro H locs hP hD hS
    refine g5_rs [(b_o, (oc12 u_th u_sa b_rf b_ro b_im b_ke u_fd b_tp u_td u_fr u_to u_so u_wo u_fa u_bd u_nc b_nl u_co b_op b_ar u_le b_pi b_pa u_pd u_od b_ws b_hw u_la b_se b_re u_bk u_va u_su u_ce u_ho u_wy u_bt u_ps b_pt u_tg u_sn b_ip u_ic b_ah b_be b_me u_wd b_tr b_ld u_st b_wn u_id)), (b_ip, (arZ G 1536 (upd k2_ip k2_1.toNatClampNeg 0)))] hP hD ?_
    clear hP hD
    intro hP hD
    refine lv_iinc (v := (k2_1 + 1)) (lv' := [(1, .int (k2_1 + 1)), (0, .ref b_o)]) hx hb dX12_clearPoints_16 hl (k := 0) rfl rfl (by decide +kernel) rfl ?_
    clear hl
    intro ls hl
    have t_4 : (k2_1 + 1).toInt = k2_1.toInt + 1 := g5_iadd (a := k2_1.toInt) (b := 1) rfl (by decide +kernel) (by omega) (by omega)
    refine lv_goto (tgt := 2) hx hb dX12_clearPoints_19 (by decide +kernel) ?_
    exact ih_2_2 ((k2_1 + 1), (upd k2_ip k2_1.toNatClampNeg 0)) ls H locs (show Int.toNat (1536 - (k2_1 + 1).toInt) < Int.toNat (1536 - k2_1.toInt) from g_up (show k2_1.toInt < (k2_1 + 1).toInt by omega) (show k2_1.toInt < 1536 by omega)) ⟨lv_sub hl [0, 1] rfl, hP, hD, hS, ⟨by omega, by omega⟩⟩
theorem dgX12_lit_0 : ∀ r ∈ ([(0, (.aload_n 0, 1)), (1, (.iconst 0, 1)), (2, (.putfield 107, 3)), (5, (.iload_n 1, 1)), (6, (.invokestatic 138, 3)), (9, (.ifCond .eq 24, 3)), (12, (.iload_n 2, 1)), (13, (.invokestatic 175, 3)), (16, (.ifCond .eq 17, 3)), (19, (.iload_n 3, 1)), (20, (.i2l, 1)), (21, (.ldc2_w 178, 3)), (24, (.ldc2_w 128, 3)), (27, (.invokestatic 121, 3)), (30, (.ifCond .ne 5, 3)), (33, (.iconst (-1), 1)), (34, (.ireturn, 1)), (35, (.aload_n 0, 1)), (36, (.invokevirtual 413, 3)), (39, (.aload_n 0, 1)), (40, (.iload_n 1, 1)), (41, (.iload_n 2, 1)), (42, (.invokevirtual 416, 3)), (45, (.iconst 0, 1)), (46, (.istore 4, 2)), (48, (.iconst 0, 1)), (49, (.istore 5, 2)), (51, (.iload 5, 2)), (53, (.bipush 64, 2)), (55, (.if_icmp .ge 82, 3)), (58, (.iconst 0, 1)), (59, (.istore 6, 2)), (61, (.iconst 0, 1)), (62, (.istore 7, 2)), (64, (.iload 7, 2)), (66, (.bipush 24, 2)), (68, (.if_icmp .ge 37, 3)), (71, (.iload 6, 2)), (73, (.ifCond .ne 19, 3)), (76, (.aload_n 0, 1))] : List (Nat × (Instr × Nat))), decode cX12_lit r.1 = .ok r.2 := by decide +kernel
theorem dX12_lit_0 : decode cX12_lit 0 = .ok (.aload_n 0, 1) := dgX12_lit_0 (0, (.aload_n 0, 1)) (List.mem_of_getElem? (i := 0) rfl)
theorem dX12_lit_1 : decode cX12_lit 1 = .ok (.iconst 0, 1) := dgX12_lit_0 (1, (.iconst 0, 1)) (List.mem_of_getElem? (i := 1) rfl)
theorem dX12_lit_2 : decode cX12_lit 2 = .ok (.putfield 107, 3) := dgX12_lit_0 (2, (.putfield 107, 3)) (List.mem_of_getElem? (i := 2) rfl)
theorem dX12_lit_5 : decode cX12_lit 5 = .ok (.iload_n 1, 1) := dgX12_lit_0 (5, (.iload_n 1, 1)) (List.mem_of_getElem? (i := 3) rfl)
theorem dX12_lit_6 : decode cX12_lit 6 = .ok (.invokestatic 138, 3) := dgX12_lit_0 (6, (.invokestatic 138, 3)) (List.mem_of_getElem? (i := 4) rfl)
theorem dX12_lit_9 : decode cX12_lit 9 = .ok (.ifCond .eq 24, 3) := dgX12_lit_0 (9, (.ifCond .eq 24, 3)) (List.mem_of_getElem? (i := 5) rfl)
theorem dX12_lit_12 : decode cX12_lit 12 = .ok (.iload_n 2, 1) := dgX12_lit_0 (12, (.iload_n 2, 1)) (List.mem_of_getElem? (i := 6) rfl)
theorem dX12_lit_13 : decode cX12_lit 13 = .ok (.invokestatic 175, 3) := dgX12_lit_0 (13, (.invokestatic 175, 3)) (List.mem_of_getElem? (i := 7) rfl)
theorem dX12_lit_16 : decode cX12_lit 16 = .ok (.ifCond .eq 17, 3) := dgX12_lit_0 (16, (.ifCond .eq 17, 3)) (List.mem_of_getElem? (i := 8) rfl)
theorem dX12_lit_19 : decode cX12_lit 19 = .ok (.iload_n 3, 1) := dgX12_lit_0 (19, (.iload_n 3, 1)) (List.mem_of_getElem? (i := 9) rfl)
theorem dX12_lit_20 : decode cX12_lit 20 = .ok (.i2l, 1) := dgX12_lit_0 (20, (.i2l, 1)) (List.mem_of_getElem? (i := 10) rfl)
theorem dX12_lit_21 : decode cX12_lit 21 = .ok (.ldc2_w 178, 3) := dgX12_lit_0 (21, (.ldc2_w 178, 3)) (List.mem_of_getElem? (i := 11) rfl)
theorem dX12_lit_24 : decode cX12_lit 24 = .ok (.ldc2_w 128, 3) := dgX12_lit_0 (24, (.ldc2_w 128, 3)) (List.mem_of_getElem? (i := 12) rfl)
theorem dX12_lit_27 : decode cX12_lit 27 = .ok (.invokestatic 121, 3) := dgX12_lit_0 (27, (.invokestatic 121, 3)) (List.mem_of_getElem? (i := 13) rfl)
theorem dX12_lit_30 : decode cX12_lit 30 = .ok (.ifCond .ne 5, 3) := dgX12_lit_0 (30, (.ifCond .ne 5, 3)) (List.mem_of_getElem? (i := 14) rfl)
theorem dX12_lit_33 : decode cX12_lit 33 = .ok (.iconst (-1), 1) := dgX12_lit_0 (33, (.iconst (-1), 1)) (List.mem_of_getElem? (i := 15) rfl)
theorem dX12_lit_34 : decode cX12_lit 34 = .ok (.ireturn, 1) := dgX12_lit_0 (34, (.ireturn, 1)) (List.mem_of_getElem? (i := 16) rfl)
theorem dX12_lit_35 : decode cX12_lit 35 = .ok (.aload_n 0, 1) := dgX12_lit_0 (35, (.aload_n 0, 1)) (List.mem_of_getElem? (i := 17) rfl)
theorem dX12_lit_36 : decode cX12_lit 36 = .ok (.invokevirtual 413, 3) := dgX12_lit_0 (36, (.invokevirtual 413, 3)) (List.mem_of_getElem? (i := 18) rfl)
theorem dX12_lit_39 : decode cX12_lit 39 = .ok (.aload_n 0, 1) := dgX12_lit_0 (39, (.aload_n 0, 1)) (List.mem_of_getElem? (i := 19) rfl)
theorem dX12_lit_40 : decode cX12_lit 40 = .ok (.iload_n 1, 1) := dgX12_lit_0 (40, (.iload_n 1, 1)) (List.mem_of_getElem? (i := 20) rfl)
theorem dX12_lit_41 : decode cX12_lit 41 = .ok (.iload_n 2, 1) := dgX12_lit_0 (41, (.iload_n 2, 1)) (List.mem_of_getElem? (i := 21) rfl)
theorem dX12_lit_42 : decode cX12_lit 42 = .ok (.invokevirtual 416, 3) := dgX12_lit_0 (42, (.invokevirtual 416, 3)) (List.mem_of_getElem? (i := 22) rfl)
theorem dX12_lit_45 : decode cX12_lit 45 = .ok (.iconst 0, 1) := dgX12_lit_0 (45, (.iconst 0, 1)) (List.mem_of_getElem? (i := 23) rfl)
theorem dX12_lit_46 : decode cX12_lit 46 = .ok (.istore 4, 2) := dgX12_lit_0 (46, (.istore 4, 2)) (List.mem_of_getElem? (i := 24) rfl)
theorem dX12_lit_48 : decode cX12_lit 48 = .ok (.iconst 0, 1) := dgX12_lit_0 (48, (.iconst 0, 1)) (List.mem_of_getElem? (i := 25) rfl)
theorem dX12_lit_49 : decode cX12_lit 49 = .ok (.istore 5, 2) := dgX12_lit_0 (49, (.istore 5, 2)) (List.mem_of_getElem? (i := 26) rfl)
theorem dX12_lit_51 : decode cX12_lit 51 = .ok (.iload 5, 2) := dgX12_lit_0 (51, (.iload 5, 2)) (List.mem_of_getElem? (i := 27) rfl)
theorem dX12_lit_53 : decode cX12_lit 53 = .ok (.bipush 64, 2) := dgX12_lit_0 (53, (.bipush 64, 2)) (List.mem_of_getElem? (i := 28) rfl)
theorem dX12_lit_55 : decode cX12_lit 55 = .ok (.if_icmp .ge 82, 3) := dgX12_lit_0 (55, (.if_icmp .ge 82, 3)) (List.mem_of_getElem? (i := 29) rfl)
theorem dX12_lit_58 : decode cX12_lit 58 = .ok (.iconst 0, 1) := dgX12_lit_0 (58, (.iconst 0, 1)) (List.mem_of_getElem? (i := 30) rfl)
theorem dX12_lit_59 : decode cX12_lit 59 = .ok (.istore 6, 2) := dgX12_lit_0 (59, (.istore 6, 2)) (List.mem_of_getElem? (i := 31) rfl)
theorem dX12_lit_61 : decode cX12_lit 61 = .ok (.iconst 0, 1) := dgX12_lit_0 (61, (.iconst 0, 1)) (List.mem_of_getElem? (i := 32) rfl)
theorem dX12_lit_62 : decode cX12_lit 62 = .ok (.istore 7, 2) := dgX12_lit_0 (62, (.istore 7, 2)) (List.mem_of_getElem? (i := 33) rfl)
theorem dX12_lit_64 : decode cX12_lit 64 = .ok (.iload 7, 2) := dgX12_lit_0 (64, (.iload 7, 2)) (List.mem_of_getElem? (i := 34) rfl)
theorem dX12_lit_66 : decode cX12_lit 66 = .ok (.bipush 24, 2) := dgX12_lit_0 (66, (.bipush 24, 2)) (List.mem_of_getElem? (i := 35) rfl)
theorem dX12_lit_68 : decode cX12_lit 68 = .ok (.if_icmp .ge 37, 3) := dgX12_lit_0 (68, (.if_icmp .ge 37, 3)) (List.mem_of_getElem? (i := 36) rfl)
theorem dX12_lit_71 : decode cX12_lit 71 = .ok (.iload 6, 2) := dgX12_lit_0 (71, (.iload 6, 2)) (List.mem_of_getElem? (i := 37) rfl)
theorem dX12_lit_73 : decode cX12_lit 73 = .ok (.ifCond .ne 19, 3) := dgX12_lit_0 (73, (.ifCond .ne 19, 3)) (List.mem_of_getElem? (i := 38) rfl)
theorem dX12_lit_76 : decode cX12_lit 76 = .ok (.aload_n 0, 1) := dgX12_lit_0 (76, (.aload_n 0, 1)) (List.mem_of_getElem? (i := 39) rfl)
theorem dgX12_lit_1 : ∀ r ∈ ([(77, (.getfield 85, 3)), (80, (.bipush 64, 2)), (82, (.iload 7, 2)), (84, (.imul, 1)), (85, (.iload 5, 2)), (87, (.iadd, 1)), (88, (.baload, 1)), (89, (.ifCond .eq 7, 3)), (92, (.iconst 1, 1)), (93, (.goto 4, 3)), (96, (.iconst 0, 1)), (97, (.istore 6, 2)), (99, (.iinc 7 1, 3)), (102, (.goto (-38), 3)), (105, (.iload 4, 2)), (107, (.iload 6, 2)), (109, (.ifCond .eq 18, 3)), (112, (.iload_n 3, 1)), (113, (.iconst (-1), 1)), (114, (.if_icmp .eq 9, 3)), (117, (.iload_n 3, 1)), (118, (.iload 5, 2)), (120, (.if_icmp .ne 7, 3)), (123, (.iconst 1, 1)), (124, (.goto 4, 3)), (127, (.iconst 0, 1)), (128, (.iadd, 1)), (129, (.istore 4, 2)), (131, (.iinc 5 1, 3)), (134, (.goto (-83), 3)), (137, (.iload 4, 2)), (139, (.ireturn, 1))] : List (Nat × (Instr × Nat))), decode cX12_lit r.1 = .ok r.2 := by decide +kernel
theorem dX12_lit_77 : decode cX12_lit 77 = .ok (.getfield 85, 3) := dgX12_lit_1 (77, (.getfield 85, 3)) (List.mem_of_getElem? (i := 0) rfl)
theorem dX12_lit_80 : decode cX12_lit 80 = .ok (.bipush 64, 2) := dgX12_lit_1 (80, (.bipush 64, 2)) (List.mem_of_getElem? (i := 1) rfl)
theorem dX12_lit_82 : decode cX12_lit 82 = .ok (.iload 7, 2) := dgX12_lit_1 (82, (.iload 7, 2)) (List.mem_of_getElem? (i := 2) rfl)
theorem dX12_lit_84 : decode cX12_lit 84 = .ok (.imul, 1) := dgX12_lit_1 (84, (.imul, 1)) (List.mem_of_getElem? (i := 3) rfl)
theorem dX12_lit_85 : decode cX12_lit 85 = .ok (.iload 5, 2) := dgX12_lit_1 (85, (.iload 5, 2)) (List.mem_of_getElem? (i := 4) rfl)
theorem dX12_lit_87 : decode cX12_lit 87 = .ok (.iadd, 1) := dgX12_lit_1 (87, (.iadd, 1)) (List.mem_of_getElem? (i := 5) rfl)
theorem dX12_lit_88 : decode cX12_lit 88 = .ok (.baload, 1) := dgX12_lit_1 (88, (.baload, 1)) (List.mem_of_getElem? (i := 6) rfl)
theorem dX12_lit_89 : decode cX12_lit 89 = .ok (.ifCond .eq 7, 3) := dgX12_lit_1 (89, (.ifCond .eq 7, 3)) (List.mem_of_getElem? (i := 7) rfl)
theorem dX12_lit_92 : decode cX12_lit 92 = .ok (.iconst 1, 1) := dgX12_lit_1 (92, (.iconst 1, 1)) (List.mem_of_getElem? (i := 8) rfl)
theorem dX12_lit_93 : decode cX12_lit 93 = .ok (.goto 4, 3) := dgX12_lit_1 (93, (.goto 4, 3)) (List.mem_of_getElem? (i := 9) rfl)
theorem dX12_lit_96 : decode cX12_lit 96 = .ok (.iconst 0, 1) := dgX12_lit_1 (96, (.iconst 0, 1)) (List.mem_of_getElem? (i := 10) rfl)
theorem dX12_lit_97 : decode cX12_lit 97 = .ok (.istore 6, 2) := dgX12_lit_1 (97, (.istore 6, 2)) (List.mem_of_getElem? (i := 11) rfl)
theorem dX12_lit_99 : decode cX12_lit 99 = .ok (.iinc 7 1, 3) := dgX12_lit_1 (99, (.iinc 7 1, 3)) (List.mem_of_getElem? (i := 12) rfl)
theorem dX12_lit_102 : decode cX12_lit 102 = .ok (.goto (-38), 3) := dgX12_lit_1 (102, (.goto (-38), 3)) (List.mem_of_getElem? (i := 13) rfl)
theorem dX12_lit_105 : decode cX12_lit 105 = .ok (.iload 4, 2) := dgX12_lit_1 (105, (.iload 4, 2)) (List.mem_of_getElem? (i := 14) rfl)
theorem dX12_lit_107 : decode cX12_lit 107 = .ok (.iload 6, 2) := dgX12_lit_1 (107, (.iload 6, 2)) (List.mem_of_getElem? (i := 15) rfl)
theorem dX12_lit_109 : decode cX12_lit 109 = .ok (.ifCond .eq 18, 3) := dgX12_lit_1 (109, (.ifCond .eq 18, 3)) (List.mem_of_getElem? (i := 16) rfl)
theorem dX12_lit_112 : decode cX12_lit 112 = .ok (.iload_n 3, 1) := dgX12_lit_1 (112, (.iload_n 3, 1)) (List.mem_of_getElem? (i := 17) rfl)
theorem dX12_lit_113 : decode cX12_lit 113 = .ok (.iconst (-1), 1) := dgX12_lit_1 (113, (.iconst (-1), 1)) (List.mem_of_getElem? (i := 18) rfl)
theorem dX12_lit_114 : decode cX12_lit 114 = .ok (.if_icmp .eq 9, 3) := dgX12_lit_1 (114, (.if_icmp .eq 9, 3)) (List.mem_of_getElem? (i := 19) rfl)
theorem dX12_lit_117 : decode cX12_lit 117 = .ok (.iload_n 3, 1) := dgX12_lit_1 (117, (.iload_n 3, 1)) (List.mem_of_getElem? (i := 20) rfl)
theorem dX12_lit_118 : decode cX12_lit 118 = .ok (.iload 5, 2) := dgX12_lit_1 (118, (.iload 5, 2)) (List.mem_of_getElem? (i := 21) rfl)
theorem dX12_lit_120 : decode cX12_lit 120 = .ok (.if_icmp .ne 7, 3) := dgX12_lit_1 (120, (.if_icmp .ne 7, 3)) (List.mem_of_getElem? (i := 22) rfl)
theorem dX12_lit_123 : decode cX12_lit 123 = .ok (.iconst 1, 1) := dgX12_lit_1 (123, (.iconst 1, 1)) (List.mem_of_getElem? (i := 23) rfl)
theorem dX12_lit_124 : decode cX12_lit 124 = .ok (.goto 4, 3) := dgX12_lit_1 (124, (.goto 4, 3)) (List.mem_of_getElem? (i := 24) rfl)
theorem dX12_lit_127 : decode cX12_lit 127 = .ok (.iconst 0, 1) := dgX12_lit_1 (127, (.iconst 0, 1)) (List.mem_of_getElem? (i := 25) rfl)
theorem dX12_lit_128 : decode cX12_lit 128 = .ok (.iadd, 1) := dgX12_lit_1 (128, (.iadd, 1)) (List.mem_of_getElem? (i := 26) rfl)
theorem dX12_lit_129 : decode cX12_lit 129 = .ok (.istore 4, 2) := dgX12_lit_1 (129, (.istore 4, 2)) (List.mem_of_getElem? (i := 27) rfl)
theorem dX12_lit_131 : decode cX12_lit 131 = .ok (.iinc 5 1, 3) := dgX12_lit_1 (131, (.iinc 5 1, 3)) (List.mem_of_getElem? (i := 28) rfl)
theorem dX12_lit_134 : decode cX12_lit 134 = .ok (.goto (-83), 3) := dgX12_lit_1 (134, (.goto (-83), 3)) (List.mem_of_getElem? (i := 29) rfl)
theorem dX12_lit_137 : decode cX12_lit 137 = .ok (.iload 4, 2) := dgX12_lit_1 (137, (.iload 4, 2)) (List.mem_of_getElem? (i := 30) rfl)
theorem dX12_lit_139 : decode cX12_lit 139 = .ok (.ireturn, 1) := dgX12_lit_1 (139, (.ireturn, 1)) (List.mem_of_getElem? (i := 31) rfl)
theorem ml_X12_413 : Cond.methodLink RX12 413 yX12_clearPoints ∈ tblG := tg 1680 (by decide +kernel) (by decide +kernel)
theorem im_X12_clearPoints : Cond.instanceMethod yX12_clearPoints ∈ tblG := tg 1682 (by decide +kernel) (by decide +kernel)
theorem se_X12_clearPoints : Cond.selects RX12 yX12_clearPoints yX12_clearPoints ∈ tblG := tg 72 (by decide +kernel) (by decide +kernel)
theorem cd_X12_clearPoints : Cond.code yX12_clearPoints cX12_clearPoints 2 none ∈ tblG := tg 1683 (by decide +kernel) (by decide +kernel)
theorem gW_X12_clearPoints : GoodIn tblG (wsG yX12_clearPoints cX12_clearPoints 2 none) := tgi cd_X12_clearPoints
theorem gV_X12_413 : GoodIn tblG (wsV RX12 413 RX12 yX12_clearPoints (wsG yX12_clearPoints cX12_clearPoints 2 none)) := tgV ml_X12_413 im_X12_clearPoints se_X12_clearPoints ini_X12 gW_X12_clearPoints
theorem hv_X12_clearPoints : yX12_clearPoints.cls = RX12 ∧ yX12_clearPoints.cls ≠ "java/lang/invoke/MethodHandle" ∧ yX12_clearPoints.cls ≠ "java/lang/invoke/VarHandle" ∧ (parseMethodDescriptor yX12_clearPoints.desc).map (fun d => d.parameters.length) = some 0 := by decide +kernel
theorem ml_X12_416 : Cond.methodLink RX12 416 yX12_mark ∈ tblG := tg 1684 (by decide +kernel) (by decide +kernel)
theorem im_X12_mark : Cond.instanceMethod yX12_mark ∈ tblG := tg 1686 (by decide +kernel) (by decide +kernel)
theorem se_X12_mark : Cond.selects RX12 yX12_mark yX12_mark ∈ tblG := tg 73 (by decide +kernel) (by decide +kernel)
theorem cd_X12_mark : Cond.code yX12_mark cX12_mark 5 none ∈ tblG := tg 1687 (by decide +kernel) (by decide +kernel)
theorem gW_X12_mark : GoodIn tblG (wsG yX12_mark cX12_mark 5 none) := tgi cd_X12_mark
theorem gV_X12_416 : GoodIn tblG (wsV RX12 416 RX12 yX12_mark (wsG yX12_mark cX12_mark 5 none)) := tgV ml_X12_416 im_X12_mark se_X12_mark ini_X12 gW_X12_mark
theorem hv_X12_mark : yX12_mark.cls = RX12 ∧ yX12_mark.cls ≠ "java/lang/invoke/MethodHandle" ∧ yX12_mark.cls ≠ "java/lang/invoke/VarHandle" ∧ (parseMethodDescriptor yX12_mark.desc).map (fun d => d.parameters.length) = some 2 := by decide +kernel
