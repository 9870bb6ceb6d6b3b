theorem dX12_change_0 : decode cX12_change 0 = .ok (.aload_n 0, 1) := by decide +kernel
theorem dX12_change_1 : decode cX12_change 1 = .ok (.getfield 13, 3) := by decide +kernel
theorem dX12_change_4 : decode cX12_change 4 = .ok (.iload_n 1, 1) := by decide +kernel
theorem dX12_change_5 : decode cX12_change 5 = .ok (.iaload, 1) := by decide +kernel
theorem dX12_change_6 : decode cX12_change 6 = .ok (.istore_n 3, 1) := by decide +kernel
theorem dX12_change_7 : decode cX12_change 7 = .ok (.aload_n 0, 1) := by decide +kernel
theorem dX12_change_8 : decode cX12_change 8 = .ok (.getfield 13, 3) := by decide +kernel
theorem dX12_change_11 : decode cX12_change 11 = .ok (.iload_n 1, 1) := by decide +kernel
theorem dX12_change_12 : decode cX12_change 12 = .ok (.iload_n 2, 1) := by decide +kernel
theorem dX12_change_13 : decode cX12_change 13 = .ok (.iastore, 1) := by decide +kernel
theorem dX12_change_14 : decode cX12_change 14 = .ok (.aload_n 0, 1) := by decide +kernel
theorem dX12_change_15 : decode cX12_change 15 = .ok (.iload_n 3, 1) := by decide +kernel
theorem dX12_change_16 : decode cX12_change 16 = .ok (.invokevirtual 117, 3) := by decide +kernel
theorem dX12_change_19 : decode cX12_change 19 = .ok (.ireturn, 1) := by decide +kernel
theorem ml_X12_117 : Cond.methodLink RX12 117 yX12_was ∈ tblG := tg 1403 (by decide +kernel) (by decide +kernel)
theorem im_X12_was : Cond.instanceMethod yX12_was ∈ tblG := tg 1405 (by decide +kernel) (by decide +kernel)
theorem se_X12_was : Cond.selects RX12 yX12_was yX12_was ∈ tblG := tg 35 (by decide +kernel) (by decide +kernel)
theorem cd_X12_was : Cond.code yX12_was cX12_was 2 (some .int) ∈ tblG := tg 1406 (by decide +kernel) (by decide +kernel)
theorem gW_X12_was : GoodIn tblG (wsG yX12_was cX12_was 2 (some .int)) := tgi cd_X12_was
theorem gV_X12_117 : GoodIn tblG (wsV RX12 117 RX12 yX12_was (wsG yX12_was cX12_was 2 (some .int))) := tgV ml_X12_117 im_X12_was se_X12_was ini_X12 gW_X12_was
theorem hv_X12_was : yX12_was.cls = RX12 ∧ yX12_was.cls ≠ "java/lang/invoke/MethodHandle" ∧ yX12_was.cls ≠ "java/lang/invoke/VarHandle" ∧ (parseMethodDescriptor yX12_was.desc).map (fun d => d.parameters.length) = some 1 := by decide +kernel
set_option maxHeartbeats 4000000 in
set_option maxRecDepth 100000 in
theorem n_change (l : Launch) (G : g5_G) (b_o b_ro b_rf b_im b_ke b_tp b_nl b_op b_ar b_pi b_pa b_ws b_hw b_se b_re b_pt b_ip b_ah b_be b_me b_tr b_ld b_wn : Nat) (sz : Nat) (u_th : Int32) (u_sa : Int32) (u_fd : Int32) (u_td : Int32) (u_fr : Int32) (u_to : Int32) (u_so : Int32) (u_fa : Int32) (u_bd : Int32) (u_nc : Int32) (u_co : Int32) (u_le : Int32) (u_pd : Int32) (u_od : Int32) (u_la : Int32) (u_bk : Int32) (u_ce : Int32) (u_ho : Int32) (u_wy : Int32) (u_bt : Int32) (u_ps : Int32) (u_tg : Int32) (u_sn : Int32) (u_ic : Int32) (u_wd : Int32) (u_id : Int32) (p_1 : Int32) (p_2 : Int32) (u_wo : Int64) (u_va : Int64) (u_su : Int64) (u_st : Int64) (v_ro : Nat → Int32) (h_u_td : 0 ≤ u_td.toInt ∧ u_td.toInt ≤ 400) (h_u_fr : 0 ≤ u_fr.toInt ∧ u_fr.toInt ≤ 400) (h_u_to : 0 ≤ u_to.toInt ∧ u_to.toInt ≤ 400) (h_u_bd : 0 ≤ u_bd.toInt ∧ u_bd.toInt ≤ 1) (h_u_nc : 0 ≤ u_nc.toInt ∧ u_nc.toInt ≤ 12) (h_u_co : 0 ≤ u_co.toInt ∧ u_co.toInt ≤ 400) (h_u_pd : 0 ≤ u_pd.toInt ∧ u_pd.toInt ≤ 400) (h_u_la : 0 ≤ u_la.toInt ∧ u_la.toInt ≤ 4840) (h_u_bk : 0 ≤ u_bk.toInt ∧ u_bk.toInt ≤ 1) (h_u_ce : 0 ≤ u_ce.toInt ∧ u_ce.toInt ≤ 63) (h_u_ho : 0 ≤ u_ho.toInt ∧ u_ho.toInt ≤ 23) (h_u_wy : 0 ≤ u_wy.toInt ∧ u_wy.toInt ≤ 3) (h_u_bt : 0 ≤ u_bt.toInt ∧ u_bt.toInt ≤ 1000000) (h_u_ps : 0 ≤ u_ps.toInt ∧ u_ps.toInt ≤ 200) (h_u_ic : 0 ≤ u_ic.toInt ∧ u_ic.toInt ≤ 1) (h_u_id : 0 ≤ u_id.toInt ∧ u_id.toInt ≤ 1) (h_p_1 : 0 ≤ p_1.toInt ∧ p_1.toInt ≤ 339) (r_ro : MI v_ro) (e_ok : MI (upd v_ro p_1.toNatClampNeg p_2)) : Met l yX12_change (wsG yX12_change cX12_change 4 (some .int)) ({ frames := 1, cells := 0, slots := 0, locals := 21 }) (va_Pc [.ref b_o, .int p_1, .int p_2] (g5_P G [(b_o, .inr (12, [.int u_th, .int u_sa, .ref b_rf, .ref b_ro, .ref b_im, .ref b_ke, .int u_fd, .ref b_tp, .int u_td, .int u_fr, .int u_to, .int u_so, .long u_wo, .int u_fa, .int u_bd, .int u_nc, .ref b_nl, .int u_co, .ref b_op, .ref b_ar, .int u_le, .ref b_pi, .ref b_pa, .int u_pd, .int u_od, .ref b_ws, .ref b_hw, .int u_la, .ref b_se, .ref b_re, .int u_bk, .long u_va, .long u_su, .int u_ce, .int u_ho, .int u_wy, .int u_bt, .int u_ps, .ref b_pt, .int u_tg, .int u_sn, .ref b_ip, .int u_ic, .ref b_ah, .ref b_be, .ref b_me, .int u_wd, .ref b_tr, .ref b_ld, .long u_st, .ref b_wn, .int u_id])), (b_ro, .inl (G.2 0, 5740, .inl v_ro))] sz)) (va_Qi (fun (r : Int32) (u : va_W) => (∃ (o_r : Int32) (o_sa : Int32) (o_ic : Int32) (o_ro : Nat → Int32), (MI o_ro) ∧ (0 ≤ o_ic.toInt ∧ o_ic.toInt ≤ 1) ∧ (r = o_r) ∧ (u = [(b_o, .inr (12, [.int u_th, .int o_sa, .ref b_rf, .ref b_ro, .ref b_im, .ref b_ke, .int u_fd, .ref b_tp, .int u_td, .int u_fr, .int u_to, .int u_so, .long u_wo, .int u_fa, .int u_bd, .int u_nc, .ref b_nl, .int u_co, .ref b_op, .ref b_ar, .int u_le, .ref b_pi, .ref b_pa, .int u_pd, .int u_od, .ref b_ws, .ref b_hw, .int u_la, .ref b_se, .ref b_re, .int u_bk, .long u_va, .long u_su, .int u_ce, .int u_ho, .int u_wy, .int u_bt, .int u_ps, .ref b_pt, .int u_tg, .int u_sn, .ref b_ip, .int o_ic, .ref b_ah, .ref b_be, .ref b_me, .int u_wd, .ref b_tr, .ref b_ld, .long u_st, .ref b_wn, .int u_id])), (b_ro, .inl (G.2 0, 5740, .inl o_ro))]))) (g5_B G (va_A [(b_o, .inr (12, [.int u_th, .int u_sa, .ref b_rf, .ref b_ro, .ref b_im, .ref b_ke, .int u_fd, .ref b_tp, .int u_td, .int u_fr, .int u_to, .int u_so, .long u_wo, .int u_fa, .int u_bd, .int u_nc, .ref b_nl, .int u_co, .ref b_op, .ref b_ar, .int u_le, .ref b_pi, .ref b_pa, .int u_pd, .int u_od, .ref b_ws, .ref b_hw, .int u_la, .ref b_se, .ref b_re, .int u_bk, .long u_va, .long u_su, .int u_ce, .int u_ho, .int u_wy, .int u_bt, .int u_ps, .ref b_pt, .int u_tg, .int u_sn, .ref b_ip, .int u_ic, .ref b_ah, .ref b_be, .ref b_me, .int u_wd, .ref b_tr, .ref b_ld, .long u_st, .ref b_wn, .int u_id])), (b_ro, .inl (G.2 0, 5740, .inl v_ro))] sz)) (va_A [(b_o, .inr (12, [.int u_th, .int u_sa, .ref b_rf, .ref b_ro, .ref b_im, .ref b_ke, .int u_fd, .ref b_tp, .int u_td, .int u_fr, .int u_to, .int u_so, .long u_wo, .int u_fa, .int u_bd, .int u_nc, .ref b_nl, .int u_co, .ref b_op, .ref b_ar, .int u_le, .ref b_pi, .ref b_pa, .int u_pd, .int u_od, .ref b_ws, .ref b_hw, .int u_la, .ref b_se, .ref b_re, .int u_bk, .long u_va, .long u_su, .int u_ce, .int u_ho, .int u_wy, .int u_bt, .int u_ps, .ref b_pt, .int u_tg, .int u_sn, .ref b_ip, .int u_ic, .ref b_ah, .ref b_be, .ref b_me, .int u_wd, .ref b_tr, .ref b_ld, .long u_st, .ref b_wn, .int u_id])), (b_ro, .inl (G.2 0, 5740, .inl v_ro))] sz)) 0 0 (va_A [(b_o, .inr (12, [.int u_th, .int u_sa, .ref b_rf, .ref b_ro, .ref b_im, .ref b_ke, .int u_fd, .ref b_tp, .int u_td, .int u_fr, .int u_to, .int u_so, .long u_wo, .int u_fa, .int u_bd, .int u_nc, .ref b_nl, .int u_co, .ref b_op, .ref b_ar, .int u_le, .ref b_pi, .ref b_pa, .int u_pd, .int u_od, .ref b_ws, .ref b_hw, .int u_la, .ref b_se, .ref b_re, .int u_bk, .long u_va, .long u_su, .int u_ce, .int u_ho, .int u_wy, .int u_bt, .int u_ps, .ref b_pt, .int u_tg, .int u_sn, .ref b_ip, .int u_ic, .ref b_ah, .ref b_be, .ref b_me, .int u_wd, .ref b_tr, .ref b_ld, .long u_st, .ref b_wn, .int u_id])), (b_ro, .inl (G.2 0, 5740, .inl v_ro))] sz) := by
  refine Met.ofW (cc := cX12_change) (maxL := 4) (ret := (some .int)) (by decide) rfl ?_
  intro p e s m args below meth c s₁ B hml hv
  obtain ⟨rfl, hsz, hP, hK, hD0, hN, hT⟩ := hv
  have hx := B.exec
  have hb := B.bytes
  have hr := B.returns
  have hts : ∀ w ∈ tblG, w.before _ s = true := fun w h => atoms_spec (ws := (wsG yX12_change cX12_change 4 (some .int))) B.pre w (List.mem_cons_of_mem _ h)
  have hown : s.vm.findClass RX12 = some m.cls := findClass_of_methodNamed B.named
  have hlocks := B.notSynchronized
  subst hsz
  have hD := hD0.self (sz := s.heap.size)
  generalize hAe : va_A [(b_o, .inr (12, [.int u_th, .int u_sa, .ref b_rf, .ref b_ro, .ref b_im, .ref b_ke, .int u_fd, .ref b_tp, .int u_td, .int u_fr, .int u_to, .int u_so, .long u_wo, .int u_fa, .int u_bd, .int u_nc, .ref b_nl, .int u_co, .ref b_op, .ref b_ar, .int u_le, .ref b_pi, .ref b_pa, .int u_pd, .int u_od, .ref b_ws, .ref b_hw, .int u_la, .ref b_se, .ref b_re, .int u_bk, .long u_va, .long u_su, .int u_ce, .int u_ho, .int u_wy, .int u_bt, .int u_ps, .ref b_pt, .int u_tg, .int u_sn, .ref b_ip, .int u_ic, .ref b_ah, .ref b_be, .ref b_me, .int u_wd, .ref b_tr, .ref b_ld, .long u_st, .ref b_wn, .int u_id])), (b_ro, .inl (G.2 0, 5740, .inl v_ro))] s.heap.size = A at hD hT ⊢
  have hA : ∀ q : Nat, s.heap.size ≤ q → A q := fun q h => by rw [← hAe]; exact Or.inr h
  have hS : va_S A s.heap s.heap [] := va_S.rf
  have hP : va_P G.1 vwCl [(b_o, .inr (12, [.int u_th, .int u_sa, .ref b_rf, .ref b_ro, .ref b_im, .ref b_ke, .int u_fd, .ref b_tp, .int u_td, .int u_fr, .int u_to, .int u_so, .long u_wo, .int u_fa, .int u_bd, .int u_nc, .ref b_nl, .int u_co, .ref b_op, .ref b_ar, .int u_le, .ref b_pi, .ref b_pa, .int u_pd, .int u_od, .ref b_ws, .ref b_hw, .int u_la, .ref b_se, .ref b_re, .int u_bk, .long u_va, .long u_su, .int u_ce, .int u_ho, .int u_wy, .int u_bt, .int u_ps, .ref b_pt, .int u_tg, .int u_sn, .ref b_ip, .int u_ic, .ref b_ah, .ref b_be, .ref b_me, .int u_wd, .ref b_tr, .ref b_ld, .long u_st, .ref b_wn, .int u_id])), (b_ro, .inl (G.2 0, 5740, .inl v_ro))] s.heap := hP
  have hl := lv_entry ([.ref b_o, .int p_1, .int p_2]) (n := 4) (Nat.le_of_ble_eq_true rfl)
  rw [lg_entry_eq]
  generalize (lg_sl ([.ref b_o, .int p_1, .int p_2]) ++ List.replicate (4 - (lg_sl ([.ref b_o, .int p_1, .int p_2])).length) Slot.unset).toArray = ls at hl ⊢
  have hl : lv_has ls 4 [(0, .ref b_o), (1, .int p_1), (2, .int p_2)] := hl
  refine lv_aload_n hx hb dX12_change_0 rfl (lv_at hl 0 rfl) ?_
  refine va_get (D := G.1) (ci := 12) (v := .ref b_ro) (C := RX12) (T := TX12) (N := 52) hx hb hts inG_X12 hown hK hP 0 rfl rfl 3 (by decide) (hts _ fl_X12_13) (fun _ h9 => h9) rfl dX12_change_1 ?_
  refine lv_iload_n hx hb dX12_change_4 rfl (lv_at hl 1 rfl) ?_
  refine va_iald hx hb hK hP 1 0 rfl rfl (i := p_1) (vp_in_iff.mpr ⟨by omega, by omega⟩) dX12_change_5 ?_
  refine lv_istore_n (lv' := [(3, .int (v_ro p_1.toNatClampNeg)), (0, .ref b_o), (1, .int p_1), (2, .int p_2)]) hx hb dX12_change_6 rfl hl (by decide) rfl (fun ls hl => ?_)
  refine lv_aload_n hx hb dX12_change_7 rfl (lv_at hl 1 rfl) ?_
  refine va_get (D := G.1) (ci := 12) (v := .ref b_ro) (C := RX12) (T := TX12) (N := 52) hx hb hts inG_X12 hown hK hP 0 rfl rfl 3 (by decide) (hts _ fl_X12_13) (fun _ h9 => h9) rfl dX12_change_8 ?_
  refine lv_iload_n hx hb dX12_change_11 rfl (lv_at hl 2 rfl) ?_
  refine lv_iload_n hx hb dX12_change_12 rfl (lv_at hl 3 rfl) ?_
  refine va_iast hx hb hK hP hD hS 1 0 rfl rfl (i := p_1) (x := p_2) (vp_in_iff.mpr ⟨by omega, by omega⟩) dX12_change_13 (fun H locs hP hD hS => ?_)
  have hP : va_P G.1 vwCl [(b_o, .inr (12, [.int u_th, .int u_sa, .ref b_rf, .ref b_ro, .ref b_im, .ref b_ke, .int u_fd, .ref b_tp, .int u_td, .int u_fr, .int u_to, .int u_so, .long u_wo, .int u_fa, .int u_bd, .int u_nc, .ref b_nl, .int u_co, .ref b_op, .ref b_ar, .int u_le, .ref b_pi, .ref b_pa, .int u_pd, .int u_od, .ref b_ws, .ref b_hw, .int u_la, .ref b_se, .ref b_re, .int u_bk, .long u_va, .long u_su, .int u_ce, .int u_ho, .int u_wy, .int u_bt, .int u_ps, .ref b_pt, .int u_tg, .int u_sn, .ref b_ip, .int u_ic, .ref b_ah, .ref b_be, .ref b_me, .int u_wd, .ref b_tr, .ref b_ld, .long u_st, .ref b_wn, .int u_id])), (b_ro, .inl (G.2 0, 5740, .inl (upd v_ro p_1.toNatClampNeg p_2)))] H := hP
  have hD : va_D A [(b_o, .inr (12, [.int u_th, .int u_sa, .ref b_rf, .ref b_ro, .ref b_im, .ref b_ke, .int u_fd, .ref b_tp, .int u_td, .int u_fr, .int u_to, .int u_so, .long u_wo, .int u_fa, .int u_bd, .int u_nc, .ref b_nl, .int u_co, .ref b_op, .ref b_ar, .int u_le, .ref b_pi, .ref b_pa, .int u_pd, .int u_od, .ref b_ws, .ref b_hw, .int u_la, .ref b_se, .ref b_re, .int u_bk, .long u_va, .long u_su, .int u_ce, .int u_ho, .int u_wy, .int u_bt, .int u_ps, .ref b_pt, .int u_tg, .int u_sn, .ref b_ip, .int u_ic, .ref b_ah, .ref b_be, .ref b_me, .int u_wd, .ref b_tr, .ref b_ld, .long u_st, .ref b_wn, .int u_id])), (b_ro, .inl (G.2 0, 5740, .inl (upd v_ro p_1.toNatClampNeg p_2)))] := hD
  refine lv_aload_n hx hb dX12_change_14 rfl (lv_at hl 1 rfl) ?_
  refine lv_iload_n hx hb dX12_change_15 rfl (lv_at hl 0 rfl) ?_
  have hPc := hP.sub (ws' := [(b_o, .inr (12, [.int u_th, .int u_sa, .ref b_rf, .ref b_ro, .ref b_im, .ref b_ke, .int u_fd, .ref b_tp, .int u_td, .int u_fr, .int u_to, .int u_so, .long u_wo, .int u_fa, .int u_bd, .int u_nc, .ref b_nl, .int u_co, .ref b_op, .ref b_ar, .int u_le, .ref b_pi, .ref b_pa, .int u_pd, .int u_od, .ref b_ws, .ref b_hw, .int u_la, .ref b_se, .ref b_re, .int u_bk, .long u_va, .long u_su, .int u_ce, .int u_ho, .int u_wy, .int u_bt, .int u_ps, .ref b_pt, .int u_tg, .int u_sn, .ref b_ip, .int u_ic, .ref b_ah, .ref b_be, .ref b_me, .int u_wd, .ref b_tr, .ref b_ld, .long u_st, .ref b_wn, .int u_id]))]) [0] rfl
  have hDc := hD.sub (ws' := [(b_o, .inr (12, [.int u_th, .int u_sa, .ref b_rf, .ref b_ro, .ref b_im, .ref b_ke, .int u_fd, .ref b_tp, .int u_td, .int u_fr, .int u_to, .int u_so, .long u_wo, .int u_fa, .int u_bd, .int u_nc, .ref b_nl, .int u_co, .ref b_op, .ref b_ar, .int u_le, .ref b_pi, .ref b_pa, .int u_pd, .int u_od, .ref b_ws, .ref b_hw, .int u_la, .ref b_se, .ref b_re, .int u_bk, .long u_va, .long u_su, .int u_ce, .int u_ho, .int u_wy, .int u_bt, .int u_ps, .ref b_pt, .int u_tg, .int u_sn, .ref b_ip, .int u_ic, .ref b_ah, .ref b_be, .ref b_me, .int u_wd, .ref b_tr, .ref b_ld, .long u_st, .ref b_wn, .int u_id]))]) [0] (by decide) rfl
  have hFc := va_free (wc := [(b_o, .inr (12, [.int u_th, .int u_sa, .ref b_rf, .ref b_ro, .ref b_im, .ref b_ke, .int u_fd, .ref b_tp, .int u_td, .int u_fr, .int u_to, .int u_so, .long u_wo, .int u_fa, .int u_bd, .int u_nc, .ref b_nl, .int u_co, .ref b_op, .ref b_ar, .int u_le, .ref b_pi, .ref b_pa, .int u_pd, .int u_od, .ref b_ws, .ref b_hw, .int u_la, .ref b_se, .ref b_re, .int u_bk, .long u_va, .long u_su, .int u_ce, .int u_ho, .int u_wy, .int u_bt, .int u_ps, .ref b_pt, .int u_tg, .int u_sn, .ref b_ip, .int u_ic, .ref b_ah, .ref b_be, .ref b_me, .int u_wd, .ref b_tr, .ref b_ld, .long u_st, .ref b_wn, .int u_id]))]) hD hS hA [0] rfl
  refine va_calli (va_runV (As := [.int (v_ro p_1.toNatClampNeg)]) (rest := []) ⟨hx, hb, hml, hown, hts⟩ (n_was l G b_o b_rf b_ro b_im b_ke b_tp b_nl b_op b_ar b_pi b_pa b_ws b_hw b_se b_re b_pt b_ip b_ah b_be b_me b_tr b_ld b_wn H.size u_th u_sa u_fd u_td u_fr u_to u_so u_fa u_bd u_nc u_co u_le u_pd u_od u_la u_bk u_ce u_ho u_wy u_bt u_ps u_tg u_sn u_ic u_wd u_id (v_ro p_1.toNatClampNeg) u_wo u_va u_su u_st ⟨by omega, by omega⟩ ⟨by omega, by omega⟩ ⟨by omega, by omega⟩ ⟨by omega, by omega⟩ ⟨by omega, by omega⟩ ⟨by omega, by omega⟩ ⟨by omega, by omega⟩ ⟨by omega, by omega⟩ ⟨by omega, by omega⟩ ⟨by omega, by omega⟩ ⟨by omega, by omega⟩ ⟨by omega, by omega⟩ ⟨by omega, by omega⟩ ⟨by omega, by omega⟩ ⟨by omega, by omega⟩ ⟨by omega, by omega⟩) (cwV 1 hts gV_X12_117 rfl rfl rfl hv_X12_was ⟨Nat.le_of_ble_eq_true rfl, Nat.le_of_ble_eq_true rfl⟩) (g5_preV hPc hK hDc hN hT hS hFc (ci := 12) (q0 := 0) rfl rfl) rfl rfl hl.1 rfl (lv_room (Nat.le_of_ble_eq_true rfl)) dX12_change_16 ⟨Nat.le_of_ble_eq_true rfl, Nat.le_of_ble_eq_true rfl⟩) hS (fun q _ h => hFc q h) hFc (fun r u t H1 locs ht hvm hw hB hz1 hk1 hS => ?_)
  obtain ⟨hP1, hD1⟩ := hB
  rw [ht] at hP1
  obtain ⟨z2, z3, z4, i_1, y5, rfl⟩ := hw
  have i_1 : 0 ≤ z4.toInt ∧ z4.toInt ≤ 1 := i_1
  obtain ⟨hP, hD⟩ := va_join (wr := [(b_ro, .inl (G.2 0, 5740, .inl (upd v_ro p_1.toNatClampNeg p_2)))]) (w1 := [(b_o, .inr (12, [.int u_th, .int z3, .ref b_rf, .ref b_ro, .ref b_im, .ref b_ke, .int u_fd, .ref b_tp, .int u_td, .int u_fr, .int u_to, .int u_so, .long u_wo, .int u_fa, .int u_bd, .int u_nc, .ref b_nl, .int u_co, .ref b_op, .ref b_ar, .int u_le, .ref b_pi, .ref b_pa, .int u_pd, .int u_od, .ref b_ws, .ref b_hw, .int u_la, .ref b_se, .ref b_re, .int u_bk, .long u_va, .long u_su, .int u_ce, .int u_ho, .int u_wy, .int u_bt, .int u_ps, .ref b_pt, .int u_tg, .int u_sn, .ref b_ip, .int z4, .ref b_ah, .ref b_be, .ref b_me, .int u_wd, .ref b_tr, .ref b_ld, .long u_st, .ref b_wn, .int u_id]))]) hP hD [0] [1] rfl rfl (by decide) (by decide) hk1 hFc hP1 hD1
  generalize H1 = H at hP hS ⊢
  have hP : va_P G.1 vwCl [(b_ro, .inl (G.2 0, 5740, .inl (upd v_ro p_1.toNatClampNeg p_2))), (b_o, .inr (12, [.int u_th, .int z3, .ref b_rf, .ref b_ro, .ref b_im, .ref b_ke, .int u_fd, .ref b_tp, .int u_td, .int u_fr, .int u_to, .int u_so, .long u_wo, .int u_fa, .int u_bd, .int u_nc, .ref b_nl, .int u_co, .ref b_op, .ref b_ar, .int u_le, .ref b_pi, .ref b_pa, .int u_pd, .int u_od, .ref b_ws, .ref b_hw, .int u_la, .ref b_se, .ref b_re, .int u_bk, .long u_va, .long u_su, .int u_ce, .int u_ho, .int u_wy, .int u_bt, .int u_ps, .ref b_pt, .int u_tg, .int u_sn, .ref b_ip, .int z4, .ref b_ah, .ref b_be, .ref b_me, .int u_wd, .ref b_tr, .ref b_ld, .long u_st, .ref b_wn, .int u_id]))] H := hP
  have hD : va_D A [(b_ro, .inl (G.2 0, 5740, .inl (upd v_ro p_1.toNatClampNeg p_2))), (b_o, .inr (12, [.int u_th, .int z3, .ref b_rf, .ref b_ro, .ref b_im, .ref b_ke, .int u_fd, .ref b_tp, .int u_td, .int u_fr, .int u_to, .int u_so, .long u_wo, .int u_fa, .int u_bd, .int u_nc, .ref b_nl, .int u_co, .ref b_op, .ref b_ar, .int u_le, .ref b_pi, .ref b_pa, .int u_pd, .int u_od, .ref b_ws, .ref b_hw, .int u_la, .ref b_se, .ref b_re, .int u_bk, .long u_va, .long u_su, .int u_ce, .int u_ho, .int u_wy, .int u_bt, .int u_ps, .ref b_pt, .int u_tg, .int u_sn, .ref b_ip, .int z4, .ref b_ah, .ref b_be, .ref b_me, .int u_wd, .ref b_tr, .ref b_ld, .long u_st, .ref b_wn, .int u_id]))] := hD
  refine g5_ti (v := z2) y5 ?_
  exact W.iret (v := z2) hx hb hr (fun t ht hW => ⟨⟨z2, [(b_o, .inr (12, [.int u_th, .int z3, .ref b_rf, .ref b_ro, .ref b_im, .ref b_ke, .int u_fd, .ref b_tp, .int u_td, .int u_fr, .int u_to, .int u_so, .long u_wo, .int u_fa, .int u_bd, .int u_nc, .ref b_nl, .int u_co, .ref b_op, .ref b_ar, .int u_le, .ref b_pi, .ref b_pa, .int u_pd, .int u_od, .ref b_ws, .ref b_hw, .int u_la, .ref b_se, .ref b_re, .int u_bk, .long u_va, .long u_su, .int u_ce, .int u_ho, .int u_wy, .int u_bt, .int u_ps, .ref b_pt, .int u_tg, .int u_sn, .ref b_ip, .int z4, .ref b_ah, .ref b_be, .ref b_me, .int u_wd, .ref b_tr, .ref b_ld, .long u_st, .ref b_wn, .int u_id])), (b_ro, .inl (G.2 0, 5740, .inl (upd v_ro p_1.toNatClampNeg p_2)))], rfl, ⟨z2, z3, z4, (upd v_ro p_1.toNatClampNeg p_2), e_ok, ⟨by omega, by omega⟩, rfl, rfl⟩, by rw [ht]; exact hP.sub [1, 0] rfl, hD.sub [1, 0] (by decide) rfl⟩, hS.F ht⟩) hS.2.2 dX12_change_19
theorem dX12_hasGlass_0 : decode cX12_hasGlass 0 = .ok (.iconst 0, 1) := by decide +kernel
theorem dX12_hasGlass_1 : decode cX12_hasGlass 1 = .ok (.istore_n 2, 1) := by decide +kernel
theorem dX12_hasGlass_2 : decode cX12_hasGlass 2 = .ok (.iconst 0, 1) := by decide +kernel
theorem dX12_hasGlass_3 : decode cX12_hasGlass 3 = .ok (.istore_n 3, 1) := by decide +kernel
theorem dX12_hasGlass_4 : decode cX12_hasGlass 4 = .ok (.iload_n 3, 1) := by decide +kernel
theorem dX12_hasGlass_5 : decode cX12_hasGlass 5 = .ok (.aload_n 0, 1) := by decide +kernel
theorem dX12_hasGlass_6 : decode cX12_hasGlass 6 = .ok (.getfield 13, 3) := by decide +kernel
theorem dX12_hasGlass_9 : decode cX12_hasGlass 9 = .ok (.iconst 0, 1) := by decide +kernel
theorem dX12_hasGlass_10 : decode cX12_hasGlass 10 = .ok (.iaload, 1) := by decide +kernel
theorem dX12_hasGlass_11 : decode cX12_hasGlass 11 = .ok (.if_icmp .ge 29, 3) := by decide +kernel
theorem dX12_hasGlass_14 : decode cX12_hasGlass 14 = .ok (.iload_n 2, 1) := by decide +kernel
theorem dX12_hasGlass_15 : decode cX12_hasGlass 15 = .ok (.ifCond .ne 13, 3) := by decide +kernel
theorem dX12_hasGlass_18 : decode cX12_hasGlass 18 = .ok (.aload_n 0, 1) := by decide +kernel
theorem dX12_hasGlass_19 : decode cX12_hasGlass 19 = .ok (.iload_n 3, 1) := by decide +kernel
theorem dX12_hasGlass_20 : decode cX12_hasGlass 20 = .ok (.iconst 0, 1) := by decide +kernel
theorem dX12_hasGlass_21 : decode cX12_hasGlass 21 = .ok (.invokevirtual 134, 3) := by decide +kernel
theorem dX12_hasGlass_24 : decode cX12_hasGlass 24 = .ok (.iload_n 1, 1) := by decide +kernel
theorem dX12_hasGlass_25 : decode cX12_hasGlass 25 = .ok (.if_icmp .ne 7, 3) := by decide +kernel
theorem dX12_hasGlass_28 : decode cX12_hasGlass 28 = .ok (.iconst 1, 1) := by decide +kernel
theorem dX12_hasGlass_29 : decode cX12_hasGlass 29 = .ok (.goto 4, 3) := by decide +kernel
theorem dX12_hasGlass_32 : decode cX12_hasGlass 32 = .ok (.iconst 0, 1) := by decide +kernel
theorem dX12_hasGlass_33 : decode cX12_hasGlass 33 = .ok (.istore_n 2, 1) := by decide +kernel
theorem dX12_hasGlass_34 : decode cX12_hasGlass 34 = .ok (.iinc 3 1, 3) := by decide +kernel
theorem dX12_hasGlass_37 : decode cX12_hasGlass 37 = .ok (.goto (-33), 3) := by decide +kernel
theorem dX12_hasGlass_40 : decode cX12_hasGlass 40 = .ok (.iload_n 2, 1) := by decide +kernel
theorem dX12_hasGlass_41 : decode cX12_hasGlass 41 = .ok (.ireturn, 1) := by decide +kernel
theorem ml_X12_134 : Cond.methodLink RX12 134 yX12_ofGlass ∈ tblG := tg 1387 (by decide +kernel) (by decide +kernel)
theorem im_X12_ofGlass : Cond.instanceMethod yX12_ofGlass ∈ tblG := tg 1389 (by decide +kernel) (by decide +kernel)
theorem se_X12_ofGlass : Cond.selects RX12 yX12_ofGlass yX12_ofGlass ∈ tblG := tg 31 (by decide +kernel) (by decide +kernel)
theorem cd_X12_ofGlass : Cond.code yX12_ofGlass cX12_ofGlass 3 (some .int) ∈ tblG := tg 1390 (by decide +kernel) (by decide +kernel)
theorem gW_X12_ofGlass : GoodIn tblG (wsG yX12_ofGlass cX12_ofGlass 3 (some .int)) := tgi cd_X12_ofGlass
theorem gV_X12_134 : GoodIn tblG (wsV RX12 134 RX12 yX12_ofGlass (wsG yX12_ofGlass cX12_ofGlass 3 (some .int))) := tgV ml_X12_134 im_X12_ofGlass se_X12_ofGlass ini_X12 gW_X12_ofGlass
theorem hv_X12_ofGlass : yX12_ofGlass.cls = RX12 ∧ yX12_ofGlass.cls ≠ "java/lang/invoke/MethodHandle" ∧ yX12_ofGlass.cls ≠ "java/lang/invoke/VarHandle" ∧ (parseMethodDescriptor yX12_ofGlass.desc).map (fun d => d.parameters.length) = some 2 := by decide +kernel
set_option maxHeartbeats 4000000 in
set_option maxRecDepth 100000 in
theorem n_hasGlass (l : Launch) (G : g5_G) (b_o b_ro b_rf b_im b_ke b_tp b_nl b_op b_ar b_pi b_pa b_ws b_hw b_se b_re b_pt b_ip b_ah b_be b_me b_tr b_ld b_wn : Nat) (sz : Nat) (u_th : Int32) (u_sa : Int32) (u_fd : Int32) (u_td : Int32) (u_fr : Int32) (u_to : Int32) (u_so : Int32) (u_fa : Int32) (u_bd : Int32) (u_nc : Int32) (u_co : Int32) (u_le : Int32) (u_pd : Int32) (u_od : Int32) (u_la : Int32) (u_bk : Int32) (u_ce : Int32) (u_ho : Int32) (u_wy : Int32) (u_bt : Int32) (u_ps : Int32) (u_tg : Int32) (u_sn : Int32) (u_ic : Int32) (u_wd : Int32) (u_id : Int32) (p_1 : Int32) (u_wo : Int64) (u_va : Int64) (u_su : Int64) (u_st : Int64) (v_ro : Nat → Int32) (h_u_td : 0 ≤ u_td.toInt ∧ u_td.toInt ≤ 400) (h_u_fr : 0 ≤ u_fr.toInt ∧ u_fr.toInt ≤ 400) (h_u_to : 0 ≤ u_to.toInt ∧ u_to.toInt ≤ 400) (h_u_bd : 0 ≤ u_bd.toInt ∧ u_bd.toInt ≤ 1) (h_u_nc : 0 ≤ u_nc.toInt ∧ u_nc.toInt ≤ 12) (h_u_co : 0 ≤ u_co.toInt ∧ u_co.toInt ≤ 400) (h_u_pd : 0 ≤ u_pd.toInt ∧ u_pd.toInt ≤ 400) (h_u_la : 0 ≤ u_la.toInt ∧ u_la.toInt ≤ 4840) (h_u_bk : 0 ≤ u_bk.toInt ∧ u_bk.toInt ≤ 1) (h_u_ce : 0 ≤ u_ce.toInt ∧ u_ce.toInt ≤ 63) (h_u_ho : 0 ≤ u_ho.toInt ∧ u_ho.toInt ≤ 23) (h_u_wy : 0 ≤ u_wy.toInt ∧ u_wy.toInt ≤ 3) (h_u_bt : 0 ≤ u_bt.toInt ∧ u_bt.toInt ≤ 1000000) (h_u_ps : 0 ≤ u_ps.toInt ∧ u_ps.toInt ≤ 200) (h_u_ic : 0 ≤ u_ic.toInt ∧ u_ic.toInt ≤ 1) (h_u_id : 0 ≤ u_id.toInt ∧ u_id.toInt ≤ 1) (r_ro : MI v_ro) : Met l yX12_hasGlass (wsG yX12_hasGlass cX12_hasGlass 4 (some .boolean)) ({ frames := 1, cells := 0, slots := 0, locals := 22 }) (va_Pc [.ref b_o, .int p_1] (g5_P G [(b_o, .inr (12, [.int u_th, .int u_sa, .ref b_rf, .ref b_ro, .ref b_im, .ref b_ke, .int u_fd, .ref b_tp, .int u_td, .int u_fr, .int u_to, .int u_so, .long u_wo, .int u_fa, .int u_bd, .int u_nc, .ref b_nl, .int u_co, .ref b_op, .ref b_ar, .int u_le, .ref b_pi, .ref b_pa, .int u_pd, .int u_od, .ref b_ws, .ref b_hw, .int u_la, .ref b_se, .ref b_re, .int u_bk, .long u_va, .long u_su, .int u_ce, .int u_ho, .int u_wy, .int u_bt, .int u_ps, .ref b_pt, .int u_tg, .int u_sn, .ref b_ip, .int u_ic, .ref b_ah, .ref b_be, .ref b_me, .int u_wd, .ref b_tr, .ref b_ld, .long u_st, .ref b_wn, .int u_id])), (b_ro, .inl (G.2 0, 5740, .inl v_ro))] sz)) (va_Qi (fun (r : Int32) (u : va_W) => (∃ (o_r : Int32), (0 ≤ o_r.toInt ∧ o_r.toInt ≤ 1) ∧ (r = o_r) ∧ (u = [(b_o, .inr (12, [.int u_th, .int u_sa, .ref b_rf, .ref b_ro, .ref b_im, .ref b_ke, .int u_fd, .ref b_tp, .int u_td, .int u_fr, .int u_to, .int u_so, .long u_wo, .int u_fa, .int u_bd, .int u_nc, .ref b_nl, .int u_co, .ref b_op, .ref b_ar, .int u_le, .ref b_pi, .ref b_pa, .int u_pd, .int u_od, .ref b_ws, .ref b_hw, .int u_la, .ref b_se, .ref b_re, .int u_bk, .long u_va, .long u_su, .int u_ce, .int u_ho, .int u_wy, .int u_bt, .int u_ps, .ref b_pt, .int u_tg, .int u_sn, .ref b_ip, .int u_ic, .ref b_ah, .ref b_be, .ref b_me, .int u_wd, .ref b_tr, .ref b_ld, .long u_st, .ref b_wn, .int u_id])), (b_ro, .inl (G.2 0, 5740, .inl v_ro))]))) (g5_B G (va_A [(b_o, .inr (12, [.int u_th, .int u_sa, .ref b_rf, .ref b_ro, .ref b_im, .ref b_ke, .int u_fd, .ref b_tp, .int u_td, .int u_fr, .int u_to, .int u_so, .long u_wo, .int u_fa, .int u_bd, .int u_nc, .ref b_nl, .int u_co, .ref b_op, .ref b_ar, .int u_le, .ref b_pi, .ref b_pa, .int u_pd, .int u_od, .ref b_ws, .ref b_hw, .int u_la, .ref b_se, .ref b_re, .int u_bk, .long u_va, .long u_su, .int u_ce, .int u_ho, .int u_wy, .int u_bt, .int u_ps, .ref b_pt, .int u_tg, .int u_sn, .ref b_ip, .int u_ic, .ref b_ah, .ref b_be, .ref b_me, .int u_wd, .ref b_tr, .ref b_ld, .long u_st, .ref b_wn, .int u_id])), (b_ro, .inl (G.2 0, 5740, .inl v_ro))] sz)) (va_A [(b_o, .inr (12, [.int u_th, .int u_sa, .ref b_rf, .ref b_ro, .ref b_im, .ref b_ke, .int u_fd, .ref b_tp, .int u_td, .int u_fr, .int u_to, .int u_so, .long u_wo, .int u_fa, .int u_bd, .int u_nc, .ref b_nl, .int u_co, .ref b_op, .ref b_ar, .int u_le, .ref b_pi, .ref b_pa, .int u_pd, .int u_od, .ref b_ws, .ref b_hw, .int u_la, .ref b_se, .ref b_re, .int u_bk, .long u_va, .long u_su, .int u_ce, .int u_ho, .int u_wy, .int u_bt, .int u_ps, .ref b_pt, .int u_tg, .int u_sn, .ref b_ip, .int u_ic, .ref b_ah, .ref b_be, .ref b_me, .int u_wd, .ref b_tr, .ref b_ld, .long u_st, .ref b_wn, .int u_id])), (b_ro, .inl (G.2 0, 5740, .inl v_ro))] sz)) 0 0 (va_A [(b_o, .inr (12, [.int u_th, .int u_sa, .ref b_rf, .ref b_ro, .ref b_im, .ref b_ke, .int u_fd, .ref b_tp, .int u_td, .int u_fr, .int u_to, .int u_so, .long u_wo, .int u_fa, .int u_bd, .int u_nc, .ref b_nl, .int u_co, .ref b_op, .ref b_ar, .int u_le, .ref b_pi, .ref b_pa, .int u_pd, .int u_od, .ref b_ws, .ref b_hw, .int u_la, .ref b_se, .ref b_re, .int u_bk, .long u_va, .long u_su, .int u_ce, .int u_ho, .int u_wy, .int u_bt, .int u_ps, .ref b_pt, .int u_tg, .int u_sn, .ref b_ip, .int u_ic, .ref b_ah, .ref b_be, .ref b_me, .int u_wd, .ref b_tr, .ref b_ld, .long u_st, .ref b_wn, .int u_id])), (b_ro, .inl (G.2 0, 5740, .inl v_ro))] sz) := by
  refine Met.ofW (cc := cX12_hasGlass) (maxL := 4) (ret := (some .boolean)) (by decide) rfl ?_
  intro p e s m args below meth c s₁ B hml hv
  obtain ⟨rfl, hsz, hP, hK, hD0, hN, hT⟩ := hv
  have hx := B.exec
  have hb := B.bytes
  have hr := B.returns
  have hts : ∀ w ∈ tblG, w.before _ s = true := fun w h => atoms_spec (ws := (wsG yX12_hasGlass cX12_hasGlass 4 (some .boolean))) B.pre w (List.mem_cons_of_mem _ h)
  have hown : s.vm.findClass RX12 = some m.cls := findClass_of_methodNamed B.named
  have hlocks := B.notSynchronized
  subst hsz
  have hD := hD0.self (sz := s.heap.size)
  generalize hAe : va_A [(b_o, .inr (12, [.int u_th, .int u_sa, .ref b_rf, .ref b_ro, .ref b_im, .ref b_ke, .int u_fd, .ref b_tp, .int u_td, .int u_fr, .int u_to, .int u_so, .long u_wo, .int u_fa, .int u_bd, .int u_nc, .ref b_nl, .int u_co, .ref b_op, .ref b_ar, .int u_le, .ref b_pi, .ref b_pa, .int u_pd, .int u_od, .ref b_ws, .ref b_hw, .int u_la, .ref b_se, .ref b_re, .int u_bk, .long u_va, .long u_su, .int u_ce, .int u_ho, .int u_wy, .int u_bt, .int u_ps, .ref b_pt, .int u_tg, .int u_sn, .ref b_ip, .int u_ic, .ref b_ah, .ref b_be, .ref b_me, .int u_wd, .ref b_tr, .ref b_ld, .long u_st, .ref b_wn, .int u_id])), (b_ro, .inl (G.2 0, 5740, .inl v_ro))] s.heap.size = A at hD hT ⊢
  have hA : ∀ q : Nat, s.heap.size ≤ q → A q := fun q h => by rw [← hAe]; exact Or.inr h
  have hS : va_S A s.heap s.heap [] := va_S.rf
  have hP : va_P G.1 vwCl [(b_o, .inr (12, [.int u_th, .int u_sa, .ref b_rf, .ref b_ro, .ref b_im, .ref b_ke, .int u_fd, .ref b_tp, .int u_td, .int u_fr, .int u_to, .int u_so, .long u_wo, .int u_fa, .int u_bd, .int u_nc, .ref b_nl, .int u_co, .ref b_op, .ref b_ar, .int u_le, .ref b_pi, .ref b_pa, .int u_pd, .int u_od, .ref b_ws, .ref b_hw, .int u_la, .ref b_se, .ref b_re, .int u_bk, .long u_va, .long u_su, .int u_ce, .int u_ho, .int u_wy, .int u_bt, .int u_ps, .ref b_pt, .int u_tg, .int u_sn, .ref b_ip, .int u_ic, .ref b_ah, .ref b_be, .ref b_me, .int u_wd, .ref b_tr, .ref b_ld, .long u_st, .ref b_wn, .int u_id])), (b_ro, .inl (G.2 0, 5740, .inl v_ro))] s.heap := hP
  have hl := lv_entry ([.ref b_o, .int p_1]) (n := 4) (Nat.le_of_ble_eq_true rfl)
  rw [lg_entry_eq]
  generalize (lg_sl ([.ref b_o, .int p_1]) ++ List.replicate (4 - (lg_sl ([.ref b_o, .int p_1])).length) Slot.unset).toArray = ls at hl ⊢
  have hl : lv_has ls 4 [(0, .ref b_o), (1, .int p_1)] := hl
  refine lv_iconst (v := 0) hx hb dX12_hasGlass_0 (by decide) ?_
  refine lv_istore_n (lv' := [(2, .int 0), (0, .ref b_o), (1, .int p_1)]) hx hb dX12_hasGlass_1 rfl hl (by decide) rfl (fun ls hl => ?_)
  refine lv_iconst (v := 0) hx hb dX12_hasGlass_2 (by decide) ?_
  refine lv_istore_n (lv' := [(3, .int 0), (2, .int 0), (0, .ref b_o), (1, .int p_1)]) hx hb dX12_hasGlass_3 rfl hl (by decide) rfl (fun ls hl => ?_)
  refine g5_loop (α := (Int32) × (Int32)) (fun (q : (Int32) × (Int32)) (ls : Array Slot) (H : Heap) (locs : List Loc) => match q with | (k4_3, k4_2) => lv_has ls 4 [(2, .int k4_2), (3, .int k4_3), (0, .ref b_o), (1, .int p_1)] ∧ va_P G.1 vwCl [(b_o, .inr (12, [.int u_th, .int u_sa, .ref b_rf, .ref b_ro, .ref b_im, .ref b_ke, .int u_fd, .ref b_tp, .int u_td, .int u_fr, .int u_to, .int u_so, .long u_wo, .int u_fa, .int u_bd, .int u_nc, .ref b_nl, .int u_co, .ref b_op, .ref b_ar, .int u_le, .ref b_pi, .ref b_pa, .int u_pd, .int u_od, .ref b_ws, .ref b_hw, .int u_la, .ref b_se, .ref b_re, .int u_bk, .long u_va, .long u_su, .int u_ce, .int u_ho, .int u_wy, .int u_bt, .int u_ps, .ref b_pt, .int u_tg, .int u_sn, .ref b_ip, .int u_ic, .ref b_ah, .ref b_be, .ref b_me, .int u_wd, .ref b_tr, .ref b_ld, .long u_st, .ref b_wn, .int u_id])), (b_ro, .inl (G.2 0, 5740, .inl v_ro))] H ∧ va_D A [(b_o, .inr (12, [.int u_th, .int u_sa, .ref b_rf, .ref b_ro, .ref b_im, .ref b_ke, .int u_fd, .ref b_tp, .int u_td, .int u_fr, .int u_to, .int u_so, .long u_wo, .int u_fa, .int u_bd, .int u_nc, .ref b_nl, .int u_co, .ref b_op, .ref b_ar, .int u_le, .ref b_pi, .ref b_pa, .int u_pd, .int u_od, .ref b_ws, .ref b_hw, .int u_la, .ref b_se, .ref b_re, .int u_bk, .long u_va, .long u_su, .int u_ce, .int u_ho, .int u_wy, .int u_bt, .int u_ps, .ref b_pt, .int u_tg, .int u_sn, .ref b_ip, .int u_ic, .ref b_ah, .ref b_be, .ref b_me, .int u_wd, .ref b_tr, .ref b_ld, .long u_st, .ref b_wn, .int u_id])), (b_ro, .inl (G.2 0, 5740, .inl v_ro))] ∧ va_S A s.heap H locs ∧ (0 ≤ k4_3.toInt ∧ k4_3.toInt ≤ 6) ∧ (0 ≤ k4_2.toInt ∧ k4_2.toInt ≤ 1)) (fun (q : (Int32) × (Int32)) => match q with | (k4_3, k4_2) => Int.toNat (6 - k4_3.toInt)) (0, 0) ⟨lv_sub hl [1, 0, 2, 3] rfl, hP, hD, hS, ⟨by decide, by decide⟩, ⟨by decide, by decide⟩⟩ ?_
  rintro ⟨k4_3, k4_2⟩ ls H locs ⟨hl, hP, hD, hS, i_1, i_2⟩ ih_4_3
  have hl : lv_has ls 4 [(2, .int k4_2), (3, .int k4_3), (0, .ref b_o), (1, .int p_1)] := hl
  have i_1 : 0 ≤ k4_3.toInt ∧ k4_3.toInt ≤ 6 := i_1
  have i_2 : 0 ≤ k4_2.toInt ∧ k4_2.toInt ≤ 1 := i_2
  have hP : va_P G.1 vwCl [(b_o, .inr (12, [.int u_th, .int u_sa, .ref b_rf, .ref b_ro, .ref b_im, .ref b_ke, .int u_fd, .ref b_tp, .int u_td, .int u_fr, .int u_to, .int u_so, .long u_wo, .int u_fa, .int u_bd, .int u_nc, .ref b_nl, .int u_co, .ref b_op, .ref b_ar, .int u_le, .ref b_pi, .ref b_pa, .int u_pd, .int u_od, .ref b_ws, .ref b_hw, .int u_la, .ref b_se, .ref b_re, .int u_bk, .long u_va, .long u_su, .int u_ce, .int u_ho, .int u_wy, .int u_bt, .int u_ps, .ref b_pt, .int u_tg, .int u_sn, .ref b_ip, .int u_ic, .ref b_ah, .ref b_be, .ref b_me, .int u_wd, .ref b_tr, .ref b_ld, .long u_st, .ref b_wn, .int u_id])), (b_ro, .inl (G.2 0, 5740, .inl v_ro))] H := hP
  have hD : va_D A [(b_o, .inr (12, [.int u_th, .int u_sa, .ref b_rf, .ref b_ro, .ref b_im, .ref b_ke, .int u_fd, .ref b_tp, .int u_td, .int u_fr, .int u_to, .int u_so, .long u_wo, .int u_fa, .int u_bd, .int u_nc, .ref b_nl, .int u_co, .ref b_op, .ref b_ar, .int u_le, .ref b_pi, .ref b_pa, .int u_pd, .int u_od, .ref b_ws, .ref b_hw, .int u_la, .ref b_se, .ref b_re, .int u_bk, .long u_va, .long u_su, .int u_ce, .int u_ho, .int u_wy, .int u_bt, .int u_ps, .ref b_pt, .int u_tg, .int u_sn, .ref b_ip, .int u_ic, .ref b_ah, .ref b_be, .ref b_me, .int u_wd, .ref b_tr, .ref b_ld, .long u_st, .ref b_wn, .int u_id])), (b_ro, .inl (G.2 0, 5740, .inl v_ro))] := hD
  refine lv_iload_n hx hb dX12_hasGlass_4 rfl (lv_at hl 1 rfl) ?_
  refine lv_aload_n hx hb dX12_hasGlass_5 rfl (lv_at hl 2 rfl) ?_
  refine va_get (D := G.1) (ci := 12) (v := .ref b_ro) (C := RX12) (T := TX12) (N := 52) hx hb hts inG_X12 hown hK hP 0 rfl rfl 3 (by decide) (hts _ fl_X12_13) (fun _ h9 => h9) rfl dX12_hasGlass_6 ?_
  refine lv_iconst (v := 0) hx hb dX12_hasGlass_9 (by decide) ?_
  refine va_iald hx hb hK hP 1 0 rfl rfl (i := 0) (by unfold vp_in; decide) dX12_hasGlass_10 ?_
  refine g5_ti (v := (v_ro 0)) rfl ?_
  have hr_4 : 0 ≤ (v_ro 0).toInt ∧ (v_ro 0).toInt ≤ 6 := mi_0 r_ro
  refine lv_icmp_ge (tgt := 40) hx hb dX12_hasGlass_11 (by decide) (fun c_5 => ?_) (fun c_5 => ?_)
  ·
    have i_5 : k4_3.toInt ≥ (v_ro 0).toInt := by have z := g5_ge (a := k4_3.toInt) (b := (v_ro 0).toInt) (by rfl) (by rfl) c_5; omega
    refine lv_iload_n hx hb dX12_hasGlass_40 rfl (lv_at hl 0 rfl) ?_
    exact W.zret (v := k4_2) hx hb hr (g_nb (by omega) (by omega)) (fun t ht hW => ⟨⟨k4_2, [(b_o, .inr (12, [.int u_th, .int u_sa, .ref b_rf, .ref b_ro, .ref b_im, .ref b_ke, .int u_fd, .ref b_tp, .int u_td, .int u_fr, .int u_to, .int u_so, .long u_wo, .int u_fa, .int u_bd, .int u_nc, .ref b_nl, .int u_co, .ref b_op, .ref b_ar, .int u_le, .ref b_pi, .ref b_pa, .int u_pd, .int u_od, .ref b_ws, .ref b_hw, .int u_la, .ref b_se, .ref b_re, .int u_bk, .long u_va, .long u_su, .int u_ce, .int u_ho, .int u_wy, .int u_bt, .int u_ps, .ref b_pt, .int u_tg, .int u_sn, .ref b_ip, .int u_ic, .ref b_ah, .ref b_be, .ref b_me, .int u_wd, .ref b_tr, .ref b_ld, .long u_st, .ref b_wn, .int u_id])), (b_ro, .inl (G.2 0, 5740, .inl v_ro))], rfl, ⟨k4_2, ⟨by omega, by omega⟩, rfl, rfl⟩, by rw [ht]; exact hP.sub [0, 1] rfl, hD.sub [0, 1] (by decide) rfl⟩, hS.F ht⟩) hS.2.2 dX12_hasGlass_41
  ·
    have i_5 : k4_3.toInt < (v_ro 0).toInt := by have z := g5_geN (a := k4_3.toInt) (b := (v_ro 0).toInt) (by rfl) (by rfl) c_5; omega
    refine lv_iload_n hx hb dX12_hasGlass_14 rfl (lv_at hl 0 rfl) ?_
    refine lv_if_ne (tgt := 28) hx hb dX12_hasGlass_15 (by decide) (fun c_6 => ?_) (fun c_6 => ?_)
    ·
      have n_6 : gNe (k4_2.toInt) (0) := by have z := g5_ne (a := k4_2.toInt) (b := 0) (by rfl) (by decide) c_6; unfold gNe; omega
      have i_6 : k4_2.toInt ≥ 1 := by have z := g5_ne (a := k4_2.toInt) (b := 0) (by rfl) (by decide) c_6; omega
      refine lv_iconst (v := 1) hx hb dX12_hasGlass_28 (by decide) ?_
      refine lv_goto (tgt := 33) hx hb dX12_hasGlass_29 (by decide) ?_
      refine lv_istore_n (lv' := [(2, .int 1), (3, .int k4_3), (0, .ref b_o), (1, .int p_1)]) hx hb dX12_hasGlass_33 rfl hl (by decide) rfl (fun ls hl => ?_)
      refine lv_iinc (v := (k4_3 + 1)) (lv' := [(3, .int (k4_3 + 1)), (2, .int 1), (0, .ref b_o), (1, .int p_1)]) hx hb dX12_hasGlass_34 hl (k := 1) rfl rfl (by decide) rfl (fun ls hl => ?_)
      have t_7 : (k4_3 + 1).toInt = k4_3.toInt + 1 := g5_iadd (a := k4_3.toInt) (b := 1) rfl (by decide) (by omega) (by omega)
      refine lv_goto (tgt := 4) hx hb dX12_hasGlass_37 (by decide) ?_
      exact ih_4_3 ((k4_3 + 1), 1) ls H locs (show Int.toNat (6 - (k4_3 + 1).toInt) < Int.toNat (6 - k4_3.toInt) from g_up (show k4_3.toInt < (k4_3 + 1).toInt by omega) (show k4_3.toInt < 6 by omega)) ⟨lv_sub hl [1, 0, 2, 3] rfl, hP, hD, hS, ⟨by omega, by omega⟩, ⟨by decide, by decide⟩⟩
    ·
      have i_6 : k4_2.toInt = 0 := by have z := g5_neN (a := k4_2.toInt) (b := 0) (by rfl) (by decide) c_6; omega
      refine lv_aload_n hx hb dX12_hasGlass_18 rfl (lv_at hl 2 rfl) ?_
      refine lv_iload_n hx hb dX12_hasGlass_19 rfl (lv_at hl 1 rfl) ?_
      refine lv_iconst (v := 0) hx hb dX12_hasGlass_20 (by decide) ?_
      have hPc := hP.sub (ws' := [(b_o, .inr (12, [.int u_th, .int u_sa, .ref b_rf, .ref b_ro, .ref b_im, .ref b_ke, .int u_fd, .ref b_tp, .int u_td, .int u_fr, .int u_to, .int u_so, .long u_wo, .int u_fa, .int u_bd, .int u_nc, .ref b_nl, .int u_co, .ref b_op, .ref b_ar, .int u_le, .ref b_pi, .ref b_pa, .int u_pd, .int u_od, .ref b_ws, .ref b_hw, .int u_la, .ref b_se, .ref b_re, .int u_bk, .long u_va, .long u_su, .int u_ce, .int u_ho, .int u_wy, .int u_bt, .int u_ps, .ref b_pt, .int u_tg, .int u_sn, .ref b_ip, .int u_ic, .ref b_ah, .ref b_be, .ref b_me, .int u_wd, .ref b_tr, .ref b_ld, .long u_st, .ref b_wn, .int u_id])), (b_ro, .inl (G.2 0, 5740, .inl v_ro))]) [0, 1] rfl
      have hDc := hD.sub (ws' := [(b_o, .inr (12, [.int u_th, .int u_sa, .ref b_rf, .ref b_ro, .ref b_im, .ref b_ke, .int u_fd, .ref b_tp, .int u_td, .int u_fr, .int u_to, .int u_so, .long u_wo, .int u_fa, .int u_bd, .int u_nc, .ref b_nl, .int u_co, .ref b_op, .ref b_ar, .int u_le, .ref b_pi, .ref b_pa, .int u_pd, .int u_od, .ref b_ws, .ref b_hw, .int u_la, .ref b_se, .ref b_re, .int u_bk, .long u_va, .long u_su, .int u_ce, .int u_ho, .int u_wy, .int u_bt, .int u_ps, .ref b_pt, .int u_tg, .int u_sn, .ref b_ip, .int u_ic, .ref b_ah, .ref b_be, .ref b_me, .int u_wd, .ref b_tr, .ref b_ld, .long u_st, .ref b_wn, .int u_id])), (b_ro, .inl (G.2 0, 5740, .inl v_ro))]) [0, 1] (by decide) rfl
      have hFc := va_free (wc := [(b_o, .inr (12, [.int u_th, .int u_sa, .ref b_rf, .ref b_ro, .ref b_im, .ref b_ke, .int u_fd, .ref b_tp, .int u_td, .int u_fr, .int u_to, .int u_so, .long u_wo, .int u_fa, .int u_bd, .int u_nc, .ref b_nl, .int u_co, .ref b_op, .ref b_ar, .int u_le, .ref b_pi, .ref b_pa, .int u_pd, .int u_od, .ref b_ws, .ref b_hw, .int u_la, .ref b_se, .ref b_re, .int u_bk, .long u_va, .long u_su, .int u_ce, .int u_ho, .int u_wy, .int u_bt, .int u_ps, .ref b_pt, .int u_tg, .int u_sn, .ref b_ip, .int u_ic, .ref b_ah, .ref b_be, .ref b_me, .int u_wd, .ref b_tr, .ref b_ld, .long u_st, .ref b_wn, .int u_id])), (b_ro, .inl (G.2 0, 5740, .inl v_ro))]) hD hS hA [0, 1] rfl
      refine va_calli (va_runV (As := [.int k4_3, .int 0]) (rest := []) ⟨hx, hb, hml, hown, hts⟩ (n_ofGlass l G b_o b_ro b_rf b_im b_ke b_tp b_nl b_op b_ar b_pi b_pa b_ws b_hw b_se b_re b_pt b_ip b_ah b_be b_me b_tr b_ld b_wn H.size u_th u_sa u_fd u_td u_fr u_to u_so u_fa u_bd u_nc u_co u_le u_pd u_od u_la u_bk u_ce u_ho u_wy u_bt u_ps u_tg u_sn u_ic u_wd u_id k4_3 0 u_wo u_va u_su u_st v_ro ⟨by omega, by omega⟩ ⟨by omega, by omega⟩ ⟨by omega, by omega⟩ ⟨by omega, by omega⟩ ⟨by omega, by omega⟩ ⟨by omega, by omega⟩ ⟨by omega, by omega⟩ ⟨by omega, by omega⟩ ⟨by omega, by omega⟩ ⟨by omega, by omega⟩ ⟨by omega, by omega⟩ ⟨by omega, by omega⟩ ⟨by omega, by omega⟩ ⟨by omega, by omega⟩ ⟨by omega, by omega⟩ ⟨by omega, by omega⟩ ⟨by omega, by omega⟩ ⟨by decide, by decide⟩ (r_ro)) (cwV 2 hts gV_X12_134 rfl rfl rfl hv_X12_ofGlass ⟨Nat.le_of_ble_eq_true rfl, Nat.le_of_ble_eq_true rfl⟩) (g5_preV hPc hK hDc hN hT hS hFc (ci := 12) (q0 := 0) rfl rfl) rfl rfl hl.1 rfl (lv_room (Nat.le_of_ble_eq_true rfl)) dX12_hasGlass_21 ⟨Nat.le_of_ble_eq_true rfl, Nat.le_of_ble_eq_true rfl⟩) hS (fun q _ h => hFc q h) hFc (fun r u t H1 locs ht hvm hw hB hz1 hk1 hS => ?_)
      obtain ⟨hP1, hD1⟩ := hB
      rw [ht] at hP1
      obtain ⟨z8, y9, rfl⟩ := hw
      obtain ⟨hP, hD⟩ := va_join (wr := []) (w1 := [(b_o, .inr (12, [.int u_th, .int u_sa, .ref b_rf, .ref b_ro, .ref b_im, .ref b_ke, .int u_fd, .ref b_tp, .int u_td, .int u_fr, .int u_to, .int u_so, .long u_wo, .int u_fa, .int u_bd, .int u_nc, .ref b_nl, .int u_co, .ref b_op, .ref b_ar, .int u_le, .ref b_pi, .ref b_pa, .int u_pd, .int u_od, .ref b_ws, .ref b_hw, .int u_la, .ref b_se, .ref b_re, .int u_bk, .long u_va, .long u_su, .int u_ce, .int u_ho, .int u_wy, .int u_bt, .int u_ps, .ref b_pt, .int u_tg, .int u_sn, .ref b_ip, .int u_ic, .ref b_ah, .ref b_be, .ref b_me, .int u_wd, .ref b_tr, .ref b_ld, .long u_st, .ref b_wn, .int u_id])), (b_ro, .inl (G.2 0, 5740, .inl v_ro))]) hP hD [0, 1] [] rfl rfl (by decide) (by decide) hk1 hFc hP1 hD1
      generalize H1 = H at hP hS ⊢
      have hP : va_P G.1 vwCl [(b_o, .inr (12, [.int u_th, .int u_sa, .ref b_rf, .ref b_ro, .ref b_im, .ref b_ke, .int u_fd, .ref b_tp, .int u_td, .int u_fr, .int u_to, .int u_so, .long u_wo, .int u_fa, .int u_bd, .int u_nc, .ref b_nl, .int u_co, .ref b_op, .ref b_ar, .int u_le, .ref b_pi, .ref b_pa, .int u_pd, .int u_od, .ref b_ws, .ref b_hw, .int u_la, .ref b_se, .ref b_re, .int u_bk, .long u_va, .long u_su, .int u_ce, .int u_ho, .int u_wy, .int u_bt, .int u_ps, .ref b_pt, .int u_tg, .int u_sn, .ref b_ip, .int u_ic, .ref b_ah, .ref b_be, .ref b_me, .int u_wd, .ref b_tr, .ref b_ld, .long u_st, .ref b_wn, .int u_id])), (b_ro, .inl (G.2 0, 5740, .inl v_ro))] H := hP
      have hD : va_D A [(b_o, .inr (12, [.int u_th, .int u_sa, .ref b_rf, .ref b_ro, .ref b_im, .ref b_ke, .int u_fd, .ref b_tp, .int u_td, .int u_fr, .int u_to, .int u_so, .long u_wo, .int u_fa, .int u_bd, .int u_nc, .ref b_nl, .int u_co, .ref b_op, .ref b_ar, .int u_le, .ref b_pi, .ref b_pa, .int u_pd, .int u_od, .ref b_ws, .ref b_hw, .int u_la, .ref b_se, .ref b_re, .int u_bk, .long u_va, .long u_su, .int u_ce, .int u_ho, .int u_wy, .int u_bt, .int u_ps, .ref b_pt, .int u_tg, .int u_sn, .ref b_ip, .int u_ic, .ref b_ah, .ref b_be, .ref b_me, .int u_wd, .ref b_tr, .ref b_ld, .long u_st, .ref b_wn, .int u_id])), (b_ro, .inl (G.2 0, 5740, .inl v_ro))] := hD
      refine g5_ti (v := z8) y9 ?_
      refine lv_iload_n hx hb dX12_hasGlass_24 rfl (lv_at hl 3 rfl) ?_
      refine lv_icmp_ne (tgt := 32) hx hb dX12_hasGlass_25 (by decide) (fun c_10 => ?_) (fun c_10 => ?_)
      ·
        have n_10 : gNe (z8.toInt) (p_1.toInt) := by have z := g5_ne (a := z8.toInt) (b := p_1.toInt) (by rfl) (by rfl) c_10; unfold gNe; omega
        refine lv_iconst (v := 0) hx hb dX12_hasGlass_32 (by decide) ?_
        refine lv_istore_n (lv' := [(2, .int 0), (3, .int k4_3), (0, .ref b_o), (1, .int p_1)]) hx hb dX12_hasGlass_33 rfl hl (by decide) rfl (fun ls hl => ?_)
        refine lv_iinc (v := (k4_3 + 1)) (lv' := [(3, .int (k4_3 + 1)), (2, .int 0), (0, .ref b_o), (1, .int p_1)]) hx hb dX12_hasGlass_34 hl (k := 1) rfl rfl (by decide) rfl (fun ls hl => ?_)
        have t_11 : (k4_3 + 1).toInt = k4_3.toInt + 1 := g5_iadd (a := k4_3.toInt) (b := 1) rfl (by decide) (by omega) (by omega)
        refine lv_goto (tgt := 4) hx hb dX12_hasGlass_37 (by decide) ?_
        exact ih_4_3 ((k4_3 + 1), 0) ls H locs (show Int.toNat (6 - (k4_3 + 1).toInt) < Int.toNat (6 - k4_3.toInt) from g_up (show k4_3.toInt < (k4_3 + 1).toInt by omega) (show k4_3.toInt < 6 by omega)) ⟨lv_sub hl [1, 0, 2, 3] rfl, hP, hD, hS, ⟨by omega, by omega⟩, ⟨by decide, by decide⟩⟩
      ·
        have i_10 : z8.toInt = p_1.toInt := by have z := g5_neN (a := z8.toInt) (b := p_1.toInt) (by rfl) (by rfl) c_10; omega
        refine lv_iconst (v := 1) hx hb dX12_hasGlass_28 (by decide) ?_
        refine lv_goto (tgt := 33) hx hb dX12_hasGlass_29 (by decide) ?_
        refine lv_istore_n (lv' := [(2, .int 1), (3, .int k4_3), (0, .ref b_o), (1, .int p_1)]) hx hb dX12_hasGlass_33 rfl hl (by decide) rfl (fun ls hl => ?_)
        refine lv_iinc (v := (k4_3 + 1)) (lv' := [(3, .int (k4_3 + 1)), (2, .int 1), (0, .ref b_o), (1, .int p_1)]) hx hb dX12_hasGlass_34 hl (k := 1) rfl rfl (by decide) rfl (fun ls hl => ?_)
        have t_12 : (k4_3 + 1).toInt = k4_3.toInt + 1 := g5_iadd (a := k4_3.toInt) (b := 1) rfl (by decide) (by omega) (by omega)
        refine lv_goto (tgt := 4) hx hb dX12_hasGlass_37 (by decide) ?_
        exact ih_4_3 ((k4_3 + 1), 1) ls H locs (show Int.toNat (6 - (k4_3 + 1).toInt) < Int.toNat (6 - k4_3.toInt) from g_up (show k4_3.toInt < (k4_3 + 1).toInt by omega) (show k4_3.toInt < 6 by omega)) ⟨lv_sub hl [1, 0, 2, 3] rfl, hP, hD, hS, ⟨by omega, by omega⟩, ⟨by decide, by decide⟩⟩
theorem dX12_hasSpot_0 : decode cX12_hasSpot 0 = .ok (.iconst 0, 1) := by decide +kernel
theorem dX12_hasSpot_1 : decode cX12_hasSpot 1 = .ok (.istore_n 2, 1) := by decide +kernel
theorem dX12_hasSpot_2 : decode cX12_hasSpot 2 = .ok (.iconst 0, 1) := by decide +kernel
theorem dX12_hasSpot_3 : decode cX12_hasSpot 3 = .ok (.istore_n 3, 1) := by decide +kernel
theorem dX12_hasSpot_4 : decode cX12_hasSpot 4 = .ok (.iload_n 3, 1) := by decide +kernel
theorem dX12_hasSpot_5 : decode cX12_hasSpot 5 = .ok (.aload_n 0, 1) := by decide +kernel
theorem dX12_hasSpot_6 : decode cX12_hasSpot 6 = .ok (.getfield 13, 3) := by decide +kernel
theorem dX12_hasSpot_9 : decode cX12_hasSpot 9 = .ok (.bipush 7, 2) := by decide +kernel
theorem dX12_hasSpot_11 : decode cX12_hasSpot 11 = .ok (.iaload, 1) := by decide +kernel
theorem dX12_hasSpot_12 : decode cX12_hasSpot 12 = .ok (.if_icmp .ge 35, 3) := by decide +kernel
theorem dX12_hasSpot_15 : decode cX12_hasSpot 15 = .ok (.iload_n 2, 1) := by decide +kernel
theorem dX12_hasSpot_16 : decode cX12_hasSpot 16 = .ok (.ifCond .ne 19, 3) := by decide +kernel
theorem dX12_hasSpot_19 : decode cX12_hasSpot 19 = .ok (.aload_n 0, 1) := by decide +kernel
theorem dX12_hasSpot_20 : decode cX12_hasSpot 20 = .ok (.getfield 13, 3) := by decide +kernel
theorem dX12_hasSpot_23 : decode cX12_hasSpot 23 = .ok (.sipush 270, 3) := by decide +kernel
theorem dX12_hasSpot_26 : decode cX12_hasSpot 26 = .ok (.iconst 3, 1) := by decide +kernel
theorem dX12_hasSpot_27 : decode cX12_hasSpot 27 = .ok (.iload_n 3, 1) := by decide +kernel
theorem dX12_hasSpot_28 : decode cX12_hasSpot 28 = .ok (.imul, 1) := by decide +kernel
theorem dX12_hasSpot_29 : decode cX12_hasSpot 29 = .ok (.iadd, 1) := by decide +kernel
theorem dX12_hasSpot_30 : decode cX12_hasSpot 30 = .ok (.iaload, 1) := by decide +kernel
theorem dX12_hasSpot_31 : decode cX12_hasSpot 31 = .ok (.iload_n 1, 1) := by decide +kernel
theorem dX12_hasSpot_32 : decode cX12_hasSpot 32 = .ok (.if_icmp .ne 7, 3) := by decide +kernel
theorem dX12_hasSpot_35 : decode cX12_hasSpot 35 = .ok (.iconst 1, 1) := by decide +kernel
theorem dX12_hasSpot_36 : decode cX12_hasSpot 36 = .ok (.goto 4, 3) := by decide +kernel
theorem dX12_hasSpot_39 : decode cX12_hasSpot 39 = .ok (.iconst 0, 1) := by decide +kernel
theorem dX12_hasSpot_40 : decode cX12_hasSpot 40 = .ok (.istore_n 2, 1) := by decide +kernel
theorem dX12_hasSpot_41 : decode cX12_hasSpot 41 = .ok (.iinc 3 1, 3) := by decide +kernel
theorem dX12_hasSpot_44 : decode cX12_hasSpot 44 = .ok (.goto (-40), 3) := by decide +kernel
theorem dX12_hasSpot_47 : decode cX12_hasSpot 47 = .ok (.iload_n 2, 1) := by decide +kernel
theorem dX12_hasSpot_48 : decode cX12_hasSpot 48 = .ok (.ireturn, 1) := by decide +kernel
set_option maxHeartbeats 4000000 in
set_option maxRecDepth 100000 in
theorem n_hasSpot (l : Launch) (G : g5_G) (b_o b_ro b_rf b_im b_ke b_tp b_nl b_op b_ar b_pi b_pa b_ws b_hw b_se b_re b_pt b_ip b_ah b_be b_me b_tr b_ld b_wn : Nat) (sz : Nat) (u_th : Int32) (u_sa : Int32) (u_fd : Int32) (u_td : Int32) (u_fr : Int32) (u_to : Int32) (u_so : Int32) (u_fa : Int32) (u_bd : Int32) (u_nc : Int32) (u_co : Int32) (u_le : Int32) (u_pd : Int32) (u_od : Int32) (u_la : Int32) (u_bk : Int32) (u_ce : Int32) (u_ho : Int32) (u_wy : Int32) (u_bt : Int32) (u_ps : Int32) (u_tg : Int32) (u_sn : Int32) (u_ic : Int32) (u_wd : Int32) (u_id : Int32) (p_1 : Int32) (u_wo : Int64) (u_va : Int64) (u_su : Int64) (u_st : Int64) (v_ro : Nat → Int32) (h_u_td : 0 ≤ u_td.toInt ∧ u_td.toInt ≤ 400) (h_u_fr : 0 ≤ u_fr.toInt ∧ u_fr.toInt ≤ 400) (h_u_to : 0 ≤ u_to.toInt ∧ u_to.toInt ≤ 400) (h_u_bd : 0 ≤ u_bd.toInt ∧ u_bd.toInt ≤ 1) (h_u_nc : 0 ≤ u_nc.toInt ∧ u_nc.toInt ≤ 12) (h_u_co : 0 ≤ u_co.toInt ∧ u_co.toInt ≤ 400) (h_u_pd : 0 ≤ u_pd.toInt ∧ u_pd.toInt ≤ 400) (h_u_la : 0 ≤ u_la.toInt ∧ u_la.toInt ≤ 4840) (h_u_bk : 0 ≤ u_bk.toInt ∧ u_bk.toInt ≤ 1) (h_u_ce : 0 ≤ u_ce.toInt ∧ u_ce.toInt ≤ 63) (h_u_ho : 0 ≤ u_ho.toInt ∧ u_ho.toInt ≤ 23) (h_u_wy : 0 ≤ u_wy.toInt ∧ u_wy.toInt ≤ 3) (h_u_bt : 0 ≤ u_bt.toInt ∧ u_bt.toInt ≤ 1000000) (h_u_ps : 0 ≤ u_ps.toInt ∧ u_ps.toInt ≤ 200) (h_u_ic : 0 ≤ u_ic.toInt ∧ u_ic.toInt ≤ 1) (h_u_id : 0 ≤ u_id.toInt ∧ u_id.toInt ≤ 1) (r_ro : MI v_ro) : Met l yX12_hasSpot (wsG yX12_hasSpot cX12_hasSpot 4 (some .boolean)) ({ frames := 0, cells := 0, slots := 0, locals := 0 }) (va_Pc [.ref b_o, .int p_1] (g5_P G [(b_o, .inr (12, [.int u_th, .int u_sa, .ref b_rf, .ref b_ro, .ref b_im, .ref b_ke, .int u_fd, .ref b_tp, .int u_td, .int u_fr, .int u_to, .int u_so, .long u_wo, .int u_fa, .int u_bd, .int u_nc, .ref b_nl, .int u_co, .ref b_op, .ref b_ar, .int u_le, .ref b_pi, .ref b_pa, .int u_pd, .int u_od, .ref b_ws, .ref b_hw, .int u_la, .ref b_se, .ref b_re, .int u_bk, .long u_va, .long u_su, .int u_ce, .int u_ho, .int u_wy, .int u_bt, .int u_ps, .ref b_pt, .int u_tg, .int u_sn, .ref b_ip, .int u_ic, .ref b_ah, .ref b_be, .ref b_me, .int u_wd, .ref b_tr, .ref b_ld, .long u_st, .ref b_wn, .int u_id])), (b_ro, .inl (G.2 0, 5740, .inl v_ro))] sz)) (va_Qi (fun (r : Int32) (u : va_W) => (∃ (o_r : Int32), (0 ≤ o_r.toInt ∧ o_r.toInt ≤ 1) ∧ (r = o_r) ∧ (u = [(b_o, .inr (12, [.int u_th, .int u_sa, .ref b_rf, .ref b_ro, .ref b_im, .ref b_ke, .int u_fd, .ref b_tp, .int u_td, .int u_fr, .int u_to, .int u_so, .long u_wo, .int u_fa, .int u_bd, .int u_nc, .ref b_nl, .int u_co, .ref b_op, .ref b_ar, .int u_le, .ref b_pi, .ref b_pa, .int u_pd, .int u_od, .ref b_ws, .ref b_hw, .int u_la, .ref b_se, .ref b_re, .int u_bk, .long u_va, .long u_su, .int u_ce, .int u_ho, .int u_wy, .int u_bt, .int u_ps, .ref b_pt, .int u_tg, .int u_sn, .ref b_ip, .int u_ic, .ref b_ah, .ref b_be, .ref b_me, .int u_wd, .ref b_tr, .ref b_ld, .long u_st, .ref b_wn, .int u_id])), (b_ro, .inl (G.2 0, 5740, .inl v_ro))]))) (g5_B G (va_A [(b_o, .inr (12, [.int u_th, .int u_sa, .ref b_rf, .ref b_ro, .ref b_im, .ref b_ke, .int u_fd, .ref b_tp, .int u_td, .int u_fr, .int u_to, .int u_so, .long u_wo, .int u_fa, .int u_bd, .int u_nc, .ref b_nl, .int u_co, .ref b_op, .ref b_ar, .int u_le, .ref b_pi, .ref b_pa, .int u_pd, .int u_od, .ref b_ws, .ref b_hw, .int u_la, .ref b_se, .ref b_re, .int u_bk, .long u_va, .long u_su, .int u_ce, .int u_ho, .int u_wy, .int u_bt, .int u_ps, .ref b_pt, .int u_tg, .int u_sn, .ref b_ip, .int u_ic, .ref b_ah, .ref b_be, .ref b_me, .int u_wd, .ref b_tr, .ref b_ld, .long u_st, .ref b_wn, .int u_id])), (b_ro, .inl (G.2 0, 5740, .inl v_ro))] sz)) (va_A [(b_o, .inr (12, [.int u_th, .int u_sa, .ref b_rf, .ref b_ro, .ref b_im, .ref b_ke, .int u_fd, .ref b_tp, .int u_td, .int u_fr, .int u_to, .int u_so, .long u_wo, .int u_fa, .int u_bd, .int u_nc, .ref b_nl, .int u_co, .ref b_op, .ref b_ar, .int u_le, .ref b_pi, .ref b_pa, .int u_pd, .int u_od, .ref b_ws, .ref b_hw, .int u_la, .ref b_se, .ref b_re, .int u_bk, .long u_va, .long u_su, .int u_ce, .int u_ho, .int u_wy, .int u_bt, .int u_ps, .ref b_pt, .int u_tg, .int u_sn, .ref b_ip, .int u_ic, .ref b_ah, .ref b_be, .ref b_me, .int u_wd, .ref b_tr, .ref b_ld, .long u_st, .ref b_wn, .int u_id])), (b_ro, .inl (G.2 0, 5740, .inl v_ro))] sz)) 0 0 (va_A [(b_o, .inr (12, [.int u_th, .int u_sa, .ref b_rf, .ref b_ro, .ref b_im, .ref b_ke, .int u_fd, .ref b_tp, .int u_td, .int u_fr, .int u_to, .int u_so, .long u_wo, .int u_fa, .int u_bd, .int u_nc, .ref b_nl, .int u_co, .ref b_op, .ref b_ar, .int u_le, .ref b_pi, .ref b_pa, .int u_pd, .int u_od, .ref b_ws, .ref b_hw, .int u_la, .ref b_se, .ref b_re, .int u_bk, .long u_va, .long u_su, .int u_ce, .int u_ho, .int u_wy, .int u_bt, .int u_ps, .ref b_pt, .int u_tg, .int u_sn, .ref b_ip, .int u_ic, .ref b_ah, .ref b_be, .ref b_me, .int u_wd, .ref b_tr, .ref b_ld, .long u_st, .ref b_wn, .int u_id])), (b_ro, .inl (G.2 0, 5740, .inl v_ro))] sz) := by
  refine Met.ofW (cc := cX12_hasSpot) (maxL := 4) (ret := (some .boolean)) (by decide) rfl ?_
  intro p e s m args below meth c s₁ B hml hv
  obtain ⟨rfl, hsz, hP, hK, hD0, hN, hT⟩ := hv
  have hx := B.exec
  have hb := B.bytes
  have hr := B.returns
  have hts : ∀ w ∈ tblG, w.before _ s = true := fun w h => atoms_spec (ws := (wsG yX12_hasSpot cX12_hasSpot 4 (some .boolean))) B.pre w (List.mem_cons_of_mem _ h)
  have hown : s.vm.findClass RX12 = some m.cls := findClass_of_methodNamed B.named
  have hlocks := B.notSynchronized
  subst hsz
  have hD := hD0.self (sz := s.heap.size)
  generalize hAe : va_A [(b_o, .inr (12, [.int u_th, .int u_sa, .ref b_rf, .ref b_ro, .ref b_im, .ref b_ke, .int u_fd, .ref b_tp, .int u_td, .int u_fr, .int u_to, .int u_so, .long u_wo, .int u_fa, .int u_bd, .int u_nc, .ref b_nl, .int u_co, .ref b_op, .ref b_ar, .int u_le, .ref b_pi, .ref b_pa, .int u_pd, .int u_od, .ref b_ws, .ref b_hw, .int u_la, .ref b_se, .ref b_re, .int u_bk, .long u_va, .long u_su, .int u_ce, .int u_ho, .int u_wy, .int u_bt, .int u_ps, .ref b_pt, .int u_tg, .int u_sn, .ref b_ip, .int u_ic, .ref b_ah, .ref b_be, .ref b_me, .int u_wd, .ref b_tr, .ref b_ld, .long u_st, .ref b_wn, .int u_id])), (b_ro, .inl (G.2 0, 5740, .inl v_ro))] s.heap.size = A at hD hT ⊢
  have hA : ∀ q : Nat, s.heap.size ≤ q → A q := fun q h => by rw [← hAe]; exact Or.inr h
  have hS : va_S A s.heap s.heap [] := va_S.rf
  have hP : va_P G.1 vwCl [(b_o, .inr (12, [.int u_th, .int u_sa, .ref b_rf, .ref b_ro, .ref b_im, .ref b_ke, .int u_fd, .ref b_tp, .int u_td, .int u_fr, .int u_to, .int u_so, .long u_wo, .int u_fa, .int u_bd, .int u_nc, .ref b_nl, .int u_co, .ref b_op, .ref b_ar, .int u_le, .ref b_pi, .ref b_pa, .int u_pd, .int u_od, .ref b_ws, .ref b_hw, .int u_la, .ref b_se, .ref b_re, .int u_bk, .long u_va, .long u_su, .int u_ce, .int u_ho, .int u_wy, .int u_bt, .int u_ps, .ref b_pt, .int u_tg, .int u_sn, .ref b_ip, .int u_ic, .ref b_ah, .ref b_be, .ref b_me, .int u_wd, .ref b_tr, .ref b_ld, .long u_st, .ref b_wn, .int u_id])), (b_ro, .inl (G.2 0, 5740, .inl v_ro))] s.heap := hP
  have hl := lv_entry ([.ref b_o, .int p_1]) (n := 4) (Nat.le_of_ble_eq_true rfl)
  rw [lg_entry_eq]
  generalize (lg_sl ([.ref b_o, .int p_1]) ++ List.replicate (4 - (lg_sl ([.ref b_o, .int p_1])).length) Slot.unset).toArray = ls at hl ⊢
  have hl : lv_has ls 4 [(0, .ref b_o), (1, .int p_1)] := hl
  refine lv_iconst (v := 0) hx hb dX12_hasSpot_0 (by decide) ?_
  refine lv_istore_n (lv' := [(2, .int 0), (0, .ref b_o), (1, .int p_1)]) hx hb dX12_hasSpot_1 rfl hl (by decide) rfl (fun ls hl => ?_)
  refine lv_iconst (v := 0) hx hb dX12_hasSpot_2 (by decide) ?_
  refine lv_istore_n (lv' := [(3, .int 0), (2, .int 0), (0, .ref b_o), (1, .int p_1)]) hx hb dX12_hasSpot_3 rfl hl (by decide) rfl (fun ls hl => ?_)
  refine g5_loop (α := (Int32) × (Int32)) (fun (q : (Int32) × (Int32)) (ls : Array Slot) (H : Heap) (locs : List Loc) => match q with | (k4_3, k4_2) => lv_has ls 4 [(2, .int k4_2), (3, .int k4_3), (0, .ref b_o), (1, .int p_1)] ∧ va_P G.1 vwCl [(b_o, .inr (12, [.int u_th, .int u_sa, .ref b_rf, .ref b_ro, .ref b_im, .ref b_ke, .int u_fd, .ref b_tp, .int u_td, .int u_fr, .int u_to, .int u_so, .long u_wo, .int u_fa, .int u_bd, .int u_nc, .ref b_nl, .int u_co, .ref b_op, .ref b_ar, .int u_le, .ref b_pi, .ref b_pa, .int u_pd, .int u_od, .ref b_ws, .ref b_hw, .int u_la, .ref b_se, .ref b_re, .int u_bk, .long u_va, .long u_su, .int u_ce, .int u_ho, .int u_wy, .int u_bt, .int u_ps, .ref b_pt, .int u_tg, .int u_sn, .ref b_ip, .int u_ic, .ref b_ah, .ref b_be, .ref b_me, .int u_wd, .ref b_tr, .ref b_ld, .long u_st, .ref b_wn, .int u_id])), (b_ro, .inl (G.2 0, 5740, .inl v_ro))] H ∧ va_D A [(b_o, .inr (12, [.int u_th, .int u_sa, .ref b_rf, .ref b_ro, .ref b_im, .ref b_ke, .int u_fd, .ref b_tp, .int u_td, .int u_fr, .int u_to, .int u_so, .long u_wo, .int u_fa, .int u_bd, .int u_nc, .ref b_nl, .int u_co, .ref b_op, .ref b_ar, .int u_le, .ref b_pi, .ref b_pa, .int u_pd, .int u_od, .ref b_ws, .ref b_hw, .int u_la, .ref b_se, .ref b_re, .int u_bk, .long u_va, .long u_su, .int u_ce, .int u_ho, .int u_wy, .int u_bt, .int u_ps, .ref b_pt, .int u_tg, .int u_sn, .ref b_ip, .int u_ic, .ref b_ah, .ref b_be, .ref b_me, .int u_wd, .ref b_tr, .ref b_ld, .long u_st, .ref b_wn, .int u_id])), (b_ro, .inl (G.2 0, 5740, .inl v_ro))] ∧ va_S A s.heap H locs ∧ (0 ≤ k4_3.toInt ∧ k4_3.toInt ≤ 8) ∧ (0 ≤ k4_2.toInt ∧ k4_2.toInt ≤ 1)) (fun (q : (Int32) × (Int32)) => match q with | (k4_3, k4_2) => Int.toNat (8 - k4_3.toInt)) (0, 0) ⟨lv_sub hl [1, 0, 2, 3] rfl, hP, hD, hS, ⟨by decide, by decide⟩, ⟨by decide, by decide⟩⟩ ?_
  rintro ⟨k4_3, k4_2⟩ ls H locs ⟨hl, hP, hD, hS, i_1, i_2⟩ ih_4_3
  have hl : lv_has ls 4 [(2, .int k4_2), (3, .int k4_3), (0, .ref b_o), (1, .int p_1)] := hl
  have i_1 : 0 ≤ k4_3.toInt ∧ k4_3.toInt ≤ 8 := i_1
  have i_2 : 0 ≤ k4_2.toInt ∧ k4_2.toInt ≤ 1 := i_2
  have hP : va_P G.1 vwCl [(b_o, .inr (12, [.int u_th, .int u_sa, .ref b_rf, .ref b_ro, .ref b_im, .ref b_ke, .int u_fd, .ref b_tp, .int u_td, .int u_fr, .int u_to, .int u_so, .long u_wo, .int u_fa, .int u_bd, .int u_nc, .ref b_nl, .int u_co, .ref b_op, .ref b_ar, .int u_le, .ref b_pi, .ref b_pa, .int u_pd, .int u_od, .ref b_ws, .ref b_hw, .int u_la, .ref b_se, .ref b_re, .int u_bk, .long u_va, .long u_su, .int u_ce, .int u_ho, .int u_wy, .int u_bt, .int u_ps, .ref b_pt, .int u_tg, .int u_sn, .ref b_ip, .int u_ic, .ref b_ah, .ref b_be, .ref b_me, .int u_wd, .ref b_tr, .ref b_ld, .long u_st, .ref b_wn, .int u_id])), (b_ro, .inl (G.2 0, 5740, .inl v_ro))] H := hP
  have hD : va_D A [(b_o, .inr (12, [.int u_th, .int u_sa, .ref b_rf, .ref b_ro, .ref b_im, .ref b_ke, .int u_fd, .ref b_tp, .int u_td, .int u_fr, .int u_to, .int u_so, .long u_wo, .int u_fa, .int u_bd, .int u_nc, .ref b_nl, .int u_co, .ref b_op, .ref b_ar, .int u_le, .ref b_pi, .ref b_pa, .int u_pd, .int u_od, .ref b_ws, .ref b_hw, .int u_la, .ref b_se, .ref b_re, .int u_bk, .long u_va, .long u_su, .int u_ce, .int u_ho, .int u_wy, .int u_bt, .int u_ps, .ref b_pt, .int u_tg, .int u_sn, .ref b_ip, .int u_ic, .ref b_ah, .ref b_be, .ref b_me, .int u_wd, .ref b_tr, .ref b_ld, .long u_st, .ref b_wn, .int u_id])), (b_ro, .inl (G.2 0, 5740, .inl v_ro))] := hD
  refine lv_iload_n hx hb dX12_hasSpot_4 rfl (lv_at hl 1 rfl) ?_
  refine lv_aload_n hx hb dX12_hasSpot_5 rfl (lv_at hl 2 rfl) ?_
  refine va_get (D := G.1) (ci := 12) (v := .ref b_ro) (C := RX12) (T := TX12) (N := 52) hx hb hts inG_X12 hown hK hP 0 rfl rfl 3 (by decide) (hts _ fl_X12_13) (fun _ h9 => h9) rfl dX12_hasSpot_6 ?_
  refine lv_bipush (v := 7) hx hb dX12_hasSpot_9 (by decide) ?_
  refine va_iald hx hb hK hP 1 0 rfl rfl (i := 7) (by unfold vp_in; decide) dX12_hasSpot_11 ?_
  refine g5_ti (v := (v_ro 7)) rfl ?_
  have hr_4 : 0 ≤ (v_ro 7).toInt ∧ (v_ro 7).toInt ≤ 8 := mi_7 r_ro
  refine lv_icmp_ge (tgt := 47) hx hb dX12_hasSpot_12 (by decide) (fun c_5 => ?_) (fun c_5 => ?_)
  ·
    have i_5 : k4_3.toInt ≥ (v_ro 7).toInt := by have z := g5_ge (a := k4_3.toInt) (b := (v_ro 7).toInt) (by rfl) (by rfl) c_5; omega
    refine lv_iload_n hx hb dX12_hasSpot_47 rfl (lv_at hl 0 rfl) ?_
    exact W.zret (v := k4_2) hx hb hr (g_nb (by omega) (by omega)) (fun t ht hW => ⟨⟨k4_2, [(b_o, .inr (12, [.int u_th, .int u_sa, .ref b_rf, .ref b_ro, .ref b_im, .ref b_ke, .int u_fd, .ref b_tp, .int u_td, .int u_fr, .int u_to, .int u_so, .long u_wo, .int u_fa, .int u_bd, .int u_nc, .ref b_nl, .int u_co, .ref b_op, .ref b_ar, .int u_le, .ref b_pi, .ref b_pa, .int u_pd, .int u_od, .ref b_ws, .ref b_hw, .int u_la, .ref b_se, .ref b_re, .int u_bk, .long u_va, .long u_su, .int u_ce, .int u_ho, .int u_wy, .int u_bt, .int u_ps, .ref b_pt, .int u_tg, .int u_sn, .ref b_ip, .int u_ic, .ref b_ah, .ref b_be, .ref b_me, .int u_wd, .ref b_tr, .ref b_ld, .long u_st, .ref b_wn, .int u_id])), (b_ro, .inl (G.2 0, 5740, .inl v_ro))], rfl, ⟨k4_2, ⟨by omega, by omega⟩, rfl, rfl⟩, by rw [ht]; exact hP.sub [0, 1] rfl, hD.sub [0, 1] (by decide) rfl⟩, hS.F ht⟩) hS.2.2 dX12_hasSpot_48
  ·
    have i_5 : k4_3.toInt < (v_ro 7).toInt := by have z := g5_geN (a := k4_3.toInt) (b := (v_ro 7).toInt) (by rfl) (by rfl) c_5; omega
    refine lv_iload_n hx hb dX12_hasSpot_15 rfl (lv_at hl 0 rfl) ?_
    refine lv_if_ne (tgt := 35) hx hb dX12_hasSpot_16 (by decide) (fun c_6 => ?_) (fun c_6 => ?_)
    ·
      have n_6 : gNe (k4_2.toInt) (0) := by have z := g5_ne (a := k4_2.toInt) (b := 0) (by rfl) (by decide) c_6; unfold gNe; omega
      have i_6 : k4_2.toInt ≥ 1 := by have z := g5_ne (a := k4_2.toInt) (b := 0) (by rfl) (by decide) c_6; omega
      refine lv_iconst (v := 1) hx hb dX12_hasSpot_35 (by decide) ?_
      refine lv_goto (tgt := 40) hx hb dX12_hasSpot_36 (by decide) ?_
      refine lv_istore_n (lv' := [(2, .int 1), (3, .int k4_3), (0, .ref b_o), (1, .int p_1)]) hx hb dX12_hasSpot_40 rfl hl (by decide) rfl (fun ls hl => ?_)
      refine lv_iinc (v := (k4_3 + 1)) (lv' := [(3, .int (k4_3 + 1)), (2, .int 1), (0, .ref b_o), (1, .int p_1)]) hx hb dX12_hasSpot_41 hl (k := 1) rfl rfl (by decide) rfl (fun ls hl => ?_)
      have t_7 : (k4_3 + 1).toInt = k4_3.toInt + 1 := g5_iadd (a := k4_3.toInt) (b := 1) rfl (by decide) (by omega) (by omega)
      refine lv_goto (tgt := 4) hx hb dX12_hasSpot_44 (by decide) ?_
      exact ih_4_3 ((k4_3 + 1), 1) ls H locs (show Int.toNat (8 - (k4_3 + 1).toInt) < Int.toNat (8 - k4_3.toInt) from g_up (show k4_3.toInt < (k4_3 + 1).toInt by omega) (show k4_3.toInt < 8 by omega)) ⟨lv_sub hl [1, 0, 2, 3] rfl, hP, hD, hS, ⟨by omega, by omega⟩, ⟨by decide, by decide⟩⟩
    ·
      have i_6 : k4_2.toInt = 0 := by have z := g5_neN (a := k4_2.toInt) (b := 0) (by rfl) (by decide) c_6; omega
      refine lv_aload_n hx hb dX12_hasSpot_19 rfl (lv_at hl 2 rfl) ?_
      refine va_get (D := G.1) (ci := 12) (v := .ref b_ro) (C := RX12) (T := TX12) (N := 52) hx hb hts inG_X12 hown hK hP 0 rfl rfl 3 (by decide) (hts _ fl_X12_13) (fun _ h9 => h9) rfl dX12_hasSpot_20 ?_
      refine lv_sipush (v := 270) hx hb dX12_hasSpot_23 (by decide) ?_
      refine lv_iconst (v := 3) hx hb dX12_hasSpot_26 (by decide) ?_
      refine lv_iload_n hx hb dX12_hasSpot_27 rfl (lv_at hl 1 rfl) ?_
      refine lv_imul hx hb dX12_hasSpot_28 ?_
      have t_8 : (3 * k4_3).toInt = 3 * k4_3.toInt := g5_imul (a := 3) (b := k4_3.toInt) (by decide) (by rfl) (by omega) (by omega)
      refine lv_iadd hx hb dX12_hasSpot_29 ?_
      have t_9 : (270 + (3 * k4_3)).toInt = 270 + (3 * k4_3).toInt := g5_iadd (a := 270) (b := (3 * k4_3).toInt) (by decide) (by rfl) (by omega) (by omega)
      refine va_iald hx hb hK hP 1 0 rfl rfl (i := (270 + (3 * k4_3))) (vp_in_iff.mpr ⟨by omega, by omega⟩) dX12_hasSpot_30 ?_
      refine lv_iload_n hx hb dX12_hasSpot_31 rfl (lv_at hl 3 rfl) ?_
      refine lv_icmp_ne (tgt := 39) hx hb dX12_hasSpot_32 (by decide) (fun c_10 => ?_) (fun c_10 => ?_)
      ·
        have n_10 : gNe ((v_ro (270 + (3 * k4_3)).toNatClampNeg).toInt) (p_1.toInt) := by have z := g5_ne (a := (v_ro (270 + (3 * k4_3)).toNatClampNeg).toInt) (b := p_1.toInt) (by rfl) (by rfl) c_10; unfold gNe; omega
        refine lv_iconst (v := 0) hx hb dX12_hasSpot_39 (by decide) ?_
        refine lv_istore_n (lv' := [(2, .int 0), (3, .int k4_3), (0, .ref b_o), (1, .int p_1)]) hx hb dX12_hasSpot_40 rfl hl (by decide) rfl (fun ls hl => ?_)
        refine lv_iinc (v := (k4_3 + 1)) (lv' := [(3, .int (k4_3 + 1)), (2, .int 0), (0, .ref b_o), (1, .int p_1)]) hx hb dX12_hasSpot_41 hl (k := 1) rfl rfl (by decide) rfl (fun ls hl => ?_)
        have t_11 : (k4_3 + 1).toInt = k4_3.toInt + 1 := g5_iadd (a := k4_3.toInt) (b := 1) rfl (by decide) (by omega) (by omega)
        refine lv_goto (tgt := 4) hx hb dX12_hasSpot_44 (by decide) ?_
        exact ih_4_3 ((k4_3 + 1), 0) ls H locs (show Int.toNat (8 - (k4_3 + 1).toInt) < Int.toNat (8 - k4_3.toInt) from g_up (show k4_3.toInt < (k4_3 + 1).toInt by omega) (show k4_3.toInt < 8 by omega)) ⟨lv_sub hl [1, 0, 2, 3] rfl, hP, hD, hS, ⟨by omega, by omega⟩, ⟨by decide, by decide⟩⟩
      ·
        have i_10 : (v_ro (270 + (3 * k4_3)).toNatClampNeg).toInt = p_1.toInt := by have z := g5_neN (a := (v_ro (270 + (3 * k4_3)).toNatClampNeg).toInt) (b := p_1.toInt) (by rfl) (by rfl) c_10; omega
        refine lv_iconst (v := 1) hx hb dX12_hasSpot_35 (by decide) ?_
        refine lv_goto (tgt := 40) hx hb dX12_hasSpot_36 (by decide) ?_
        refine lv_istore_n (lv' := [(2, .int 1), (3, .int k4_3), (0, .ref b_o), (1, .int p_1)]) hx hb dX12_hasSpot_40 rfl hl (by decide) rfl (fun ls hl => ?_)
        refine lv_iinc (v := (k4_3 + 1)) (lv' := [(3, .int (k4_3 + 1)), (2, .int 1), (0, .ref b_o), (1, .int p_1)]) hx hb dX12_hasSpot_41 hl (k := 1) rfl rfl (by decide) rfl (fun ls hl => ?_)
        have t_12 : (k4_3 + 1).toInt = k4_3.toInt + 1 := g5_iadd (a := k4_3.toInt) (b := 1) rfl (by decide) (by omega) (by omega)
        refine lv_goto (tgt := 4) hx hb dX12_hasSpot_44 (by decide) ?_
        exact ih_4_3 ((k4_3 + 1), 1) ls H locs (show Int.toNat (8 - (k4_3 + 1).toInt) < Int.toNat (8 - k4_3.toInt) from g_up (show k4_3.toInt < (k4_3 + 1).toInt by omega) (show k4_3.toInt < 8 by omega)) ⟨lv_sub hl [1, 0, 2, 3] rfl, hP, hD, hS, ⟨by omega, by omega⟩, ⟨by decide, by decide⟩⟩
theorem dX12_hasBody_0 : decode cX12_hasBody 0 = .ok (.iconst 0, 1) := by decide +kernel
theorem dX12_hasBody_1 : decode cX12_hasBody 1 = .ok (.istore_n 2, 1) := by decide +kernel
theorem dX12_hasBody_2 : decode cX12_hasBody 2 = .ok (.iconst 0, 1) := by decide +kernel
theorem dX12_hasBody_3 : decode cX12_hasBody 3 = .ok (.istore_n 3, 1) := by decide +kernel
theorem dX12_hasBody_4 : decode cX12_hasBody 4 = .ok (.iload_n 3, 1) := by decide +kernel
theorem dX12_hasBody_5 : decode cX12_hasBody 5 = .ok (.bipush 24, 2) := by decide +kernel
theorem dX12_hasBody_7 : decode cX12_hasBody 7 = .ok (.aload_n 0, 1) := by decide +kernel
theorem dX12_hasBody_8 : decode cX12_hasBody 8 = .ok (.getfield 13, 3) := by decide +kernel
theorem dX12_hasBody_11 : decode cX12_hasBody 11 = .ok (.iconst 1, 1) := by decide +kernel
theorem dX12_hasBody_12 : decode cX12_hasBody 12 = .ok (.iaload, 1) := by decide +kernel
theorem dX12_hasBody_13 : decode cX12_hasBody 13 = .ok (.imul, 1) := by decide +kernel
theorem dX12_hasBody_14 : decode cX12_hasBody 14 = .ok (.if_icmp .ge 32, 3) := by decide +kernel
theorem dX12_hasBody_17 : decode cX12_hasBody 17 = .ok (.iload_n 2, 1) := by decide +kernel
theorem dX12_hasBody_18 : decode cX12_hasBody 18 = .ok (.ifCond .ne 16, 3) := by decide +kernel
theorem dX12_hasBody_21 : decode cX12_hasBody 21 = .ok (.aload_n 0, 1) := by decide +kernel
theorem dX12_hasBody_22 : decode cX12_hasBody 22 = .ok (.getfield 13, 3) := by decide +kernel
theorem dX12_hasBody_25 : decode cX12_hasBody 25 = .ok (.bipush 110, 2) := by decide +kernel
theorem dX12_hasBody_27 : decode cX12_hasBody 27 = .ok (.iload_n 3, 1) := by decide +kernel
theorem dX12_hasBody_28 : decode cX12_hasBody 28 = .ok (.iadd, 1) := by decide +kernel
theorem dX12_hasBody_29 : decode cX12_hasBody 29 = .ok (.iaload, 1) := by decide +kernel
theorem dX12_hasBody_30 : decode cX12_hasBody 30 = .ok (.iload_n 1, 1) := by decide +kernel
theorem dX12_hasBody_31 : decode cX12_hasBody 31 = .ok (.if_icmp .ne 7, 3) := by decide +kernel
theorem dX12_hasBody_34 : decode cX12_hasBody 34 = .ok (.iconst 1, 1) := by decide +kernel
theorem dX12_hasBody_35 : decode cX12_hasBody 35 = .ok (.goto 4, 3) := by decide +kernel
theorem dX12_hasBody_38 : decode cX12_hasBody 38 = .ok (.iconst 0, 1) := by decide +kernel
theorem dX12_hasBody_39 : decode cX12_hasBody 39 = .ok (.istore_n 2, 1) := by decide +kernel
theorem dX12_hasBody_40 : decode cX12_hasBody 40 = .ok (.iinc 3 1, 3) := by decide +kernel
theorem dX12_hasBody_43 : decode cX12_hasBody 43 = .ok (.goto (-39), 3) := by decide +kernel
theorem dX12_hasBody_46 : decode cX12_hasBody 46 = .ok (.iload_n 2, 1) := by decide +kernel
theorem dX12_hasBody_47 : decode cX12_hasBody 47 = .ok (.ireturn, 1) := by decide +kernel
set_option maxHeartbeats 4000000 in
set_option maxRecDepth 100000 in
theorem n_hasBody (l : Launch) (G : g5_G) (b_o b_ro b_rf b_im b_ke b_tp b_nl b_op b_ar b_pi b_pa b_ws b_hw b_se b_re b_pt b_ip b_ah b_be b_me b_tr b_ld b_wn : Nat) (sz : Nat) (u_th : Int32) (u_sa : Int32) (u_fd : Int32) (u_td : Int32) (u_fr : Int32) (u_to : Int32) (u_so : Int32) (u_fa : Int32) (u_bd : Int32) (u_nc : Int32) (u_co : Int32) (u_le : Int32) (u_pd : Int32) (u_od : Int32) (u_la : Int32) (u_bk : Int32) (u_ce : Int32) (u_ho : Int32) (u_wy : Int32) (u_bt : Int32) (u_ps : Int32) (u_tg : Int32) (u_sn : Int32) (u_ic : Int32) (u_wd : Int32) (u_id : Int32) (p_1 : Int32) (u_wo : Int64) (u_va : Int64) (u_su : Int64) (u_st : Int64) (v_ro : Nat → Int32) (h_u_td : 0 ≤ u_td.toInt ∧ u_td.toInt ≤ 400) (h_u_fr : 0 ≤ u_fr.toInt ∧ u_fr.toInt ≤ 400) (h_u_to : 0 ≤ u_to.toInt ∧ u_to.toInt ≤ 400) (h_u_bd : 0 ≤ u_bd.toInt ∧ u_bd.toInt ≤ 1) (h_u_nc : 0 ≤ u_nc.toInt ∧ u_nc.toInt ≤ 12) (h_u_co : 0 ≤ u_co.toInt ∧ u_co.toInt ≤ 400) (h_u_pd : 0 ≤ u_pd.toInt ∧ u_pd.toInt ≤ 400) (h_u_la : 0 ≤ u_la.toInt ∧ u_la.toInt ≤ 4840) (h_u_bk : 0 ≤ u_bk.toInt ∧ u_bk.toInt ≤ 1) (h_u_ce : 0 ≤ u_ce.toInt ∧ u_ce.toInt ≤ 63) (h_u_ho : 0 ≤ u_ho.toInt ∧ u_ho.toInt ≤ 23) (h_u_wy : 0 ≤ u_wy.toInt ∧ u_wy.toInt ≤ 3) (h_u_bt : 0 ≤ u_bt.toInt ∧ u_bt.toInt ≤ 1000000) (h_u_ps : 0 ≤ u_ps.toInt ∧ u_ps.toInt ≤ 200) (h_u_ic : 0 ≤ u_ic.toInt ∧ u_ic.toInt ≤ 1) (h_u_id : 0 ≤ u_id.toInt ∧ u_id.toInt ≤ 1) (r_ro : MI v_ro) : Met l yX12_hasBody (wsG yX12_hasBody cX12_hasBody 4 (some .boolean)) ({ frames := 0, cells := 0, slots := 0, locals := 0 }) (va_Pc [.ref b_o, .int p_1] (g5_P G [(b_o, .inr (12, [.int u_th, .int u_sa, .ref b_rf, .ref b_ro, .ref b_im, .ref b_ke, .int u_fd, .ref b_tp, .int u_td, .int u_fr, .int u_to, .int u_so, .long u_wo, .int u_fa, .int u_bd, .int u_nc, .ref b_nl, .int u_co, .ref b_op, .ref b_ar, .int u_le, .ref b_pi, .ref b_pa, .int u_pd, .int u_od, .ref b_ws, .ref b_hw, .int u_la, .ref b_se, .ref b_re, .int u_bk, .long u_va, .long u_su, .int u_ce, .int u_ho, .int u_wy, .int u_bt, .int u_ps, .ref b_pt, .int u_tg, .int u_sn, .ref b_ip, .int u_ic, .ref b_ah, .ref b_be, .ref b_me, .int u_wd, .ref b_tr, .ref b_ld, .long u_st, .ref b_wn, .int u_id])), (b_ro, .inl (G.2 0, 5740, .inl v_ro))] sz)) (va_Qi (fun (r : Int32) (u : va_W) => (∃ (o_r : Int32), (0 ≤ o_r.toInt ∧ o_r.toInt ≤ 1) ∧ (r = o_r) ∧ (u = [(b_o, .inr (12, [.int u_th, .int u_sa, .ref b_rf, .ref b_ro, .ref b_im, .ref b_ke, .int u_fd, .ref b_tp, .int u_td, .int u_fr, .int u_to, .int u_so, .long u_wo, .int u_fa, .int u_bd, .int u_nc, .ref b_nl, .int u_co, .ref b_op, .ref b_ar, .int u_le, .ref b_pi, .ref b_pa, .int u_pd, .int u_od, .ref b_ws, .ref b_hw, .int u_la, .ref b_se, .ref b_re, .int u_bk, .long u_va, .long u_su, .int u_ce, .int u_ho, .int u_wy, .int u_bt, .int u_ps, .ref b_pt, .int u_tg, .int u_sn, .ref b_ip, .int u_ic, .ref b_ah, .ref b_be, .ref b_me, .int u_wd, .ref b_tr, .ref b_ld, .long u_st, .ref b_wn, .int u_id])), (b_ro, .inl (G.2 0, 5740, .inl v_ro))]))) (g5_B G (va_A [(b_o, .inr (12, [.int u_th, .int u_sa, .ref b_rf, .ref b_ro, .ref b_im, .ref b_ke, .int u_fd, .ref b_tp, .int u_td, .int u_fr, .int u_to, .int u_so, .long u_wo, .int u_fa, .int u_bd, .int u_nc, .ref b_nl, .int u_co, .ref b_op, .ref b_ar, .int u_le, .ref b_pi, .ref b_pa, .int u_pd, .int u_od, .ref b_ws, .ref b_hw, .int u_la, .ref b_se, .ref b_re, .int u_bk, .long u_va, .long u_su, .int u_ce, .int u_ho, .int u_wy, .int u_bt, .int u_ps, .ref b_pt, .int u_tg, .int u_sn, .ref b_ip, .int u_ic, .ref b_ah, .ref b_be, .ref b_me, .int u_wd, .ref b_tr, .ref b_ld, .long u_st, .ref b_wn, .int u_id])), (b_ro, .inl (G.2 0, 5740, .inl v_ro))] sz)) (va_A [(b_o, .inr (12, [.int u_th, .int u_sa, .ref b_rf, .ref b_ro, .ref b_im, .ref b_ke, .int u_fd, .ref b_tp, .int u_td, .int u_fr, .int u_to, .int u_so, .long u_wo, .int u_fa, .int u_bd, .int u_nc, .ref b_nl, .int u_co, .ref b_op, .ref b_ar, .int u_le, .ref b_pi, .ref b_pa, .int u_pd, .int u_od, .ref b_ws, .ref b_hw, .int u_la, .ref b_se, .ref b_re, .int u_bk, .long u_va, .long u_su, .int u_ce, .int u_ho, .int u_wy, .int u_bt, .int u_ps, .ref b_pt, .int u_tg, .int u_sn, .ref b_ip, .int u_ic, .ref b_ah, .ref b_be, .ref b_me, .int u_wd, .ref b_tr, .ref b_ld, .long u_st, .ref b_wn, .int u_id])), (b_ro, .inl (G.2 0, 5740, .inl v_ro))] sz)) 0 0 (va_A [(b_o, .inr (12, [.int u_th, .int u_sa, .ref b_rf, .ref b_ro, .ref b_im, .ref b_ke, .int u_fd, .ref b_tp, .int u_td, .int u_fr, .int u_to, .int u_so, .long u_wo, .int u_fa, .int u_bd, .int u_nc, .ref b_nl, .int u_co, .ref b_op, .ref b_ar, .int u_le, .ref b_pi, .ref b_pa, .int u_pd, .int u_od, .ref b_ws, .ref b_hw, .int u_la, .ref b_se, .ref b_re, .int u_bk, .long u_va, .long u_su, .int u_ce, .int u_ho, .int u_wy, .int u_bt, .int u_ps, .ref b_pt, .int u_tg, .int u_sn, .ref b_ip, .int u_ic, .ref b_ah, .ref b_be, .ref b_me, .int u_wd, .ref b_tr, .ref b_ld, .long u_st, .ref b_wn, .int u_id])), (b_ro, .inl (G.2 0, 5740, .inl v_ro))] sz) := by
  refine Met.ofW (cc := cX12_hasBody) (maxL := 4) (ret := (some .boolean)) (by decide) rfl ?_
  intro p e s m args below meth c s₁ B hml hv
  obtain ⟨rfl, hsz, hP, hK, hD0, hN, hT⟩ := hv
  have hx := B.exec
  have hb := B.bytes
  have hr := B.returns
  have hts : ∀ w ∈ tblG, w.before _ s = true := fun w h => atoms_spec (ws := (wsG yX12_hasBody cX12_hasBody 4 (some .boolean))) B.pre w (List.mem_cons_of_mem _ h)
  have hown : s.vm.findClass RX12 = some m.cls := findClass_of_methodNamed B.named
  have hlocks := B.notSynchronized
  subst hsz
  have hD := hD0.self (sz := s.heap.size)
  generalize hAe : va_A [(b_o, .inr (12, [.int u_th, .int u_sa, .ref b_rf, .ref b_ro, .ref b_im, .ref b_ke, .int u_fd, .ref b_tp, .int u_td, .int u_fr, .int u_to, .int u_so, .long u_wo, .int u_fa, .int u_bd, .int u_nc, .ref b_nl, .int u_co, .ref b_op, .ref b_ar, .int u_le, .ref b_pi, .ref b_pa, .int u_pd, .int u_od, .ref b_ws, .ref b_hw, .int u_la, .ref b_se, .ref b_re, .int u_bk, .long u_va, .long u_su, .int u_ce, .int u_ho, .int u_wy, .int u_bt, .int u_ps, .ref b_pt, .int u_tg, .int u_sn, .ref b_ip, .int u_ic, .ref b_ah, .ref b_be, .ref b_me, .int u_wd, .ref b_tr, .ref b_ld, .long u_st, .ref b_wn, .int u_id])), (b_ro, .inl (G.2 0, 5740, .inl v_ro))] s.heap.size = A at hD hT ⊢
  have hA : ∀ q : Nat, s.heap.size ≤ q → A q := fun q h => by rw [← hAe]; exact Or.inr h
  have hS : va_S A s.heap s.heap [] := va_S.rf
  have hP : va_P G.1 vwCl [(b_o, .inr (12, [.int u_th, .int u_sa, .ref b_rf, .ref b_ro, .ref b_im, .ref b_ke, .int u_fd, .ref b_tp, .int u_td, .int u_fr, .int u_to, .int u_so, .long u_wo, .int u_fa, .int u_bd, .int u_nc, .ref b_nl, .int u_co, .ref b_op, .ref b_ar, .int u_le, .ref b_pi, .ref b_pa, .int u_pd, .int u_od, .ref b_ws, .ref b_hw, .int u_la, .ref b_se, .ref b_re, .int u_bk, .long u_va, .long u_su, .int u_ce, .int u_ho, .int u_wy, .int u_bt, .int u_ps, .ref b_pt, .int u_tg, .int u_sn, .ref b_ip, .int u_ic, .ref b_ah, .ref b_be, .ref b_me, .int u_wd, .ref b_tr, .ref b_ld, .long u_st, .ref b_wn, .int u_id])), (b_ro, .inl (G.2 0, 5740, .inl v_ro))] s.heap := hP
  have hl := lv_entry ([.ref b_o, .int p_1]) (n := 4) (Nat.le_of_ble_eq_true rfl)
  rw [lg_entry_eq]
  generalize (lg_sl ([.ref b_o, .int p_1]) ++ List.replicate (4 - (lg_sl ([.ref b_o, .int p_1])).length) Slot.unset).toArray = ls at hl ⊢
  have hl : lv_has ls 4 [(0, .ref b_o), (1, .int p_1)] := hl
  refine lv_iconst (v := 0) hx hb dX12_hasBody_0 (by decide) ?_
  refine lv_istore_n (lv' := [(2, .int 0), (0, .ref b_o), (1, .int p_1)]) hx hb dX12_hasBody_1 rfl hl (by decide) rfl (fun ls hl => ?_)
  refine lv_iconst (v := 0) hx hb dX12_hasBody_2 (by decide) ?_
  refine lv_istore_n (lv' := [(3, .int 0), (2, .int 0), (0, .ref b_o), (1, .int p_1)]) hx hb dX12_hasBody_3 rfl hl (by decide) rfl (fun ls hl => ?_)
  refine g5_loop (α := (Int32) × (Int32)) (fun (q : (Int32) × (Int32)) (ls : Array Slot) (H : Heap) (locs : List Loc) => match q with | (k4_3, k4_2) => lv_has ls 4 [(2, .int k4_2), (3, .int k4_3), (0, .ref b_o), (1, .int p_1)] ∧ va_P G.1 vwCl [(b_o, .inr (12, [.int u_th, .int u_sa, .ref b_rf, .ref b_ro, .ref b_im, .ref b_ke, .int u_fd, .ref b_tp, .int u_td, .int u_fr, .int u_to, .int u_so, .long u_wo, .int u_fa, .int u_bd, .int u_nc, .ref b_nl, .int u_co, .ref b_op, .ref b_ar, .int u_le, .ref b_pi, .ref b_pa, .int u_pd, .int u_od, .ref b_ws, .ref b_hw, .int u_la, .ref b_se, .ref b_re, .int u_bk, .long u_va, .long u_su, .int u_ce, .int u_ho, .int u_wy, .int u_bt, .int u_ps, .ref b_pt, .int u_tg, .int u_sn, .ref b_ip, .int u_ic, .ref b_ah, .ref b_be, .ref b_me, .int u_wd, .ref b_tr, .ref b_ld, .long u_st, .ref b_wn, .int u_id])), (b_ro, .inl (G.2 0, 5740, .inl v_ro))] H ∧ va_D A [(b_o, .inr (12, [.int u_th, .int u_sa, .ref b_rf, .ref b_ro, .ref b_im, .ref b_ke, .int u_fd, .ref b_tp, .int u_td, .int u_fr, .int u_to, .int u_so, .long u_wo, .int u_fa, .int u_bd, .int u_nc, .ref b_nl, .int u_co, .ref b_op, .ref b_ar, .int u_le, .ref b_pi, .ref b_pa, .int u_pd, .int u_od, .ref b_ws, .ref b_hw, .int u_la, .ref b_se, .ref b_re, .int u_bk, .long u_va, .long u_su, .int u_ce, .int u_ho, .int u_wy, .int u_bt, .int u_ps, .ref b_pt, .int u_tg, .int u_sn, .ref b_ip, .int u_ic, .ref b_ah, .ref b_be, .ref b_me, .int u_wd, .ref b_tr, .ref b_ld, .long u_st, .ref b_wn, .int u_id])), (b_ro, .inl (G.2 0, 5740, .inl v_ro))] ∧ va_S A s.heap H locs ∧ (0 ≤ k4_3.toInt ∧ k4_3.toInt ≤ 120) ∧ (0 ≤ k4_2.toInt ∧ k4_2.toInt ≤ 1)) (fun (q : (Int32) × (Int32)) => match q with | (k4_3, k4_2) => Int.toNat (120 - k4_3.toInt)) (0, 0) ⟨lv_sub hl [1, 0, 2, 3] rfl, hP, hD, hS, ⟨by decide, by decide⟩, ⟨by decide, by decide⟩⟩ ?_
  rintro ⟨k4_3, k4_2⟩ ls H locs ⟨hl, hP, hD, hS, i_1, i_2⟩ ih_4_3
  have hl : lv_has ls 4 [(2, .int k4_2), (3, .int k4_3), (0, .ref b_o), (1, .int p_1)] := hl
  have i_1 : 0 ≤ k4_3.toInt ∧ k4_3.toInt ≤ 120 := i_1
  have i_2 : 0 ≤ k4_2.toInt ∧ k4_2.toInt ≤ 1 := i_2
  have hP : va_P G.1 vwCl [(b_o, .inr (12, [.int u_th, .int u_sa, .ref b_rf, .ref b_ro, .ref b_im, .ref b_ke, .int u_fd, .ref b_tp, .int u_td, .int u_fr, .int u_to, .int u_so, .long u_wo, .int u_fa, .int u_bd, .int u_nc, .ref b_nl, .int u_co, .ref b_op, .ref b_ar, .int u_le, .ref b_pi, .ref b_pa, .int u_pd, .int u_od, .ref b_ws, .ref b_hw, .int u_la, .ref b_se, .ref b_re, .int u_bk, .long u_va, .long u_su, .int u_ce, .int u_ho, .int u_wy, .int u_bt, .int u_ps, .ref b_pt, .int u_tg, .int u_sn, .ref b_ip, .int u_ic, .ref b_ah, .ref b_be, .ref b_me, .int u_wd, .ref b_tr, .ref b_ld, .long u_st, .ref b_wn, .int u_id])), (b_ro, .inl (G.2 0, 5740, .inl v_ro))] H := hP
  have hD : va_D A [(b_o, .inr (12, [.int u_th, .int u_sa, .ref b_rf, .ref b_ro, .ref b_im, .ref b_ke, .int u_fd, .ref b_tp, .int u_td, .int u_fr, .int u_to, .int u_so, .long u_wo, .int u_fa, .int u_bd, .int u_nc, .ref b_nl, .int u_co, .ref b_op, .ref b_ar, .int u_le, .ref b_pi, .ref b_pa, .int u_pd, .int u_od, .ref b_ws, .ref b_hw, .int u_la, .ref b_se, .ref b_re, .int u_bk, .long u_va, .long u_su, .int u_ce, .int u_ho, .int u_wy, .int u_bt, .int u_ps, .ref b_pt, .int u_tg, .int u_sn, .ref b_ip, .int u_ic, .ref b_ah, .ref b_be, .ref b_me, .int u_wd, .ref b_tr, .ref b_ld, .long u_st, .ref b_wn, .int u_id])), (b_ro, .inl (G.2 0, 5740, .inl v_ro))] := hD
  refine lv_iload_n hx hb dX12_hasBody_4 rfl (lv_at hl 1 rfl) ?_
  refine lv_bipush (v := 24) hx hb dX12_hasBody_5 (by decide) ?_
  refine lv_aload_n hx hb dX12_hasBody_7 rfl (lv_at hl 2 rfl) ?_
  refine va_get (D := G.1) (ci := 12) (v := .ref b_ro) (C := RX12) (T := TX12) (N := 52) hx hb hts inG_X12 hown hK hP 0 rfl rfl 3 (by decide) (hts _ fl_X12_13) (fun _ h9 => h9) rfl dX12_hasBody_8 ?_
  refine lv_iconst (v := 1) hx hb dX12_hasBody_11 (by decide) ?_
  refine va_iald hx hb hK hP 1 0 rfl rfl (i := 1) (by unfold vp_in; decide) dX12_hasBody_12 ?_
  refine g5_ti (v := (v_ro 1)) rfl ?_
  have hr_4 : 0 ≤ (v_ro 1).toInt ∧ (v_ro 1).toInt ≤ 5 := mi_1 r_ro
  refine lv_imul hx hb dX12_hasBody_13 ?_
  have t_5 : (24 * (v_ro 1)).toInt = 24 * (v_ro 1).toInt := g5_imul (a := 24) (b := (v_ro 1).toInt) (by decide) (by rfl) (by omega) (by omega)
  refine lv_icmp_ge (tgt := 46) hx hb dX12_hasBody_14 (by decide) (fun c_6 => ?_) (fun c_6 => ?_)
  ·
    have i_6 : k4_3.toInt ≥ (24 * (v_ro 1).toInt) := by have z := g5_ge (a := k4_3.toInt) (b := (24 * (v_ro 1)).toInt) (by rfl) (by rfl) c_6; omega
    refine lv_iload_n hx hb dX12_hasBody_46 rfl (lv_at hl 0 rfl) ?_
    exact W.zret (v := k4_2) hx hb hr (g_nb (by omega) (by omega)) (fun t ht hW => ⟨⟨k4_2, [(b_o, .inr (12, [.int u_th, .int u_sa, .ref b_rf, .ref b_ro, .ref b_im, .ref b_ke, .int u_fd, .ref b_tp, .int u_td, .int u_fr, .int u_to, .int u_so, .long u_wo, .int u_fa, .int u_bd, .int u_nc, .ref b_nl, .int u_co, .ref b_op, .ref b_ar, .int u_le, .ref b_pi, .ref b_pa, .int u_pd, .int u_od, .ref b_ws, .ref b_hw, .int u_la, .ref b_se, .ref b_re, .int u_bk, .long u_va, .long u_su, .int u_ce, .int u_ho, .int u_wy, .int u_bt, .int u_ps, .ref b_pt, .int u_tg, .int u_sn, .ref b_ip, .int u_ic, .ref b_ah, .ref b_be, .ref b_me, .int u_wd, .ref b_tr, .ref b_ld, .long u_st, .ref b_wn, .int u_id])), (b_ro, .inl (G.2 0, 5740, .inl v_ro))], rfl, ⟨k4_2, ⟨by omega, by omega⟩, rfl, rfl⟩, by rw [ht]; exact hP.sub [0, 1] rfl, hD.sub [0, 1] (by decide) rfl⟩, hS.F ht⟩) hS.2.2 dX12_hasBody_47
  ·
    have i_6 : k4_3.toInt < (24 * (v_ro 1).toInt) := by have z := g5_geN (a := k4_3.toInt) (b := (24 * (v_ro 1)).toInt) (by rfl) (by rfl) c_6; omega
    refine lv_iload_n hx hb dX12_hasBody_17 rfl (lv_at hl 0 rfl) ?_
    refine lv_if_ne (tgt := 34) hx hb dX12_hasBody_18 (by decide) (fun c_7 => ?_) (fun c_7 => ?_)
    ·
      have n_7 : gNe (k4_2.toInt) (0) := by have z := g5_ne (a := k4_2.toInt) (b := 0) (by rfl) (by decide) c_7; unfold gNe; omega
      have i_7 : k4_2.toInt ≥ 1 := by have z := g5_ne (a := k4_2.toInt) (b := 0) (by rfl) (by decide) c_7; omega
      refine lv_iconst (v := 1) hx hb dX12_hasBody_34 (by decide) ?_
      refine lv_goto (tgt := 39) hx hb dX12_hasBody_35 (by decide) ?_
      refine lv_istore_n (lv' := [(2, .int 1), (3, .int k4_3), (0, .ref b_o), (1, .int p_1)]) hx hb dX12_hasBody_39 rfl hl (by decide) rfl (fun ls hl => ?_)
      refine lv_iinc (v := (k4_3 + 1)) (lv' := [(3, .int (k4_3 + 1)), (2, .int 1), (0, .ref b_o), (1, .int p_1)]) hx hb dX12_hasBody_40 hl (k := 1) rfl rfl (by decide) rfl (fun ls hl => ?_)
      have t_8 : (k4_3 + 1).toInt = k4_3.toInt + 1 := g5_iadd (a := k4_3.toInt) (b := 1) rfl (by decide) (by omega) (by omega)
      refine lv_goto (tgt := 4) hx hb dX12_hasBody_43 (by decide) ?_
      exact ih_4_3 ((k4_3 + 1), 1) ls H locs (show Int.toNat (120 - (k4_3 + 1).toInt) < Int.toNat (120 - k4_3.toInt) from g_up (show k4_3.toInt < (k4_3 + 1).toInt by omega) (show k4_3.toInt < 120 by omega)) ⟨lv_sub hl [1, 0, 2, 3] rfl, hP, hD, hS, ⟨by omega, by omega⟩, ⟨by decide, by decide⟩⟩
    ·
      have i_7 : k4_2.toInt = 0 := by have z := g5_neN (a := k4_2.toInt) (b := 0) (by rfl) (by decide) c_7; omega
      refine lv_aload_n hx hb dX12_hasBody_21 rfl (lv_at hl 2 rfl) ?_
      refine va_get (D := G.1) (ci := 12) (v := .ref b_ro) (C := RX12) (T := TX12) (N := 52) hx hb hts inG_X12 hown hK hP 0 rfl rfl 3 (by decide) (hts _ fl_X12_13) (fun _ h9 => h9) rfl dX12_hasBody_22 ?_
      refine lv_bipush (v := 110) hx hb dX12_hasBody_25 (by decide) ?_
      refine lv_iload_n hx hb dX12_hasBody_27 rfl (lv_at hl 1 rfl) ?_
      refine lv_iadd hx hb dX12_hasBody_28 ?_
      have t_9 : (110 + k4_3).toInt = 110 + k4_3.toInt := g5_iadd (a := 110) (b := k4_3.toInt) (by decide) (by rfl) (by omega) (by omega)
      refine va_iald hx hb hK hP 1 0 rfl rfl (i := (110 + k4_3)) (vp_in_iff.mpr ⟨by omega, by omega⟩) dX12_hasBody_29 ?_
      refine lv_iload_n hx hb dX12_hasBody_30 rfl (lv_at hl 3 rfl) ?_
      refine lv_icmp_ne (tgt := 38) hx hb dX12_hasBody_31 (by decide) (fun c_10 => ?_) (fun c_10 => ?_)
      ·
        have n_10 : gNe ((v_ro (110 + k4_3).toNatClampNeg).toInt) (p_1.toInt) := by have z := g5_ne (a := (v_ro (110 + k4_3).toNatClampNeg).toInt) (b := p_1.toInt) (by rfl) (by rfl) c_10; unfold gNe; omega
        refine lv_iconst (v := 0) hx hb dX12_hasBody_38 (by decide) ?_
        refine lv_istore_n (lv' := [(2, .int 0), (3, .int k4_3), (0, .ref b_o), (1, .int p_1)]) hx hb dX12_hasBody_39 rfl hl (by decide) rfl (fun ls hl => ?_)
        refine lv_iinc (v := (k4_3 + 1)) (lv' := [(3, .int (k4_3 + 1)), (2, .int 0), (0, .ref b_o), (1, .int p_1)]) hx hb dX12_hasBody_40 hl (k := 1) rfl rfl (by decide) rfl (fun ls hl => ?_)
        have t_11 : (k4_3 + 1).toInt = k4_3.toInt + 1 := g5_iadd (a := k4_3.toInt) (b := 1) rfl (by decide) (by omega) (by omega)
        refine lv_goto (tgt := 4) hx hb dX12_hasBody_43 (by decide) ?_
        exact ih_4_3 ((k4_3 + 1), 0) ls H locs (show Int.toNat (120 - (k4_3 + 1).toInt) < Int.toNat (120 - k4_3.toInt) from g_up (show k4_3.toInt < (k4_3 + 1).toInt by omega) (show k4_3.toInt < 120 by omega)) ⟨lv_sub hl [1, 0, 2, 3] rfl, hP, hD, hS, ⟨by omega, by omega⟩, ⟨by decide, by decide⟩⟩
      ·
        have i_10 : (v_ro (110 + k4_3).toNatClampNeg).toInt = p_1.toInt := by have z := g5_neN (a := (v_ro (110 + k4_3).toNatClampNeg).toInt) (b := p_1.toInt) (by rfl) (by rfl) c_10; omega
        refine lv_iconst (v := 1) hx hb dX12_hasBody_34 (by decide) ?_
        refine lv_goto (tgt := 39) hx hb dX12_hasBody_35 (by decide) ?_
        refine lv_istore_n (lv' := [(2, .int 1), (3, .int k4_3), (0, .ref b_o), (1, .int p_1)]) hx hb dX12_hasBody_39 rfl hl (by decide) rfl (fun ls hl => ?_)
        refine lv_iinc (v := (k4_3 + 1)) (lv' := [(3, .int (k4_3 + 1)), (2, .int 1), (0, .ref b_o), (1, .int p_1)]) hx hb dX12_hasBody_40 hl (k := 1) rfl rfl (by decide) rfl (fun ls hl => ?_)
        have t_12 : (k4_3 + 1).toInt = k4_3.toInt + 1 := g5_iadd (a := k4_3.toInt) (b := 1) rfl (by decide) (by omega) (by omega)
        refine lv_goto (tgt := 4) hx hb dX12_hasBody_43 (by decide) ?_
        exact ih_4_3 ((k4_3 + 1), 1) ls H locs (show Int.toNat (120 - (k4_3 + 1).toInt) < Int.toNat (120 - k4_3.toInt) from g_up (show k4_3.toInt < (k4_3 + 1).toInt by omega) (show k4_3.toInt < 120 by omega)) ⟨lv_sub hl [1, 0, 2, 3] rfl, hP, hD, hS, ⟨by omega, by omega⟩, ⟨by decide, by decide⟩⟩
theorem dX12_wall_0 : decode cX12_wall 0 = .ok (.aload_n 0, 1) := by decide +kernel
theorem dX12_wall_1 : decode cX12_wall 1 = .ok (.iconst 0, 1) := by decide +kernel
theorem dX12_wall_2 : decode cX12_wall 2 = .ok (.putfield 107, 3) := by decide +kernel
theorem dX12_wall_5 : decode cX12_wall 5 = .ok (.iload_n 1, 1) := by decide +kernel
theorem dX12_wall_6 : decode cX12_wall 6 = .ok (.invokestatic 138, 3) := by decide +kernel
theorem dX12_wall_9 : decode cX12_wall 9 = .ok (.ifCond .eq 13, 3) := by decide +kernel
theorem dX12_wall_12 : decode cX12_wall 12 = .ok (.iload_n 2, 1) := by decide +kernel
theorem dX12_wall_13 : decode cX12_wall 13 = .ok (.i2l, 1) := by decide +kernel
theorem dX12_wall_14 : decode cX12_wall 14 = .ok (.lconst 0, 1) := by decide +kernel
theorem dX12_wall_15 : decode cX12_wall 15 = .ok (.lconst 1, 1) := by decide +kernel
theorem dX12_wall_16 : decode cX12_wall 16 = .ok (.invokestatic 121, 3) := by decide +kernel
theorem dX12_wall_19 : decode cX12_wall 19 = .ok (.ifCond .ne 9, 3) := by decide +kernel
theorem dX12_wall_22 : decode cX12_wall 22 = .ok (.aload_n 0, 1) := by decide +kernel
theorem dX12_wall_23 : decode cX12_wall 23 = .ok (.iconst (-1), 1) := by decide +kernel
theorem dX12_wall_24 : decode cX12_wall 24 = .ok (.invokevirtual 125, 3) := by decide +kernel
theorem dX12_wall_27 : decode cX12_wall 27 = .ok (.ireturn, 1) := by decide +kernel
theorem dX12_wall_28 : decode cX12_wall 28 = .ok (.iload_n 2, 1) := by decide +kernel
theorem dX12_wall_29 : decode cX12_wall 29 = .ok (.iconst 1, 1) := by decide +kernel
theorem dX12_wall_30 : decode cX12_wall 30 = .ok (.if_icmp .ne 45, 3) := by decide +kernel
theorem dX12_wall_33 : decode cX12_wall 33 = .ok (.aload_n 0, 1) := by decide +kernel
theorem dX12_wall_34 : decode cX12_wall 34 = .ok (.iload_n 1, 1) := by decide +kernel
theorem dX12_wall_35 : decode cX12_wall 35 = .ok (.invokevirtual 142, 3) := by decide +kernel
theorem dX12_wall_38 : decode cX12_wall 38 = .ok (.ifCond .ne 30, 3) := by decide +kernel
theorem dX12_wall_41 : decode cX12_wall 41 = .ok (.aload_n 0, 1) := by decide +kernel
theorem dX12_wall_42 : decode cX12_wall 42 = .ok (.iload_n 1, 1) := by decide +kernel
theorem dX12_wall_43 : decode cX12_wall 43 = .ok (.invokevirtual 145, 3) := by decide +kernel
theorem dX12_wall_46 : decode cX12_wall 46 = .ok (.ifCond .ne 22, 3) := by decide +kernel
theorem dX12_wall_49 : decode cX12_wall 49 = .ok (.aload_n 0, 1) := by decide +kernel
theorem dX12_wall_50 : decode cX12_wall 50 = .ok (.iload_n 1, 1) := by decide +kernel
theorem dX12_wall_51 : decode cX12_wall 51 = .ok (.invokevirtual 148, 3) := by decide +kernel
theorem dX12_wall_54 : decode cX12_wall 54 = .ok (.ifCond .ne 14, 3) := by decide +kernel
theorem dX12_wall_57 : decode cX12_wall 57 = .ok (.aload_n 0, 1) := by decide +kernel
theorem dX12_wall_58 : decode cX12_wall 58 = .ok (.getfield 13, 3) := by decide +kernel
theorem dX12_wall_61 : decode cX12_wall 61 = .ok (.bipush 6, 2) := by decide +kernel
theorem dX12_wall_63 : decode cX12_wall 63 = .ok (.iaload, 1) := by decide +kernel
theorem dX12_wall_64 : decode cX12_wall 64 = .ok (.iload_n 1, 1) := by decide +kernel
theorem dX12_wall_65 : decode cX12_wall 65 = .ok (.if_icmp .ne 10, 3) := by decide +kernel
theorem dX12_wall_68 : decode cX12_wall 68 = .ok (.aload_n 0, 1) := by decide +kernel
theorem dX12_wall_69 : decode cX12_wall 69 = .ok (.bipush (-3), 2) := by decide +kernel
theorem dX12_wall_71 : decode cX12_wall 71 = .ok (.invokevirtual 125, 3) := by decide +kernel
theorem dX12_wall_74 : decode cX12_wall 74 = .ok (.ireturn, 1) := by decide +kernel
theorem dX12_wall_75 : decode cX12_wall 75 = .ok (.aload_n 0, 1) := by decide +kernel
theorem dX12_wall_76 : decode cX12_wall 76 = .ok (.bipush 10, 2) := by decide +kernel
theorem dX12_wall_78 : decode cX12_wall 78 = .ok (.iload_n 1, 1) := by decide +kernel
theorem dX12_wall_79 : decode cX12_wall 79 = .ok (.iadd, 1) := by decide +kernel
theorem dX12_wall_80 : decode cX12_wall 80 = .ok (.iload_n 2, 1) := by decide +kernel
theorem dX12_wall_81 : decode cX12_wall 81 = .ok (.invokevirtual 151, 3) := by decide +kernel
theorem dX12_wall_84 : decode cX12_wall 84 = .ok (.ireturn, 1) := by decide +kernel
theorem fl_X12_107 : Cond.fieldLink RX12 107 "LateGlassModel" "thrown" "I" ∈ tblG := tg 1203 (by decide +kernel) (by decide +kernel)
set_option maxHeartbeats 4000000 in
set_option maxRecDepth 100000 in
theorem n_in_0_1 (l : Launch) (G : g5_G) (sz : Nat) (p_x : Int32) : Met l yX12_in (wsG yX12_in cX12_in 6 (some .boolean)) ({ frames := 0, cells := 0, slots := 0, locals := 0 }) (va_Pc [.long p_x.toInt64, .long 0, .long 1] (g5_P G [] sz)) (va_Qi (fun (r : Int32) (u : va_W) => ((p_x.toInt < 0 ∨ 1 < p_x.toInt) ∧ (r = 0) ∧ (u = [])) ∨ ((0 ≤ p_x.toInt ∧ p_x.toInt ≤ 1) ∧ (r = 1) ∧ (u = []))) (g5_B G (va_A [] sz)) (va_A [] sz)) 0 0 (va_A [] sz) := by
  refine Met.ofW (cc := cX12_in) (maxL := 6) (ret := (some .boolean)) (by decide) rfl ?_
  intro p e s m args below meth c s₁ B hml hv
  obtain ⟨rfl, hsz, hP, hK, hD0, hN, hT⟩ := hv
  have hx := B.exec
  have hb := B.bytes
  have hr := B.returns
  have hts : ∀ w ∈ tblG, w.before _ s = true := fun w h => atoms_spec (ws := (wsG yX12_in cX12_in 6 (some .boolean))) B.pre w (List.mem_cons_of_mem _ h)
  have hown : s.vm.findClass RX12 = some m.cls := findClass_of_methodNamed B.named
  have hlocks := B.notSynchronized
  subst hsz
  have hD := hD0.self (sz := s.heap.size)
  generalize hAe : va_A [] s.heap.size = A at hD hT ⊢
  have hA : ∀ q : Nat, s.heap.size ≤ q → A q := fun q h => by rw [← hAe]; exact Or.inr h
  have hS : va_S A s.heap s.heap [] := va_S.rf
  have hP : va_P G.1 vwCl [] s.heap := hP
  have hl := lv_entry ([.long p_x.toInt64, .long 0, .long 1]) (n := 6) (Nat.le_of_ble_eq_true rfl)
  rw [lg_entry_eq]
  generalize (lg_sl ([.long p_x.toInt64, .long 0, .long 1]) ++ List.replicate (6 - (lg_sl ([.long p_x.toInt64, .long 0, .long 1])).length) Slot.unset).toArray = ls at hl ⊢
  have hl : lv_has ls 6 [(0, .long p_x.toInt64), (2, .long 0), (4, .long 1)] := hl
  refine lv_lload_n hx hb dX12_in_0 rfl (lv_at hl 0 rfl) ?_
  refine lv_lload_n hx hb dX12_in_1 rfl (lv_at hl 1 rfl) ?_
  have tl_1 : p_x.toInt64.toInt = p_x.toInt := Int32.toInt_toInt64 _
  have tl_2 : (0 : Int64).toInt = 0 := (by decide)
  have tc_3 := g5_cmpI p_x.toInt64 0
  refine W.lcmp hx hb dX12_in_2 ?_
  refine lv_if_lt (tgt := 17) hx hb dX12_in_3 (by decide) (fun c_4 => ?_) (fun c_4 => ?_)
  ·
    have i_4 : (lg_cmp p_x.toInt64 0).toInt < 0 := by have z := g5_lt (a := (lg_cmp p_x.toInt64 0).toInt) (b := 0) (by rfl) (by decide) c_4; omega
    refine lv_iconst (v := 0) hx hb dX12_in_17 (by decide) ?_
    exact W.zret (v := 0) hx hb hr rfl (fun t ht hW => ⟨⟨0, [], rfl, Or.inl (⟨by omega, rfl, rfl⟩), by rw [ht]; exact hP.sub [] rfl, hD.sub [] (by decide) rfl⟩, hS.F ht⟩) hS.2.2 dX12_in_18
  ·
    have i_4 : (lg_cmp p_x.toInt64 0).toInt ≥ 0 := by have z := g5_ltN (a := (lg_cmp p_x.toInt64 0).toInt) (b := 0) (by rfl) (by decide) c_4; omega
    refine lv_lload_n hx hb dX12_in_6 rfl (lv_at hl 0 rfl) ?_
    refine lv_lload hx hb dX12_in_7 (lv_at hl 2 rfl) ?_
    have tl_5 : p_x.toInt64.toInt = p_x.toInt := Int32.toInt_toInt64 _
    have tl_6 : (1 : Int64).toInt = 1 := (by decide)
    have tc_7 := g5_cmpI p_x.toInt64 1
    refine W.lcmp hx hb dX12_in_9 ?_
    refine lv_if_gt (tgt := 17) hx hb dX12_in_10 (by decide) (fun c_8 => ?_) (fun c_8 => ?_)
    ·
      have i_8 : (lg_cmp p_x.toInt64 1).toInt > 0 := by have z := g5_gt (a := (lg_cmp p_x.toInt64 1).toInt) (b := 0) (by rfl) (by decide) c_8; omega
      refine lv_iconst (v := 0) hx hb dX12_in_17 (by decide) ?_
      exact W.zret (v := 0) hx hb hr rfl (fun t ht hW => ⟨⟨0, [], rfl, Or.inl (⟨by omega, rfl, rfl⟩), by rw [ht]; exact hP.sub [] rfl, hD.sub [] (by decide) rfl⟩, hS.F ht⟩) hS.2.2 dX12_in_18
    ·
      have i_8 : (lg_cmp p_x.toInt64 1).toInt ≤ 0 := by have z := g5_gtN (a := (lg_cmp p_x.toInt64 1).toInt) (b := 0) (by rfl) (by decide) c_8; omega
      refine lv_iconst (v := 1) hx hb dX12_in_13 (by decide) ?_
      refine lv_goto (tgt := 18) hx hb dX12_in_14 (by decide) ?_
      exact W.zret (v := 1) hx hb hr rfl (fun t ht hW => ⟨⟨1, [], rfl, Or.inr (⟨by omega, rfl, rfl⟩), by rw [ht]; exact hP.sub [] rfl, hD.sub [] (by decide) rfl⟩, hS.F ht⟩) hS.2.2 dX12_in_18
theorem ml_X12_125 : Cond.methodLink RX12 125 yX12_tell ∈ tblG := tg 1367 (by decide +kernel) (by decide +kernel)
theorem im_X12_tell : Cond.instanceMethod yX12_tell ∈ tblG := tg 1369 (by decide +kernel) (by decide +kernel)
theorem se_X12_tell : Cond.selects RX12 yX12_tell yX12_tell ∈ tblG := tg 29 (by decide +kernel) (by decide +kernel)
theorem cd_X12_tell : Cond.code yX12_tell cX12_tell 2 (some .int) ∈ tblG := tg 1370 (by decide +kernel) (by decide +kernel)
theorem gW_X12_tell : GoodIn tblG (wsG yX12_tell cX12_tell 2 (some .int)) := tgi cd_X12_tell
theorem gV_X12_125 : GoodIn tblG (wsV RX12 125 RX12 yX12_tell (wsG yX12_tell cX12_tell 2 (some .int))) := tgV ml_X12_125 im_X12_tell se_X12_tell ini_X12 gW_X12_tell
theorem hv_X12_tell : yX12_tell.cls = RX12 ∧ yX12_tell.cls ≠ "java/lang/invoke/MethodHandle" ∧ yX12_tell.cls ≠ "java/lang/invoke/VarHandle" ∧ (parseMethodDescriptor yX12_tell.desc).map (fun d => d.parameters.length) = some 1 := by decide +kernel
theorem ml_X12_151 : Cond.methodLink RX12 151 yX12_change ∈ tblG := tg 1399 (by decide +kernel) (by decide +kernel)
theorem im_X12_change : Cond.instanceMethod yX12_change ∈ tblG := tg 1401 (by decide +kernel) (by decide +kernel)
theorem se_X12_change : Cond.selects RX12 yX12_change yX12_change ∈ tblG := tg 34 (by decide +kernel) (by decide +kernel)
theorem cd_X12_change : Cond.code yX12_change cX12_change 4 (some .int) ∈ tblG := tg 1402 (by decide +kernel) (by decide +kernel)
theorem gW_X12_change : GoodIn tblG (wsG yX12_change cX12_change 4 (some .int)) := tgi cd_X12_change
theorem gV_X12_151 : GoodIn tblG (wsV RX12 151 RX12 yX12_change (wsG yX12_change cX12_change 4 (some .int))) := tgV ml_X12_151 im_X12_change se_X12_change ini_X12 gW_X12_change
theorem hv_X12_change : yX12_change.cls = RX12 ∧ yX12_change.cls ≠ "java/lang/invoke/MethodHandle" ∧ yX12_change.cls ≠ "java/lang/invoke/VarHandle" ∧ (parseMethodDescriptor yX12_change.desc).map (fun d => d.parameters.length) = some 2 := by decide +kernel
theorem ml_X12_142 : Cond.methodLink RX12 142 yX12_hasGlass ∈ tblG := tg 1383 (by decide +kernel) (by decide +kernel)
theorem im_X12_hasGlass : Cond.instanceMethod yX12_hasGlass ∈ tblG := tg 1385 (by decide +kernel) (by decide +kernel)
theorem se_X12_hasGlass : Cond.selects RX12 yX12_hasGlass yX12_hasGlass ∈ tblG := tg 30 (by decide +kernel) (by decide +kernel)
theorem cd_X12_hasGlass : Cond.code yX12_hasGlass cX12_hasGlass 4 (some .boolean) ∈ tblG := tg 1386 (by decide +kernel) (by decide +kernel)
theorem gW_X12_hasGlass : GoodIn tblG (wsG yX12_hasGlass cX12_hasGlass 4 (some .boolean)) := tgi cd_X12_hasGlass
theorem gV_X12_142 : GoodIn tblG (wsV RX12 142 RX12 yX12_hasGlass (wsG yX12_hasGlass cX12_hasGlass 4 (some .boolean))) := tgV ml_X12_142 im_X12_hasGlass se_X12_hasGlass ini_X12 gW_X12_hasGlass
theorem hv_X12_hasGlass : yX12_hasGlass.cls = RX12 ∧ yX12_hasGlass.cls ≠ "java/lang/invoke/MethodHandle" ∧ yX12_hasGlass.cls ≠ "java/lang/invoke/VarHandle" ∧ (parseMethodDescriptor yX12_hasGlass.desc).map (fun d => d.parameters.length) = some 1 := by decide +kernel
theorem ml_X12_145 : Cond.methodLink RX12 145 yX12_hasSpot ∈ tblG := tg 1391 (by decide +kernel) (by decide +kernel)
theorem im_X12_hasSpot : Cond.instanceMethod yX12_hasSpot ∈ tblG := tg 1393 (by decide +kernel) (by decide +kernel)
theorem se_X12_hasSpot : Cond.selects RX12 yX12_hasSpot yX12_hasSpot ∈ tblG := tg 32 (by decide +kernel) (by decide +kernel)
theorem cd_X12_hasSpot : Cond.code yX12_hasSpot cX12_hasSpot 4 (some .boolean) ∈ tblG := tg 1394 (by decide +kernel) (by decide +kernel)
theorem gW_X12_hasSpot : GoodIn tblG (wsG yX12_hasSpot cX12_hasSpot 4 (some .boolean)) := tgi cd_X12_hasSpot
theorem gV_X12_145 : GoodIn tblG (wsV RX12 145 RX12 yX12_hasSpot (wsG yX12_hasSpot cX12_hasSpot 4 (some .boolean))) := tgV ml_X12_145 im_X12_hasSpot se_X12_hasSpot ini_X12 gW_X12_hasSpot
theorem hv_X12_hasSpot : yX12_hasSpot.cls = RX12 ∧ yX12_hasSpot.cls ≠ "java/lang/invoke/MethodHandle" ∧ yX12_hasSpot.cls ≠ "java/lang/invoke/VarHandle" ∧ (parseMethodDescriptor yX12_hasSpot.desc).map (fun d => d.parameters.length) = some 1 := by decide +kernel
theorem ml_X12_148 : Cond.methodLink RX12 148 yX12_hasBody ∈ tblG := tg 1395 (by decide +kernel) (by decide +kernel)
theorem im_X12_hasBody : Cond.instanceMethod yX12_hasBody ∈ tblG := tg 1397 (by decide +kernel) (by decide +kernel)
theorem se_X12_hasBody : Cond.selects RX12 yX12_hasBody yX12_hasBody ∈ tblG := tg 33 (by decide +kernel) (by decide +kernel)
theorem cd_X12_hasBody : Cond.code yX12_hasBody cX12_hasBody 4 (some .boolean) ∈ tblG := tg 1398 (by decide +kernel) (by decide +kernel)
theorem gW_X12_hasBody : GoodIn tblG (wsG yX12_hasBody cX12_hasBody 4 (some .boolean)) := tgi cd_X12_hasBody
theorem gV_X12_148 : GoodIn tblG (wsV RX12 148 RX12 yX12_hasBody (wsG yX12_hasBody cX12_hasBody 4 (some .boolean))) := tgV ml_X12_148 im_X12_hasBody se_X12_hasBody ini_X12 gW_X12_hasBody
theorem hv_X12_hasBody : yX12_hasBody.cls = RX12 ∧ yX12_hasBody.cls ≠ "java/lang/invoke/MethodHandle" ∧ yX12_hasBody.cls ≠ "java/lang/invoke/VarHandle" ∧ (parseMethodDescriptor yX12_hasBody.desc).map (fun d => d.parameters.length) = some 1 := by decide +kernel
