theorem dX12_begin_0 : decode cX12_begin 0 = .ok (.aload_n 0, 1) := by decide +kernel
theorem dX12_begin_1 : decode cX12_begin 1 = .ok (.iconst 0, 1) := by decide +kernel
theorem dX12_begin_2 : decode cX12_begin 2 = .ok (.putfield 202, 3) := by decide +kernel
theorem dX12_begin_5 : decode cX12_begin 5 = .ok (.aload_n 0, 1) := by decide +kernel
theorem dX12_begin_6 : decode cX12_begin 6 = .ok (.iconst 0, 1) := by decide +kernel
theorem dX12_begin_7 : decode cX12_begin 7 = .ok (.putfield 205, 3) := by decide +kernel
theorem dX12_begin_10 : decode cX12_begin 10 = .ok (.aload_n 0, 1) := by decide +kernel
theorem dX12_begin_11 : decode cX12_begin 11 = .ok (.iconst (-1), 1) := by decide +kernel
theorem dX12_begin_12 : decode cX12_begin 12 = .ok (.putfield 26, 3) := by decide +kernel
theorem dX12_begin_15 : decode cX12_begin 15 = .ok (.aload_n 0, 1) := by decide +kernel
theorem dX12_begin_16 : decode cX12_begin 16 = .ok (.invokevirtual 208, 3) := by decide +kernel
theorem dX12_begin_19 : decode cX12_begin 19 = .ok (.return_, 1) := by decide +kernel
set_option maxHeartbeats 4000000 in
set_option maxRecDepth 100000 in
theorem n_begin (l : Launch) (G : g5_G) (b_o b_tp b_rf b_ro b_im b_ke b_nl b_op b_ar b_pi b_pa b_ws b_hw b_se b_re b_pt b_ip b_ah b_be b_me b_tr b_ld b_wn : Nat) (sz : Nat) (u_th : Int32) (u_sa : Int32) (u_fd : Int32) (u_td : Int32) (u_fr : Int32) (u_to : Int32) (u_so : Int32) (u_fa : Int32) (u_bd : Int32) (u_nc : Int32) (u_co : Int32) (u_le : Int32) (u_pd : Int32) (u_od : Int32) (u_la : Int32) (u_bk : Int32) (u_ce : Int32) (u_ho : Int32) (u_wy : Int32) (u_bt : Int32) (u_ps : Int32) (u_tg : Int32) (u_sn : Int32) (u_ic : Int32) (u_wd : Int32) (u_id : Int32) (u_wo : Int64) (u_va : Int64) (u_su : Int64) (u_st : Int64) (v_tp : Nat → Int32) (h_u_td : 0 ≤ u_td.toInt ∧ u_td.toInt ≤ 400) (h_u_fr : 0 ≤ u_fr.toInt ∧ u_fr.toInt ≤ 400) (h_u_to : 0 ≤ u_to.toInt ∧ u_to.toInt ≤ 400) (h_u_bd : 0 ≤ u_bd.toInt ∧ u_bd.toInt ≤ 1) (h_u_nc : 0 ≤ u_nc.toInt ∧ u_nc.toInt ≤ 12) (h_u_co : 0 ≤ u_co.toInt ∧ u_co.toInt ≤ 400) (h_u_pd : 0 ≤ u_pd.toInt ∧ u_pd.toInt ≤ 400) (h_u_la : 0 ≤ u_la.toInt ∧ u_la.toInt ≤ 4840) (h_u_bk : 0 ≤ u_bk.toInt ∧ u_bk.toInt ≤ 1) (h_u_ce : 0 ≤ u_ce.toInt ∧ u_ce.toInt ≤ 63) (h_u_ho : 0 ≤ u_ho.toInt ∧ u_ho.toInt ≤ 23) (h_u_wy : 0 ≤ u_wy.toInt ∧ u_wy.toInt ≤ 3) (h_u_bt : 0 ≤ u_bt.toInt ∧ u_bt.toInt ≤ 1000000) (h_u_ps : 0 ≤ u_ps.toInt ∧ u_ps.toInt ≤ 200) (h_u_ic : 0 ≤ u_ic.toInt ∧ u_ic.toInt ≤ 1) (h_u_id : 0 ≤ u_id.toInt ∧ u_id.toInt ≤ 1) : Met l yX12_begin (wsG yX12_begin cX12_begin 1 none) ({ frames := 2, cells := 0, slots := 0, locals := 40 }) (va_Pc [.ref b_o] (g5_P G [(b_o, .inr (12, [.int u_th, .int u_sa, .ref b_rf, .ref b_ro, .ref b_im, .ref b_ke, .int u_fd, .ref b_tp, .int u_td, .int u_fr, .int u_to, .int u_so, .long u_wo, .int u_fa, .int u_bd, .int u_nc, .ref b_nl, .int u_co, .ref b_op, .ref b_ar, .int u_le, .ref b_pi, .ref b_pa, .int u_pd, .int u_od, .ref b_ws, .ref b_hw, .int u_la, .ref b_se, .ref b_re, .int u_bk, .long u_va, .long u_su, .int u_ce, .int u_ho, .int u_wy, .int u_bt, .int u_ps, .ref b_pt, .int u_tg, .int u_sn, .ref b_ip, .int u_ic, .ref b_ah, .ref b_be, .ref b_me, .int u_wd, .ref b_tr, .ref b_ld, .long u_st, .ref b_wn, .int u_id])), (b_tp, .inl (G.2 0, 400, .inl v_tp))] sz)) (va_Qv (fun (u : va_W) => (∃ (o_fr : Int32) (o_to : Int32) (o_so : Int32) (o_wo : Int64), (0 ≤ o_fr.toInt ∧ o_fr.toInt ≤ 400) ∧ (0 ≤ o_to.toInt ∧ o_to.toInt ≤ 400) ∧ (o_fr.toInt ≤ o_to.toInt ∧ o_to.toInt ≤ u_td.toInt) ∧ (TKs o_so.toInt o_fr.toInt o_to.toInt) ∧ (u = [(b_o, .inr (12, [.int u_th, .int u_sa, .ref b_rf, .ref b_ro, .ref b_im, .ref b_ke, .int u_fd, .ref b_tp, .int u_td, .int o_fr, .int o_to, .int o_so, .long o_wo, .int (-1), .int 0, .int u_nc, .ref b_nl, .int u_co, .ref b_op, .ref b_ar, .int u_le, .ref b_pi, .ref b_pa, .int u_pd, .int u_od, .ref b_ws, .ref b_hw, .int u_la, .ref b_se, .ref b_re, .int u_bk, .long u_va, .long u_su, .int u_ce, .int u_ho, .int u_wy, .int u_bt, .int u_ps, .ref b_pt, .int u_tg, .int u_sn, .ref b_ip, .int u_ic, .ref b_ah, .ref b_be, .ref b_me, .int u_wd, .ref b_tr, .ref b_ld, .long u_st, .ref b_wn, .int u_id])), (b_tp, .inl (G.2 0, 400, .inl v_tp))]))) (g5_B G (va_A [(b_o, .inr (12, [.int u_th, .int u_sa, .ref b_rf, .ref b_ro, .ref b_im, .ref b_ke, .int u_fd, .ref b_tp, .int u_td, .int u_fr, .int u_to, .int u_so, .long u_wo, .int u_fa, .int u_bd, .int u_nc, .ref b_nl, .int u_co, .ref b_op, .ref b_ar, .int u_le, .ref b_pi, .ref b_pa, .int u_pd, .int u_od, .ref b_ws, .ref b_hw, .int u_la, .ref b_se, .ref b_re, .int u_bk, .long u_va, .long u_su, .int u_ce, .int u_ho, .int u_wy, .int u_bt, .int u_ps, .ref b_pt, .int u_tg, .int u_sn, .ref b_ip, .int u_ic, .ref b_ah, .ref b_be, .ref b_me, .int u_wd, .ref b_tr, .ref b_ld, .long u_st, .ref b_wn, .int u_id])), (b_tp, .inl (G.2 0, 400, .inl v_tp))] sz)) (va_A [(b_o, .inr (12, [.int u_th, .int u_sa, .ref b_rf, .ref b_ro, .ref b_im, .ref b_ke, .int u_fd, .ref b_tp, .int u_td, .int u_fr, .int u_to, .int u_so, .long u_wo, .int u_fa, .int u_bd, .int u_nc, .ref b_nl, .int u_co, .ref b_op, .ref b_ar, .int u_le, .ref b_pi, .ref b_pa, .int u_pd, .int u_od, .ref b_ws, .ref b_hw, .int u_la, .ref b_se, .ref b_re, .int u_bk, .long u_va, .long u_su, .int u_ce, .int u_ho, .int u_wy, .int u_bt, .int u_ps, .ref b_pt, .int u_tg, .int u_sn, .ref b_ip, .int u_ic, .ref b_ah, .ref b_be, .ref b_me, .int u_wd, .ref b_tr, .ref b_ld, .long u_st, .ref b_wn, .int u_id])), (b_tp, .inl (G.2 0, 400, .inl v_tp))] sz)) 0 0 (va_A [(b_o, .inr (12, [.int u_th, .int u_sa, .ref b_rf, .ref b_ro, .ref b_im, .ref b_ke, .int u_fd, .ref b_tp, .int u_td, .int u_fr, .int u_to, .int u_so, .long u_wo, .int u_fa, .int u_bd, .int u_nc, .ref b_nl, .int u_co, .ref b_op, .ref b_ar, .int u_le, .ref b_pi, .ref b_pa, .int u_pd, .int u_od, .ref b_ws, .ref b_hw, .int u_la, .ref b_se, .ref b_re, .int u_bk, .long u_va, .long u_su, .int u_ce, .int u_ho, .int u_wy, .int u_bt, .int u_ps, .ref b_pt, .int u_tg, .int u_sn, .ref b_ip, .int u_ic, .ref b_ah, .ref b_be, .ref b_me, .int u_wd, .ref b_tr, .ref b_ld, .long u_st, .ref b_wn, .int u_id])), (b_tp, .inl (G.2 0, 400, .inl v_tp))] sz) := by
  refine Met.ofW (cc := cX12_begin) (maxL := 1) (ret := none) (by decide) rfl ?_
  intro p e s m args below meth c s₁ B hml hv
  obtain ⟨rfl, hsz, hP, hK, hD0, hN, hT⟩ := hv
  have hx := B.exec
  have hb := B.bytes
  have hr := B.returns
  have hts : ∀ w ∈ tblG, w.before _ s = true := fun w h => atoms_spec (ws := (wsG yX12_begin cX12_begin 1 none)) B.pre w (List.mem_cons_of_mem _ h)
  have hown : s.vm.findClass RX12 = some m.cls := findClass_of_methodNamed B.named
  have hlocks := B.notSynchronized
  subst hsz
  have hD := hD0.self (sz := s.heap.size)
  generalize hAe : va_A [(b_o, .inr (12, [.int u_th, .int u_sa, .ref b_rf, .ref b_ro, .ref b_im, .ref b_ke, .int u_fd, .ref b_tp, .int u_td, .int u_fr, .int u_to, .int u_so, .long u_wo, .int u_fa, .int u_bd, .int u_nc, .ref b_nl, .int u_co, .ref b_op, .ref b_ar, .int u_le, .ref b_pi, .ref b_pa, .int u_pd, .int u_od, .ref b_ws, .ref b_hw, .int u_la, .ref b_se, .ref b_re, .int u_bk, .long u_va, .long u_su, .int u_ce, .int u_ho, .int u_wy, .int u_bt, .int u_ps, .ref b_pt, .int u_tg, .int u_sn, .ref b_ip, .int u_ic, .ref b_ah, .ref b_be, .ref b_me, .int u_wd, .ref b_tr, .ref b_ld, .long u_st, .ref b_wn, .int u_id])), (b_tp, .inl (G.2 0, 400, .inl v_tp))] s.heap.size = A at hD hT ⊢
  have hA : ∀ q : Nat, s.heap.size ≤ q → A q := fun q h => by rw [← hAe]; exact Or.inr h
  have hS : va_S A s.heap s.heap [] := va_S.rf
  have hP : va_P G.1 vwCl [(b_o, .inr (12, [.int u_th, .int u_sa, .ref b_rf, .ref b_ro, .ref b_im, .ref b_ke, .int u_fd, .ref b_tp, .int u_td, .int u_fr, .int u_to, .int u_so, .long u_wo, .int u_fa, .int u_bd, .int u_nc, .ref b_nl, .int u_co, .ref b_op, .ref b_ar, .int u_le, .ref b_pi, .ref b_pa, .int u_pd, .int u_od, .ref b_ws, .ref b_hw, .int u_la, .ref b_se, .ref b_re, .int u_bk, .long u_va, .long u_su, .int u_ce, .int u_ho, .int u_wy, .int u_bt, .int u_ps, .ref b_pt, .int u_tg, .int u_sn, .ref b_ip, .int u_ic, .ref b_ah, .ref b_be, .ref b_me, .int u_wd, .ref b_tr, .ref b_ld, .long u_st, .ref b_wn, .int u_id])), (b_tp, .inl (G.2 0, 400, .inl v_tp))] s.heap := hP
  have hl := lv_entry ([.ref b_o]) (n := 1) (Nat.le_of_ble_eq_true rfl)
  rw [lg_entry_eq]
  generalize (lg_sl ([.ref b_o]) ++ List.replicate (1 - (lg_sl ([.ref b_o])).length) Slot.unset).toArray = ls at hl ⊢
  have hl : lv_has ls 1 [(0, .ref b_o)] := hl
  have z00 : (0 : Int32).toInt = 0 := (by decide)
  refine lv_aload_n hx hb dX12_begin_0 rfl (lv_at hl 0 rfl) ?_
  refine lv_iconst (v := 0) hx hb dX12_begin_1 (by decide) ?_
  refine va_put (D := G.1) (ci := 12) (v := .int 0) (ty := .int) (C := RX12) (T := TX12) (N := 52) hx hb hts inG_X12 tyX12 tyX12_ok nmX12 hown hK hP hD hS 0 rfl rfl 10 (by decide) (hts _ fl_X12_202) (fun _ h9 => h9) rfl (by decide +kernel) rfl rfl (Nat.le_of_ble_eq_true rfl) dX12_begin_2 (fun H locs hP hD hS => ?_)
  have hP : va_P G.1 vwCl [(b_o, .inr (12, [.int u_th, .int u_sa, .ref b_rf, .ref b_ro, .ref b_im, .ref b_ke, .int u_fd, .ref b_tp, .int u_td, .int u_fr, .int 0, .int u_so, .long u_wo, .int u_fa, .int u_bd, .int u_nc, .ref b_nl, .int u_co, .ref b_op, .ref b_ar, .int u_le, .ref b_pi, .ref b_pa, .int u_pd, .int u_od, .ref b_ws, .ref b_hw, .int u_la, .ref b_se, .ref b_re, .int u_bk, .long u_va, .long u_su, .int u_ce, .int u_ho, .int u_wy, .int u_bt, .int u_ps, .ref b_pt, .int u_tg, .int u_sn, .ref b_ip, .int u_ic, .ref b_ah, .ref b_be, .ref b_me, .int u_wd, .ref b_tr, .ref b_ld, .long u_st, .ref b_wn, .int u_id])), (b_tp, .inl (G.2 0, 400, .inl v_tp))] H := hP
  have hD : va_D A [(b_o, .inr (12, [.int u_th, .int u_sa, .ref b_rf, .ref b_ro, .ref b_im, .ref b_ke, .int u_fd, .ref b_tp, .int u_td, .int u_fr, .int 0, .int u_so, .long u_wo, .int u_fa, .int u_bd, .int u_nc, .ref b_nl, .int u_co, .ref b_op, .ref b_ar, .int u_le, .ref b_pi, .ref b_pa, .int u_pd, .int u_od, .ref b_ws, .ref b_hw, .int u_la, .ref b_se, .ref b_re, .int u_bk, .long u_va, .long u_su, .int u_ce, .int u_ho, .int u_wy, .int u_bt, .int u_ps, .ref b_pt, .int u_tg, .int u_sn, .ref b_ip, .int u_ic, .ref b_ah, .ref b_be, .ref b_me, .int u_wd, .ref b_tr, .ref b_ld, .long u_st, .ref b_wn, .int u_id])), (b_tp, .inl (G.2 0, 400, .inl v_tp))] := hD
  refine lv_aload_n hx hb dX12_begin_5 rfl (lv_at hl 0 rfl) ?_
  refine lv_iconst (v := 0) hx hb dX12_begin_6 (by decide) ?_
  refine va_put (D := G.1) (ci := 12) (v := .int 0) (ty := .boolean) (C := RX12) (T := TX12) (N := 52) hx hb hts inG_X12 tyX12 tyX12_ok nmX12 hown hK hP hD hS 0 rfl rfl 14 (by decide) (hts _ fl_X12_205) (fun _ h9 => h9) rfl (by decide +kernel) rfl rfl (Nat.le_of_ble_eq_true rfl) dX12_begin_7 (fun H locs hP hD hS => ?_)
  have hP : va_P G.1 vwCl [(b_o, .inr (12, [.int u_th, .int u_sa, .ref b_rf, .ref b_ro, .ref b_im, .ref b_ke, .int u_fd, .ref b_tp, .int u_td, .int u_fr, .int 0, .int u_so, .long u_wo, .int u_fa, .int 0, .int u_nc, .ref b_nl, .int u_co, .ref b_op, .ref b_ar, .int u_le, .ref b_pi, .ref b_pa, .int u_pd, .int u_od, .ref b_ws, .ref b_hw, .int u_la, .ref b_se, .ref b_re, .int u_bk, .long u_va, .long u_su, .int u_ce, .int u_ho, .int u_wy, .int u_bt, .int u_ps, .ref b_pt, .int u_tg, .int u_sn, .ref b_ip, .int u_ic, .ref b_ah, .ref b_be, .ref b_me, .int u_wd, .ref b_tr, .ref b_ld, .long u_st, .ref b_wn, .int u_id])), (b_tp, .inl (G.2 0, 400, .inl v_tp))] H := hP
  have hD : va_D A [(b_o, .inr (12, [.int u_th, .int u_sa, .ref b_rf, .ref b_ro, .ref b_im, .ref b_ke, .int u_fd, .ref b_tp, .int u_td, .int u_fr, .int 0, .int u_so, .long u_wo, .int u_fa, .int 0, .int u_nc, .ref b_nl, .int u_co, .ref b_op, .ref b_ar, .int u_le, .ref b_pi, .ref b_pa, .int u_pd, .int u_od, .ref b_ws, .ref b_hw, .int u_la, .ref b_se, .ref b_re, .int u_bk, .long u_va, .long u_su, .int u_ce, .int u_ho, .int u_wy, .int u_bt, .int u_ps, .ref b_pt, .int u_tg, .int u_sn, .ref b_ip, .int u_ic, .ref b_ah, .ref b_be, .ref b_me, .int u_wd, .ref b_tr, .ref b_ld, .long u_st, .ref b_wn, .int u_id])), (b_tp, .inl (G.2 0, 400, .inl v_tp))] := hD
  refine lv_aload_n hx hb dX12_begin_10 rfl (lv_at hl 0 rfl) ?_
  refine lv_iconst (v := (-1)) hx hb dX12_begin_11 (by decide) ?_
  refine va_put (D := G.1) (ci := 12) (v := .int (-1)) (ty := .int) (C := RX12) (T := TX12) (N := 52) hx hb hts inG_X12 tyX12 tyX12_ok nmX12 hown hK hP hD hS 0 rfl rfl 13 (by decide) (hts _ fl_X12_26) (fun _ h9 => h9) rfl (by decide +kernel) rfl rfl (Nat.le_of_ble_eq_true rfl) dX12_begin_12 (fun H locs hP hD hS => ?_)
  have hP : va_P G.1 vwCl [(b_o, .inr (12, [.int u_th, .int u_sa, .ref b_rf, .ref b_ro, .ref b_im, .ref b_ke, .int u_fd, .ref b_tp, .int u_td, .int u_fr, .int 0, .int u_so, .long u_wo, .int (-1), .int 0, .int u_nc, .ref b_nl, .int u_co, .ref b_op, .ref b_ar, .int u_le, .ref b_pi, .ref b_pa, .int u_pd, .int u_od, .ref b_ws, .ref b_hw, .int u_la, .ref b_se, .ref b_re, .int u_bk, .long u_va, .long u_su, .int u_ce, .int u_ho, .int u_wy, .int u_bt, .int u_ps, .ref b_pt, .int u_tg, .int u_sn, .ref b_ip, .int u_ic, .ref b_ah, .ref b_be, .ref b_me, .int u_wd, .ref b_tr, .ref b_ld, .long u_st, .ref b_wn, .int u_id])), (b_tp, .inl (G.2 0, 400, .inl v_tp))] H := hP
  have hD : va_D A [(b_o, .inr (12, [.int u_th, .int u_sa, .ref b_rf, .ref b_ro, .ref b_im, .ref b_ke, .int u_fd, .ref b_tp, .int u_td, .int u_fr, .int 0, .int u_so, .long u_wo, .int (-1), .int 0, .int u_nc, .ref b_nl, .int u_co, .ref b_op, .ref b_ar, .int u_le, .ref b_pi, .ref b_pa, .int u_pd, .int u_od, .ref b_ws, .ref b_hw, .int u_la, .ref b_se, .ref b_re, .int u_bk, .long u_va, .long u_su, .int u_ce, .int u_ho, .int u_wy, .int u_bt, .int u_ps, .ref b_pt, .int u_tg, .int u_sn, .ref b_ip, .int u_ic, .ref b_ah, .ref b_be, .ref b_me, .int u_wd, .ref b_tr, .ref b_ld, .long u_st, .ref b_wn, .int u_id])), (b_tp, .inl (G.2 0, 400, .inl v_tp))] := hD
  refine lv_aload_n hx hb dX12_begin_15 rfl (lv_at hl 0 rfl) ?_
  have hPc := hP.sub (ws' := [(b_o, .inr (12, [.int u_th, .int u_sa, .ref b_rf, .ref b_ro, .ref b_im, .ref b_ke, .int u_fd, .ref b_tp, .int u_td, .int u_fr, .int 0, .int u_so, .long u_wo, .int (-1), .int 0, .int u_nc, .ref b_nl, .int u_co, .ref b_op, .ref b_ar, .int u_le, .ref b_pi, .ref b_pa, .int u_pd, .int u_od, .ref b_ws, .ref b_hw, .int u_la, .ref b_se, .ref b_re, .int u_bk, .long u_va, .long u_su, .int u_ce, .int u_ho, .int u_wy, .int u_bt, .int u_ps, .ref b_pt, .int u_tg, .int u_sn, .ref b_ip, .int u_ic, .ref b_ah, .ref b_be, .ref b_me, .int u_wd, .ref b_tr, .ref b_ld, .long u_st, .ref b_wn, .int u_id])), (b_tp, .inl (G.2 0, 400, .inl v_tp))]) [0, 1] rfl
  have hDc := hD.sub (ws' := [(b_o, .inr (12, [.int u_th, .int u_sa, .ref b_rf, .ref b_ro, .ref b_im, .ref b_ke, .int u_fd, .ref b_tp, .int u_td, .int u_fr, .int 0, .int u_so, .long u_wo, .int (-1), .int 0, .int u_nc, .ref b_nl, .int u_co, .ref b_op, .ref b_ar, .int u_le, .ref b_pi, .ref b_pa, .int u_pd, .int u_od, .ref b_ws, .ref b_hw, .int u_la, .ref b_se, .ref b_re, .int u_bk, .long u_va, .long u_su, .int u_ce, .int u_ho, .int u_wy, .int u_bt, .int u_ps, .ref b_pt, .int u_tg, .int u_sn, .ref b_ip, .int u_ic, .ref b_ah, .ref b_be, .ref b_me, .int u_wd, .ref b_tr, .ref b_ld, .long u_st, .ref b_wn, .int u_id])), (b_tp, .inl (G.2 0, 400, .inl v_tp))]) [0, 1] (by decide) rfl
  have hFc := va_free (wc := [(b_o, .inr (12, [.int u_th, .int u_sa, .ref b_rf, .ref b_ro, .ref b_im, .ref b_ke, .int u_fd, .ref b_tp, .int u_td, .int u_fr, .int 0, .int u_so, .long u_wo, .int (-1), .int 0, .int u_nc, .ref b_nl, .int u_co, .ref b_op, .ref b_ar, .int u_le, .ref b_pi, .ref b_pa, .int u_pd, .int u_od, .ref b_ws, .ref b_hw, .int u_la, .ref b_se, .ref b_re, .int u_bk, .long u_va, .long u_su, .int u_ce, .int u_ho, .int u_wy, .int u_bt, .int u_ps, .ref b_pt, .int u_tg, .int u_sn, .ref b_ip, .int u_ic, .ref b_ah, .ref b_be, .ref b_me, .int u_wd, .ref b_tr, .ref b_ld, .long u_st, .ref b_wn, .int u_id])), (b_tp, .inl (G.2 0, 400, .inl v_tp))]) hD hS hA [0, 1] rfl
  refine va_callv (va_runV (As := []) (rest := []) ⟨hx, hb, hml, hown, hts⟩ (n_next l G b_o b_tp b_rf b_ro b_im b_ke b_nl b_op b_ar b_pi b_pa b_ws b_hw b_se b_re b_pt b_ip b_ah b_be b_me b_tr b_ld b_wn H.size u_th u_sa u_fd u_td u_fr 0 u_so (-1) 0 u_nc u_co u_le u_pd u_od u_la u_bk u_ce u_ho u_wy u_bt u_ps u_tg u_sn u_ic u_wd u_id u_wo u_va u_su u_st v_tp ⟨by omega, by omega⟩ ⟨by omega, by omega⟩ ⟨by decide, by decide⟩ ⟨by decide, by decide⟩ ⟨by omega, by omega⟩ ⟨by omega, by omega⟩ ⟨by omega, by omega⟩ ⟨by omega, by omega⟩ ⟨by omega, by omega⟩ ⟨by omega, by omega⟩ ⟨by omega, by omega⟩ ⟨by omega, by omega⟩ ⟨by omega, by omega⟩ ⟨by omega, by omega⟩ ⟨by omega, by omega⟩ ⟨by omega, by omega⟩ (by omega)) (cwV 0 hts gV_X12_208 rfl rfl rfl hv_X12_next ⟨Nat.le_of_ble_eq_true rfl, Nat.le_of_ble_eq_true rfl⟩) (g5_preV hPc hK hDc hN hT hS hFc (ci := 12) (q0 := 0) rfl rfl) rfl rfl hl.1 rfl (lv_room (Nat.le_of_ble_eq_true rfl)) dX12_begin_16 ⟨Nat.le_of_ble_eq_true rfl, Nat.le_of_ble_eq_true rfl⟩) hS (fun q _ h => hFc q h) hFc (fun u t H1 locs ht hvm hw hB hz1 hk1 hS => ?_)
  obtain ⟨hP1, hD1⟩ := hB
  rw [ht] at hP1
  obtain ⟨z5, z6, z7, z8, i_1, i_2, i_3, i_4, rfl⟩ := hw
  have i_1 : 0 ≤ z5.toInt ∧ z5.toInt ≤ 400 := i_1
  have i_2 : 0 ≤ z6.toInt ∧ z6.toInt ≤ 400 := i_2
  have i_3 : (0 : Int32).toInt ≤ z5.toInt ∧ z5.toInt ≤ z6.toInt ∧ z6.toInt ≤ u_td.toInt := i_3
  have i_4 : TKs z7.toInt z5.toInt z6.toInt := i_4
  obtain ⟨hP, hD⟩ := va_join (wr := []) (w1 := [(b_o, .inr (12, [.int u_th, .int u_sa, .ref b_rf, .ref b_ro, .ref b_im, .ref b_ke, .int u_fd, .ref b_tp, .int u_td, .int z5, .int z6, .int z7, .long z8, .int (-1), .int 0, .int u_nc, .ref b_nl, .int u_co, .ref b_op, .ref b_ar, .int u_le, .ref b_pi, .ref b_pa, .int u_pd, .int u_od, .ref b_ws, .ref b_hw, .int u_la, .ref b_se, .ref b_re, .int u_bk, .long u_va, .long u_su, .int u_ce, .int u_ho, .int u_wy, .int u_bt, .int u_ps, .ref b_pt, .int u_tg, .int u_sn, .ref b_ip, .int u_ic, .ref b_ah, .ref b_be, .ref b_me, .int u_wd, .ref b_tr, .ref b_ld, .long u_st, .ref b_wn, .int u_id])), (b_tp, .inl (G.2 0, 400, .inl v_tp))]) hP hD [0, 1] [] rfl rfl (by decide) (by decide) hk1 hFc hP1 hD1
  generalize H1 = H at hP hS ⊢
  have hP : va_P G.1 vwCl [(b_o, .inr (12, [.int u_th, .int u_sa, .ref b_rf, .ref b_ro, .ref b_im, .ref b_ke, .int u_fd, .ref b_tp, .int u_td, .int z5, .int z6, .int z7, .long z8, .int (-1), .int 0, .int u_nc, .ref b_nl, .int u_co, .ref b_op, .ref b_ar, .int u_le, .ref b_pi, .ref b_pa, .int u_pd, .int u_od, .ref b_ws, .ref b_hw, .int u_la, .ref b_se, .ref b_re, .int u_bk, .long u_va, .long u_su, .int u_ce, .int u_ho, .int u_wy, .int u_bt, .int u_ps, .ref b_pt, .int u_tg, .int u_sn, .ref b_ip, .int u_ic, .ref b_ah, .ref b_be, .ref b_me, .int u_wd, .ref b_tr, .ref b_ld, .long u_st, .ref b_wn, .int u_id])), (b_tp, .inl (G.2 0, 400, .inl v_tp))] H := hP
  have hD : va_D A [(b_o, .inr (12, [.int u_th, .int u_sa, .ref b_rf, .ref b_ro, .ref b_im, .ref b_ke, .int u_fd, .ref b_tp, .int u_td, .int z5, .int z6, .int z7, .long z8, .int (-1), .int 0, .int u_nc, .ref b_nl, .int u_co, .ref b_op, .ref b_ar, .int u_le, .ref b_pi, .ref b_pa, .int u_pd, .int u_od, .ref b_ws, .ref b_hw, .int u_la, .ref b_se, .ref b_re, .int u_bk, .long u_va, .long u_su, .int u_ce, .int u_ho, .int u_wy, .int u_bt, .int u_ps, .ref b_pt, .int u_tg, .int u_sn, .ref b_ip, .int u_ic, .ref b_ah, .ref b_be, .ref b_me, .int u_wd, .ref b_tr, .ref b_ld, .long u_st, .ref b_wn, .int u_id])), (b_tp, .inl (G.2 0, 400, .inl v_tp))] := hD
  exact W.vret hx hb hr (fun t ht hW => ⟨⟨[(b_o, .inr (12, [.int u_th, .int u_sa, .ref b_rf, .ref b_ro, .ref b_im, .ref b_ke, .int u_fd, .ref b_tp, .int u_td, .int z5, .int z6, .int z7, .long z8, .int (-1), .int 0, .int u_nc, .ref b_nl, .int u_co, .ref b_op, .ref b_ar, .int u_le, .ref b_pi, .ref b_pa, .int u_pd, .int u_od, .ref b_ws, .ref b_hw, .int u_la, .ref b_se, .ref b_re, .int u_bk, .long u_va, .long u_su, .int u_ce, .int u_ho, .int u_wy, .int u_bt, .int u_ps, .ref b_pt, .int u_tg, .int u_sn, .ref b_ip, .int u_ic, .ref b_ah, .ref b_be, .ref b_me, .int u_wd, .ref b_tr, .ref b_ld, .long u_st, .ref b_wn, .int u_id])), (b_tp, .inl (G.2 0, 400, .inl v_tp))], rfl, ⟨z5, z6, z7, z8, ⟨by omega, by omega⟩, ⟨by omega, by omega⟩, by omega, i_4, rfl⟩, by rw [ht]; exact hP.sub [0, 1] rfl, hD.sub [0, 1] (by decide) rfl⟩, hS.F ht⟩) hS.2.2 dX12_begin_19
theorem dX12_law_0 : decode cX12_law 0 = .ok (.aload_n 0, 1) := by decide +kernel
theorem dX12_law_1 : decode cX12_law 1 = .ok (.iconst 0, 1) := by decide +kernel
theorem dX12_law_2 : decode cX12_law 2 = .ok (.putfield 107, 3) := by decide +kernel
theorem dX12_law_5 : decode cX12_law 5 = .ok (.aload_n 0, 1) := by decide +kernel
theorem dX12_law_6 : decode cX12_law 6 = .ok (.getfield 13, 3) := by decide +kernel
theorem dX12_law_9 : decode cX12_law 9 = .ok (.iconst 2, 1) := by decide +kernel
theorem dX12_law_10 : decode cX12_law 10 = .ok (.iaload, 1) := by decide +kernel
theorem dX12_law_11 : decode cX12_law 11 = .ok (.bipush 6, 2) := by decide +kernel
theorem dX12_law_13 : decode cX12_law 13 = .ok (.if_icmp .ne 15, 3) := by decide +kernel
theorem dX12_law_16 : decode cX12_law 16 = .ok (.aload_n 0, 1) := by decide +kernel
theorem dX12_law_17 : decode cX12_law 17 = .ok (.iconst 0, 1) := by decide +kernel
theorem dX12_law_18 : decode cX12_law 18 = .ok (.putfield 192, 3) := by decide +kernel
theorem dX12_law_21 : decode cX12_law 21 = .ok (.aload_n 0, 1) := by decide +kernel
theorem dX12_law_22 : decode cX12_law 22 = .ok (.bipush (-5), 2) := by decide +kernel
theorem dX12_law_24 : decode cX12_law 24 = .ok (.invokevirtual 125, 3) := by decide +kernel
theorem dX12_law_27 : decode cX12_law 27 = .ok (.ireturn, 1) := by decide +kernel
theorem dX12_law_28 : decode cX12_law 28 = .ok (.aload_n 0, 1) := by decide +kernel
theorem dX12_law_29 : decode cX12_law 29 = .ok (.invokevirtual 320, 3) := by decide +kernel
theorem dX12_law_32 : decode cX12_law 32 = .ok (.aload_n 0, 1) := by decide +kernel
theorem dX12_law_33 : decode cX12_law 33 = .ok (.iconst 0, 1) := by decide +kernel
theorem dX12_law_34 : decode cX12_law 34 = .ok (.putfield 312, 3) := by decide +kernel
theorem dX12_law_37 : decode cX12_law 37 = .ok (.aload_n 0, 1) := by decide +kernel
theorem dX12_law_38 : decode cX12_law 38 = .ok (.iconst 0, 1) := by decide +kernel
theorem dX12_law_39 : decode cX12_law 39 = .ok (.putfield 237, 3) := by decide +kernel
theorem dX12_law_42 : decode cX12_law 42 = .ok (.aload_n 0, 1) := by decide +kernel
theorem dX12_law_43 : decode cX12_law 43 = .ok (.iconst 0, 1) := by decide +kernel
theorem dX12_law_44 : decode cX12_law 44 = .ok (.putfield 264, 3) := by decide +kernel
theorem dX12_law_47 : decode cX12_law 47 = .ok (.aload_n 0, 1) := by decide +kernel
theorem dX12_law_48 : decode cX12_law 48 = .ok (.invokevirtual 323, 3) := by decide +kernel
theorem dX12_law_51 : decode cX12_law 51 = .ok (.aload_n 0, 1) := by decide +kernel
theorem dX12_law_52 : decode cX12_law 52 = .ok (.getfield 205, 3) := by decide +kernel
theorem dX12_law_55 : decode cX12_law 55 = .ok (.ifCond .ne 23, 3) := by decide +kernel
theorem dX12_law_58 : decode cX12_law 58 = .ok (.aload_n 0, 1) := by decide +kernel
theorem dX12_law_59 : decode cX12_law 59 = .ok (.bipush 59, 2) := by decide +kernel
theorem dX12_law_61 : decode cX12_law 61 = .ok (.invokevirtual 267, 3) := by decide +kernel
theorem dX12_law_64 : decode cX12_law 64 = .ok (.ifCond .eq 14, 3) := by decide +kernel
theorem dX12_law_67 : decode cX12_law 67 = .ok (.aload_n 0, 1) := by decide +kernel
theorem dX12_law_68 : decode cX12_law 68 = .ok (.invokevirtual 208, 3) := by decide +kernel
theorem dX12_law_71 : decode cX12_law 71 = .ok (.aload_n 0, 1) := by decide +kernel
theorem dX12_law_72 : decode cX12_law 72 = .ok (.invokevirtual 323, 3) := by decide +kernel
theorem dX12_law_75 : decode cX12_law 75 = .ok (.goto (-24), 3) := by decide +kernel
theorem dX12_law_78 : decode cX12_law 78 = .ok (.aload_n 0, 1) := by decide +kernel
theorem dX12_law_79 : decode cX12_law 79 = .ok (.getfield 205, 3) := by decide +kernel
theorem dX12_law_82 : decode cX12_law 82 = .ok (.ifCond .ne 15, 3) := by decide +kernel
theorem dX12_law_85 : decode cX12_law 85 = .ok (.aload_n 0, 1) := by decide +kernel
theorem dX12_law_86 : decode cX12_law 86 = .ok (.getfield 224, 3) := by decide +kernel
theorem dX12_law_89 : decode cX12_law 89 = .ok (.ifCond .eq 8, 3) := by decide +kernel
theorem dX12_law_92 : decode cX12_law 92 = .ok (.aload_n 0, 1) := by decide +kernel
theorem dX12_law_93 : decode cX12_law 93 = .ok (.iconst 0, 1) := by decide +kernel
theorem dX12_law_94 : decode cX12_law 94 = .ok (.invokevirtual 233, 3) := by decide +kernel
theorem dX12_law_97 : decode cX12_law 97 = .ok (.aload_n 0, 1) := by decide +kernel
theorem dX12_law_98 : decode cX12_law 98 = .ok (.iconst 0, 1) := by decide +kernel
theorem dX12_law_99 : decode cX12_law 99 = .ok (.putfield 192, 3) := by decide +kernel
theorem dX12_law_102 : decode cX12_law 102 = .ok (.aload_n 0, 1) := by decide +kernel
theorem dX12_law_103 : decode cX12_law 103 = .ok (.getfield 205, 3) := by decide +kernel
theorem dX12_law_106 : decode cX12_law 106 = .ok (.ifCond .eq 10, 3) := by decide +kernel
theorem dX12_law_109 : decode cX12_law 109 = .ok (.aload_n 0, 1) := by decide +kernel
theorem dX12_law_110 : decode cX12_law 110 = .ok (.bipush (-6), 2) := by decide +kernel
theorem dX12_law_112 : decode cX12_law 112 = .ok (.invokevirtual 125, 3) := by decide +kernel
theorem dX12_law_115 : decode cX12_law 115 = .ok (.ireturn, 1) := by decide +kernel
theorem dX12_law_116 : decode cX12_law 116 = .ok (.sipush 340, 3) := by decide +kernel
theorem dX12_law_119 : decode cX12_law 119 = .ok (.sipush 900, 3) := by decide +kernel
theorem dX12_law_122 : decode cX12_law 122 = .ok (.aload_n 0, 1) := by decide +kernel
theorem dX12_law_123 : decode cX12_law 123 = .ok (.getfield 13, 3) := by decide +kernel
theorem dX12_law_126 : decode cX12_law 126 = .ok (.iconst 2, 1) := by decide +kernel
theorem dX12_law_127 : decode cX12_law 127 = .ok (.iaload, 1) := by decide +kernel
theorem dX12_law_128 : decode cX12_law 128 = .ok (.imul, 1) := by decide +kernel
theorem dX12_law_129 : decode cX12_law 129 = .ok (.iadd, 1) := by decide +kernel
theorem dX12_law_130 : decode cX12_law 130 = .ok (.istore_n 1, 1) := by decide +kernel
theorem dX12_law_131 : decode cX12_law 131 = .ok (.aload_n 0, 1) := by decide +kernel
theorem dX12_law_132 : decode cX12_law 132 = .ok (.getfield 13, 3) := by decide +kernel
theorem dX12_law_135 : decode cX12_law 135 = .ok (.iload_n 1, 1) := by decide +kernel
theorem dX12_law_136 : decode cX12_law 136 = .ok (.iconst 1, 1) := by decide +kernel
theorem dX12_law_137 : decode cX12_law 137 = .ok (.iadd, 1) := by decide +kernel
theorem dX12_law_138 : decode cX12_law 138 = .ok (.aload_n 0, 1) := by decide +kernel
theorem dX12_law_139 : decode cX12_law 139 = .ok (.getfield 312, 3) := by decide +kernel
theorem dX12_law_142 : decode cX12_law 142 = .ok (.iastore, 1) := by decide +kernel
theorem dX12_law_143 : decode cX12_law 143 = .ok (.iconst 0, 1) := by decide +kernel
theorem dX12_law_144 : decode cX12_law 144 = .ok (.istore_n 2, 1) := by decide +kernel
theorem dX12_law_145 : decode cX12_law 145 = .ok (.iload_n 2, 1) := by decide +kernel
theorem dX12_law_146 : decode cX12_law 146 = .ok (.bipush 8, 2) := by decide +kernel
theorem dX12_law_148 : decode cX12_law 148 = .ok (.aload_n 0, 1) := by decide +kernel
theorem dX12_law_149 : decode cX12_law 149 = .ok (.getfield 312, 3) := by decide +kernel
theorem dX12_law_152 : decode cX12_law 152 = .ok (.imul, 1) := by decide +kernel
theorem dX12_law_153 : decode cX12_law 153 = .ok (.if_icmp .ge 25, 3) := by decide +kernel
theorem dX12_law_156 : decode cX12_law 156 = .ok (.aload_n 0, 1) := by decide +kernel
theorem dX12_law_157 : decode cX12_law 157 = .ok (.getfield 13, 3) := by decide +kernel
theorem dX12_law_160 : decode cX12_law 160 = .ok (.iload_n 1, 1) := by decide +kernel
theorem dX12_law_161 : decode cX12_law 161 = .ok (.iconst 2, 1) := by decide +kernel
theorem dX12_law_162 : decode cX12_law 162 = .ok (.iadd, 1) := by decide +kernel
theorem dX12_law_163 : decode cX12_law 163 = .ok (.iload_n 2, 1) := by decide +kernel
theorem dX12_law_164 : decode cX12_law 164 = .ok (.iadd, 1) := by decide +kernel
theorem dX12_law_165 : decode cX12_law 165 = .ok (.aload_n 0, 1) := by decide +kernel
theorem dX12_law_166 : decode cX12_law 166 = .ok (.getfield 30, 3) := by decide +kernel
theorem dX12_law_169 : decode cX12_law 169 = .ok (.iload_n 2, 1) := by decide +kernel
theorem dX12_law_170 : decode cX12_law 170 = .ok (.iaload, 1) := by decide +kernel
theorem dX12_law_171 : decode cX12_law 171 = .ok (.iastore, 1) := by decide +kernel
theorem dX12_law_172 : decode cX12_law 172 = .ok (.iinc 2 1, 3) := by decide +kernel
theorem dX12_law_175 : decode cX12_law 175 = .ok (.goto (-30), 3) := by decide +kernel
theorem dX12_law_178 : decode cX12_law 178 = .ok (.iconst 0, 1) := by decide +kernel
theorem dX12_law_179 : decode cX12_law 179 = .ok (.istore_n 2, 1) := by decide +kernel
theorem dX12_law_180 : decode cX12_law 180 = .ok (.iload_n 2, 1) := by decide +kernel
theorem dX12_law_181 : decode cX12_law 181 = .ok (.aload_n 0, 1) := by decide +kernel
theorem dX12_law_182 : decode cX12_law 182 = .ok (.getfield 237, 3) := by decide +kernel
theorem dX12_law_185 : decode cX12_law 185 = .ok (.if_icmp .ge 49, 3) := by decide +kernel
theorem dX12_law_188 : decode cX12_law 188 = .ok (.aload_n 0, 1) := by decide +kernel
theorem dX12_law_189 : decode cX12_law 189 = .ok (.getfield 13, 3) := by decide +kernel
theorem dX12_law_192 : decode cX12_law 192 = .ok (.iload_n 1, 1) := by decide +kernel
theorem dX12_law_193 : decode cX12_law 193 = .ok (.bipush 98, 2) := by decide +kernel
theorem dX12_law_195 : decode cX12_law 195 = .ok (.iadd, 1) := by decide +kernel
theorem dX12_law_196 : decode cX12_law 196 = .ok (.iconst 2, 1) := by decide +kernel
theorem dX12_law_197 : decode cX12_law 197 = .ok (.iload_n 2, 1) := by decide +kernel
theorem dX12_law_198 : decode cX12_law 198 = .ok (.imul, 1) := by decide +kernel
theorem dX12_law_199 : decode cX12_law 199 = .ok (.iadd, 1) := by decide +kernel
theorem dX12_law_200 : decode cX12_law 200 = .ok (.aload_n 0, 1) := by decide +kernel
theorem dX12_law_201 : decode cX12_law 201 = .ok (.getfield 33, 3) := by decide +kernel
theorem dX12_law_204 : decode cX12_law 204 = .ok (.iload_n 2, 1) := by decide +kernel
theorem dX12_law_205 : decode cX12_law 205 = .ok (.iaload, 1) := by decide +kernel
theorem dX12_law_206 : decode cX12_law 206 = .ok (.iastore, 1) := by decide +kernel
theorem dX12_law_207 : decode cX12_law 207 = .ok (.aload_n 0, 1) := by decide +kernel
theorem dX12_law_208 : decode cX12_law 208 = .ok (.getfield 13, 3) := by decide +kernel
theorem dX12_law_211 : decode cX12_law 211 = .ok (.iload_n 1, 1) := by decide +kernel
theorem dX12_law_212 : decode cX12_law 212 = .ok (.bipush 98, 2) := by decide +kernel
theorem dX12_law_214 : decode cX12_law 214 = .ok (.iadd, 1) := by decide +kernel
theorem dX12_law_215 : decode cX12_law 215 = .ok (.iconst 2, 1) := by decide +kernel
theorem dX12_law_216 : decode cX12_law 216 = .ok (.iload_n 2, 1) := by decide +kernel
theorem dX12_law_217 : decode cX12_law 217 = .ok (.imul, 1) := by decide +kernel
theorem dX12_law_218 : decode cX12_law 218 = .ok (.iadd, 1) := by decide +kernel
theorem dX12_law_219 : decode cX12_law 219 = .ok (.iconst 1, 1) := by decide +kernel
theorem dX12_law_220 : decode cX12_law 220 = .ok (.iadd, 1) := by decide +kernel
theorem dX12_law_221 : decode cX12_law 221 = .ok (.aload_n 0, 1) := by decide +kernel
theorem dX12_law_222 : decode cX12_law 222 = .ok (.getfield 36, 3) := by decide +kernel
theorem dX12_law_225 : decode cX12_law 225 = .ok (.iload_n 2, 1) := by decide +kernel
theorem dX12_law_226 : decode cX12_law 226 = .ok (.iaload, 1) := by decide +kernel
theorem dX12_law_227 : decode cX12_law 227 = .ok (.iastore, 1) := by decide +kernel
theorem dX12_law_228 : decode cX12_law 228 = .ok (.iinc 2 1, 3) := by decide +kernel
theorem dX12_law_231 : decode cX12_law 231 = .ok (.goto (-51), 3) := by decide +kernel
theorem dX12_law_234 : decode cX12_law 234 = .ok (.aload_n 0, 1) := by decide +kernel
theorem dX12_law_235 : decode cX12_law 235 = .ok (.getfield 13, 3) := by decide +kernel
theorem dX12_law_238 : decode cX12_law 238 = .ok (.iconst 2, 1) := by decide +kernel
theorem dX12_law_239 : decode cX12_law 239 = .ok (.dup2, 1) := by decide +kernel
theorem dX12_law_240 : decode cX12_law 240 = .ok (.iaload, 1) := by decide +kernel
theorem dX12_law_241 : decode cX12_law 241 = .ok (.iconst 1, 1) := by decide +kernel
theorem dX12_law_242 : decode cX12_law 242 = .ok (.iadd, 1) := by decide +kernel
theorem dX12_law_243 : decode cX12_law 243 = .ok (.iastore, 1) := by decide +kernel
theorem dX12_law_244 : decode cX12_law 244 = .ok (.aload_n 0, 1) := by decide +kernel
theorem dX12_law_245 : decode cX12_law 245 = .ok (.aload_n 0, 1) := by decide +kernel
theorem dX12_law_246 : decode cX12_law 246 = .ok (.getfield 13, 3) := by decide +kernel
theorem dX12_law_249 : decode cX12_law 249 = .ok (.iconst 2, 1) := by decide +kernel
theorem dX12_law_250 : decode cX12_law 250 = .ok (.iaload, 1) := by decide +kernel
theorem dX12_law_251 : decode cX12_law 251 = .ok (.iconst 1, 1) := by decide +kernel
theorem dX12_law_252 : decode cX12_law 252 = .ok (.isub, 1) := by decide +kernel
theorem dX12_law_253 : decode cX12_law 253 = .ok (.invokevirtual 125, 3) := by decide +kernel
theorem dX12_law_256 : decode cX12_law 256 = .ok (.ireturn, 1) := by decide +kernel
theorem ml_X12_320 : Cond.methodLink RX12 320 yX12_begin ∈ tblG := tg 1500 (by decide +kernel) (by decide +kernel)
theorem im_X12_begin : Cond.instanceMethod yX12_begin ∈ tblG := tg 1502 (by decide +kernel) (by decide +kernel)
theorem se_X12_begin : Cond.selects RX12 yX12_begin yX12_begin ∈ tblG := tg 43 (by decide +kernel) (by decide +kernel)
theorem cd_X12_begin : Cond.code yX12_begin cX12_begin 1 none ∈ tblG := tg 1503 (by decide +kernel) (by decide +kernel)
theorem gW_X12_begin : GoodIn tblG (wsG yX12_begin cX12_begin 1 none) := tgi cd_X12_begin
theorem gV_X12_320 : GoodIn tblG (wsV RX12 320 RX12 yX12_begin (wsG yX12_begin cX12_begin 1 none)) := tgV ml_X12_320 im_X12_begin se_X12_begin ini_X12 gW_X12_begin
theorem hv_X12_begin : yX12_begin.cls = RX12 ∧ yX12_begin.cls ≠ "java/lang/invoke/MethodHandle" ∧ yX12_begin.cls ≠ "java/lang/invoke/VarHandle" ∧ (parseMethodDescriptor yX12_begin.desc).map (fun d => d.parameters.length) = some 0 := by decide +kernel
theorem ml_X12_323 : Cond.methodLink RX12 323 yX12_readClause ∈ tblG := tg 1517 (by decide +kernel) (by decide +kernel)
theorem im_X12_readClause : Cond.instanceMethod yX12_readClause ∈ tblG := tg 1519 (by decide +kernel) (by decide +kernel)
theorem se_X12_readClause : Cond.selects RX12 yX12_readClause yX12_readClause ∈ tblG := tg 45 (by decide +kernel) (by decide +kernel)
theorem cd_X12_readClause : Cond.code yX12_readClause cX12_readClause 4 none ∈ tblG := tg 1520 (by decide +kernel) (by decide +kernel)
theorem gW_X12_readClause : GoodIn tblG (wsG yX12_readClause cX12_readClause 4 none) := tgi cd_X12_readClause
theorem gV_X12_323 : GoodIn tblG (wsV RX12 323 RX12 yX12_readClause (wsG yX12_readClause cX12_readClause 4 none)) := tgV ml_X12_323 im_X12_readClause se_X12_readClause ini_X12 gW_X12_readClause
theorem hv_X12_readClause : yX12_readClause.cls = RX12 ∧ yX12_readClause.cls ≠ "java/lang/invoke/MethodHandle" ∧ yX12_readClause.cls ≠ "java/lang/invoke/VarHandle" ∧ (parseMethodDescriptor yX12_readClause.desc).map (fun d => d.parameters.length) = some 0 := by decide +kernel
