theorem dX12_step_0 : decode cX12_step 0 = .ok (.iload_n 2, 1) := by decide +kernel
theorem dX12_step_1 : decode cX12_step 1 = .ok (.iconst 4, 1) := by decide +kernel
theorem dX12_step_2 : decode cX12_step 2 = .ok (.if_icmp .ne 7, 3) := by decide +kernel
theorem dX12_step_5 : decode cX12_step 5 = .ok (.iload_n 1, 1) := by decide +kernel
theorem dX12_step_6 : decode cX12_step 6 = .ok (.goto 8, 3) := by decide +kernel
theorem dX12_step_9 : decode cX12_step 9 = .ok (.iload_n 1, 1) := by decide +kernel
theorem dX12_step_10 : decode cX12_step 10 = .ok (.iload_n 2, 1) := by decide +kernel
theorem dX12_step_11 : decode cX12_step 11 = .ok (.invokestatic 374, 3) := by decide +kernel
theorem dX12_step_14 : decode cX12_step 14 = .ok (.istore 4, 2) := by decide +kernel
theorem dX12_step_16 : decode cX12_step 16 = .ok (.iload 4, 2) := by decide +kernel
theorem dX12_step_18 : decode cX12_step 18 = .ok (.iconst (-1), 1) := by decide +kernel
theorem dX12_step_19 : decode cX12_step 19 = .ok (.if_icmp .eq 34, 3) := by decide +kernel
theorem dX12_step_22 : decode cX12_step 22 = .ok (.aload_n 0, 1) := by decide +kernel
theorem dX12_step_23 : decode cX12_step 23 = .ok (.getfield 95, 3) := by decide +kernel
theorem dX12_step_26 : decode cX12_step 26 = .ok (.bipush 64, 2) := by decide +kernel
theorem dX12_step_28 : decode cX12_step 28 = .ok (.iload_n 3, 1) := by decide +kernel
theorem dX12_step_29 : decode cX12_step 29 = .ok (.imul, 1) := by decide +kernel
theorem dX12_step_30 : decode cX12_step 30 = .ok (.iload 4, 2) := by decide +kernel
theorem dX12_step_32 : decode cX12_step 32 = .ok (.ifCond .ge 7, 3) := by decide +kernel
theorem dX12_step_35 : decode cX12_step 35 = .ok (.iconst 0, 1) := by decide +kernel
theorem dX12_step_36 : decode cX12_step 36 = .ok (.goto 5, 3) := by decide +kernel
theorem dX12_step_39 : decode cX12_step 39 = .ok (.iload 4, 2) := by decide +kernel
theorem dX12_step_41 : decode cX12_step 41 = .ok (.iadd, 1) := by decide +kernel
theorem dX12_step_42 : decode cX12_step 42 = .ok (.iaload, 1) := by decide +kernel
theorem dX12_step_43 : decode cX12_step 43 = .ok (.bipush 64, 2) := by decide +kernel
theorem dX12_step_45 : decode cX12_step 45 = .ok (.if_icmp .ge 8, 3) := by decide +kernel
theorem dX12_step_48 : decode cX12_step 48 = .ok (.iload 4, 2) := by decide +kernel
theorem dX12_step_50 : decode cX12_step 50 = .ok (.goto 4, 3) := by decide +kernel
theorem dX12_step_53 : decode cX12_step 53 = .ok (.iconst (-1), 1) := by decide +kernel
theorem dX12_step_54 : decode cX12_step 54 = .ok (.ireturn, 1) := by decide +kernel
theorem fl_X12_95 : Cond.fieldLink RX12 95 "LateGlassModel" "meets" "[I" ∈ tblG := tg 1248 (by decide +kernel) (by decide +kernel)
set_option maxHeartbeats 4000000 in
set_option maxRecDepth 100000 in
theorem n_step (l : Launch) (G : g5_G) (b_o b_me b_rf b_ro b_im b_ke b_tp b_nl b_op b_ar b_pi b_pa b_ws b_hw b_se b_re b_pt b_ip b_ah b_be b_tr b_ld b_wn : Nat) (sz : Nat) (u_th : Int32) (u_sa : Int32) (u_fd : Int32) (u_td : Int32) (u_fr : Int32) (u_to : Int32) (u_so : Int32) (u_fa : Int32) (u_bd : Int32) (u_nc : Int32) (u_co : Int32) (u_le : Int32) (u_pd : Int32) (u_od : Int32) (u_la : Int32) (u_bk : Int32) (u_ce : Int32) (u_ho : Int32) (u_wy : Int32) (u_bt : Int32) (u_ps : Int32) (u_tg : Int32) (u_sn : Int32) (u_ic : Int32) (u_wd : Int32) (u_id : Int32) (p_1 : Int32) (p_2 : Int32) (p_3 : Int32) (u_wo : Int64) (u_va : Int64) (u_su : Int64) (u_st : Int64) (v_me : Nat → Int32) (h_u_td : 0 ≤ u_td.toInt ∧ u_td.toInt ≤ 400) (h_u_fr : 0 ≤ u_fr.toInt ∧ u_fr.toInt ≤ 400) (h_u_to : 0 ≤ u_to.toInt ∧ u_to.toInt ≤ 400) (h_u_bd : 0 ≤ u_bd.toInt ∧ u_bd.toInt ≤ 1) (h_u_nc : 0 ≤ u_nc.toInt ∧ u_nc.toInt ≤ 12) (h_u_co : 0 ≤ u_co.toInt ∧ u_co.toInt ≤ 400) (h_u_pd : 0 ≤ u_pd.toInt ∧ u_pd.toInt ≤ 400) (h_u_la : 0 ≤ u_la.toInt ∧ u_la.toInt ≤ 4840) (h_u_bk : 0 ≤ u_bk.toInt ∧ u_bk.toInt ≤ 1) (h_u_ce : 0 ≤ u_ce.toInt ∧ u_ce.toInt ≤ 63) (h_u_ho : 0 ≤ u_ho.toInt ∧ u_ho.toInt ≤ 23) (h_u_wy : 0 ≤ u_wy.toInt ∧ u_wy.toInt ≤ 3) (h_u_bt : 0 ≤ u_bt.toInt ∧ u_bt.toInt ≤ 1000000) (h_u_ps : 0 ≤ u_ps.toInt ∧ u_ps.toInt ≤ 200) (h_u_ic : 0 ≤ u_ic.toInt ∧ u_ic.toInt ≤ 1) (h_u_id : 0 ≤ u_id.toInt ∧ u_id.toInt ≤ 1) (h_p_1 : 0 ≤ p_1.toInt ∧ p_1.toInt ≤ 63) (h_p_2 : 0 ≤ p_2.toInt ∧ p_2.toInt ≤ 4) (h_p_3 : 0 ≤ p_3.toInt ∧ p_3.toInt ≤ 23) (r_me : MEI v_me) : Met l yX12_step (wsG yX12_step cX12_step 5 (some .int)) ({ frames := 1, cells := 0, slots := 0, locals := 21 }) (va_Pc [.ref b_o, .int p_1, .int p_2, .int p_3] (g5_P G [(b_o, .inr (12, [.int u_th, .int u_sa, .ref b_rf, .ref b_ro, .ref b_im, .ref b_ke, .int u_fd, .ref b_tp, .int u_td, .int u_fr, .int u_to, .int u_so, .long u_wo, .int u_fa, .int u_bd, .int u_nc, .ref b_nl, .int u_co, .ref b_op, .ref b_ar, .int u_le, .ref b_pi, .ref b_pa, .int u_pd, .int u_od, .ref b_ws, .ref b_hw, .int u_la, .ref b_se, .ref b_re, .int u_bk, .long u_va, .long u_su, .int u_ce, .int u_ho, .int u_wy, .int u_bt, .int u_ps, .ref b_pt, .int u_tg, .int u_sn, .ref b_ip, .int u_ic, .ref b_ah, .ref b_be, .ref b_me, .int u_wd, .ref b_tr, .ref b_ld, .long u_st, .ref b_wn, .int u_id])), (b_me, .inl (G.2 0, 1536, .inl v_me))] sz)) (va_Qi (fun (r : Int32) (u : va_W) => (∃ (o_r : Int32), ((-1) ≤ o_r.toInt ∧ o_r.toInt ≤ 63) ∧ (o_r.toInt = -1 ∨ (v_me (64 * p_3.toInt + o_r.toInt).toNat).toInt < 64) ∧ (r = o_r) ∧ (u = [(b_o, .inr (12, [.int u_th, .int u_sa, .ref b_rf, .ref b_ro, .ref b_im, .ref b_ke, .int u_fd, .ref b_tp, .int u_td, .int u_fr, .int u_to, .int u_so, .long u_wo, .int u_fa, .int u_bd, .int u_nc, .ref b_nl, .int u_co, .ref b_op, .ref b_ar, .int u_le, .ref b_pi, .ref b_pa, .int u_pd, .int u_od, .ref b_ws, .ref b_hw, .int u_la, .ref b_se, .ref b_re, .int u_bk, .long u_va, .long u_su, .int u_ce, .int u_ho, .int u_wy, .int u_bt, .int u_ps, .ref b_pt, .int u_tg, .int u_sn, .ref b_ip, .int u_ic, .ref b_ah, .ref b_be, .ref b_me, .int u_wd, .ref b_tr, .ref b_ld, .long u_st, .ref b_wn, .int u_id])), (b_me, .inl (G.2 0, 1536, .inl v_me))]))) (g5_B G (va_A [(b_o, .inr (12, [.int u_th, .int u_sa, .ref b_rf, .ref b_ro, .ref b_im, .ref b_ke, .int u_fd, .ref b_tp, .int u_td, .int u_fr, .int u_to, .int u_so, .long u_wo, .int u_fa, .int u_bd, .int u_nc, .ref b_nl, .int u_co, .ref b_op, .ref b_ar, .int u_le, .ref b_pi, .ref b_pa, .int u_pd, .int u_od, .ref b_ws, .ref b_hw, .int u_la, .ref b_se, .ref b_re, .int u_bk, .long u_va, .long u_su, .int u_ce, .int u_ho, .int u_wy, .int u_bt, .int u_ps, .ref b_pt, .int u_tg, .int u_sn, .ref b_ip, .int u_ic, .ref b_ah, .ref b_be, .ref b_me, .int u_wd, .ref b_tr, .ref b_ld, .long u_st, .ref b_wn, .int u_id])), (b_me, .inl (G.2 0, 1536, .inl v_me))] sz)) (va_A [(b_o, .inr (12, [.int u_th, .int u_sa, .ref b_rf, .ref b_ro, .ref b_im, .ref b_ke, .int u_fd, .ref b_tp, .int u_td, .int u_fr, .int u_to, .int u_so, .long u_wo, .int u_fa, .int u_bd, .int u_nc, .ref b_nl, .int u_co, .ref b_op, .ref b_ar, .int u_le, .ref b_pi, .ref b_pa, .int u_pd, .int u_od, .ref b_ws, .ref b_hw, .int u_la, .ref b_se, .ref b_re, .int u_bk, .long u_va, .long u_su, .int u_ce, .int u_ho, .int u_wy, .int u_bt, .int u_ps, .ref b_pt, .int u_tg, .int u_sn, .ref b_ip, .int u_ic, .ref b_ah, .ref b_be, .ref b_me, .int u_wd, .ref b_tr, .ref b_ld, .long u_st, .ref b_wn, .int u_id])), (b_me, .inl (G.2 0, 1536, .inl v_me))] sz)) 0 0 (va_A [(b_o, .inr (12, [.int u_th, .int u_sa, .ref b_rf, .ref b_ro, .ref b_im, .ref b_ke, .int u_fd, .ref b_tp, .int u_td, .int u_fr, .int u_to, .int u_so, .long u_wo, .int u_fa, .int u_bd, .int u_nc, .ref b_nl, .int u_co, .ref b_op, .ref b_ar, .int u_le, .ref b_pi, .ref b_pa, .int u_pd, .int u_od, .ref b_ws, .ref b_hw, .int u_la, .ref b_se, .ref b_re, .int u_bk, .long u_va, .long u_su, .int u_ce, .int u_ho, .int u_wy, .int u_bt, .int u_ps, .ref b_pt, .int u_tg, .int u_sn, .ref b_ip, .int u_ic, .ref b_ah, .ref b_be, .ref b_me, .int u_wd, .ref b_tr, .ref b_ld, .long u_st, .ref b_wn, .int u_id])), (b_me, .inl (G.2 0, 1536, .inl v_me))] sz) := by
  refine Met.ofW (cc := cX12_step) (maxL := 5) (ret := (some .int)) (by decide) rfl ?_
  intro p e s m args below meth c s₁ B hml hv
  obtain ⟨rfl, hsz, hP, hK, hD0, hN, hT⟩ := hv
  have hx := B.exec
  have hb := B.bytes
  have hr := B.returns
  have hts : ∀ w ∈ tblG, w.before _ s = true := fun w h => atoms_spec (ws := (wsG yX12_step cX12_step 5 (some .int))) B.pre w (List.mem_cons_of_mem _ h)
  have hown : s.vm.findClass RX12 = some m.cls := findClass_of_methodNamed B.named
  have hlocks := B.notSynchronized
  subst hsz
  have hD := hD0.self (sz := s.heap.size)
  generalize hAe : va_A [(b_o, .inr (12, [.int u_th, .int u_sa, .ref b_rf, .ref b_ro, .ref b_im, .ref b_ke, .int u_fd, .ref b_tp, .int u_td, .int u_fr, .int u_to, .int u_so, .long u_wo, .int u_fa, .int u_bd, .int u_nc, .ref b_nl, .int u_co, .ref b_op, .ref b_ar, .int u_le, .ref b_pi, .ref b_pa, .int u_pd, .int u_od, .ref b_ws, .ref b_hw, .int u_la, .ref b_se, .ref b_re, .int u_bk, .long u_va, .long u_su, .int u_ce, .int u_ho, .int u_wy, .int u_bt, .int u_ps, .ref b_pt, .int u_tg, .int u_sn, .ref b_ip, .int u_ic, .ref b_ah, .ref b_be, .ref b_me, .int u_wd, .ref b_tr, .ref b_ld, .long u_st, .ref b_wn, .int u_id])), (b_me, .inl (G.2 0, 1536, .inl v_me))] s.heap.size = A at hD hT ⊢
  have hA : ∀ q : Nat, s.heap.size ≤ q → A q := fun q h => by rw [← hAe]; exact Or.inr h
  have hS : va_S A s.heap s.heap [] := va_S.rf
  have hP : va_P G.1 vwCl [(b_o, .inr (12, [.int u_th, .int u_sa, .ref b_rf, .ref b_ro, .ref b_im, .ref b_ke, .int u_fd, .ref b_tp, .int u_td, .int u_fr, .int u_to, .int u_so, .long u_wo, .int u_fa, .int u_bd, .int u_nc, .ref b_nl, .int u_co, .ref b_op, .ref b_ar, .int u_le, .ref b_pi, .ref b_pa, .int u_pd, .int u_od, .ref b_ws, .ref b_hw, .int u_la, .ref b_se, .ref b_re, .int u_bk, .long u_va, .long u_su, .int u_ce, .int u_ho, .int u_wy, .int u_bt, .int u_ps, .ref b_pt, .int u_tg, .int u_sn, .ref b_ip, .int u_ic, .ref b_ah, .ref b_be, .ref b_me, .int u_wd, .ref b_tr, .ref b_ld, .long u_st, .ref b_wn, .int u_id])), (b_me, .inl (G.2 0, 1536, .inl v_me))] s.heap := hP
  have hl := lv_entry ([.ref b_o, .int p_1, .int p_2, .int p_3]) (n := 5) (Nat.le_of_ble_eq_true rfl)
  rw [lg_entry_eq]
  generalize (lg_sl ([.ref b_o, .int p_1, .int p_2, .int p_3]) ++ List.replicate (5 - (lg_sl ([.ref b_o, .int p_1, .int p_2, .int p_3])).length) Slot.unset).toArray = ls at hl ⊢
  have hl : lv_has ls 5 [(0, .ref b_o), (1, .int p_1), (2, .int p_2), (3, .int p_3)] := hl
  refine lv_iload_n hx hb dX12_step_0 rfl (lv_at hl 2 rfl) ?_
  refine lv_iconst (v := 4) hx hb dX12_step_1 (by decide) ?_
  refine lv_icmp_ne (tgt := 9) hx hb dX12_step_2 (by decide) (fun c_1 => ?_) (fun c_1 => ?_)
  ·
    have n_1 : gNe (p_2.toInt) (4) := by have z := g5_ne (a := p_2.toInt) (b := 4) (by rfl) (by decide) c_1; unfold gNe; omega
    have i_1 : p_2.toInt ≤ 3 := by have z := g5_ne (a := p_2.toInt) (b := 4) (by rfl) (by decide) c_1; omega
    refine lv_iload_n hx hb dX12_step_9 rfl (lv_at hl 1 rfl) ?_
    refine lv_iload_n hx hb dX12_step_10 rfl (lv_at hl 2 rfl) ?_
    have hPc := hP.sub (ws' := []) [] rfl
    have hDc := hD.sub (ws' := []) [] (by decide) rfl
    have hFc := va_free (wc := []) hD hS hA [] rfl
    refine va_calli (va_runS (As := [.int p_1, .int p_2]) (rest := []) ⟨hx, hb, hml, hown, hts⟩ (n_beside l G s.heap.size p_1 p_2 ⟨by omega, by omega⟩) (va_cwS 2 hts gS_X12_374 rfl rfl rfl hs_X12_beside ⟨Nat.le_of_ble_eq_true rfl, Nat.le_of_ble_eq_true rfl⟩) (g5_preS hPc hK hDc hN hT hS hFc) rfl rfl hl.1 rfl (lv_room (Nat.le_of_ble_eq_true rfl)) dX12_step_11 ⟨Nat.le_of_ble_eq_true rfl, Nat.le_of_ble_eq_true rfl⟩) hS (fun q _ h => hFc q h) hFc (fun r u t H1 locs ht hvm hw hB hz1 hk1 hS => ?_)
    obtain ⟨hP1, hD1⟩ := hB
    rw [ht] at hP1
    obtain ⟨z3, i_2, y4, rfl⟩ := hw
    have i_2 : -1 ≤ z3.toInt ∧ z3.toInt ≤ 63 := i_2
    have hP := g5_same hP hk1
    generalize H1 = H at hP hS ⊢
    refine g5_ti (v := z3) y4 ?_
    refine lv_istore (lv' := [(4, .int z3), (0, .ref b_o), (1, .int p_1), (2, .int p_2), (3, .int p_3)]) hx hb dX12_step_14 hl (by decide) rfl (fun ls hl => ?_)
    refine lv_iload hx hb dX12_step_16 (lv_at hl 0 rfl) ?_
    refine lv_iconst (v := (-1)) hx hb dX12_step_18 (by decide) ?_
    refine lv_icmp_eq (tgt := 53) hx hb dX12_step_19 (by decide) (fun c_5 => ?_) (fun c_5 => ?_)
    ·
      have i_5 : z3.toInt = (-1) := by have z := g5_eq (a := z3.toInt) (b := (-1)) (by rfl) (by decide) c_5; omega
      refine lv_iconst (v := (-1)) hx hb dX12_step_53 (by decide) ?_
      exact W.iret (v := (-1)) hx hb hr (fun t ht hW => ⟨⟨(-1), [(b_o, .inr (12, [.int u_th, .int u_sa, .ref b_rf, .ref b_ro, .ref b_im, .ref b_ke, .int u_fd, .ref b_tp, .int u_td, .int u_fr, .int u_to, .int u_so, .long u_wo, .int u_fa, .int u_bd, .int u_nc, .ref b_nl, .int u_co, .ref b_op, .ref b_ar, .int u_le, .ref b_pi, .ref b_pa, .int u_pd, .int u_od, .ref b_ws, .ref b_hw, .int u_la, .ref b_se, .ref b_re, .int u_bk, .long u_va, .long u_su, .int u_ce, .int u_ho, .int u_wy, .int u_bt, .int u_ps, .ref b_pt, .int u_tg, .int u_sn, .ref b_ip, .int u_ic, .ref b_ah, .ref b_be, .ref b_me, .int u_wd, .ref b_tr, .ref b_ld, .long u_st, .ref b_wn, .int u_id])), (b_me, .inl (G.2 0, 1536, .inl v_me))], rfl, ⟨(-1), ⟨by have zc_o_r : ((-1) : Int32).toInt = (-1) := (by decide); omega, by have zc_o_r : ((-1) : Int32).toInt = (-1) := (by decide); omega⟩, Or.inl (by decide), rfl, rfl⟩, by rw [ht]; exact hP.sub [0, 1] rfl, hD.sub [0, 1] (by decide) rfl⟩, hS.F ht⟩) hS.2.2 dX12_step_54
    ·
      have n_5 : gNe (z3.toInt) ((-1)) := by have z := g5_eqN (a := z3.toInt) (b := (-1)) (by rfl) (by decide) c_5; unfold gNe; omega
      have i_5 : z3.toInt ≥ 0 := by have z := g5_eqN (a := z3.toInt) (b := (-1)) (by rfl) (by decide) c_5; omega
      refine lv_aload_n hx hb dX12_step_22 rfl (lv_at hl 1 rfl) ?_
      refine va_get (D := G.1) (ci := 12) (v := .ref b_me) (C := RX12) (T := TX12) (N := 52) hx hb hts inG_X12 hown hK hP 0 rfl rfl 45 (by decide) (hts _ fl_X12_95) (fun _ h9 => h9) rfl dX12_step_23 ?_
      refine lv_bipush (v := 64) hx hb dX12_step_26 (by decide) ?_
      refine lv_iload_n hx hb dX12_step_28 rfl (lv_at hl 4 rfl) ?_
      refine lv_imul hx hb dX12_step_29 ?_
      have t_6 : (64 * p_3).toInt = 64 * p_3.toInt := g5_imul (a := 64) (b := p_3.toInt) (by decide) (by rfl) (by omega) (by omega)
      refine lv_iload hx hb dX12_step_30 (lv_at hl 0 rfl) ?_
      refine lv_if_ge (tgt := 39) hx hb dX12_step_32 (by decide) (fun c_7 => ?_) (fun c_7 => ?_)
      ·
        have i_7 : z3.toInt ≥ 0 := by have z := g5_ge (a := z3.toInt) (b := 0) (by rfl) (by decide) c_7; omega
        refine lv_iload hx hb dX12_step_39 (lv_at hl 0 rfl) ?_
        refine lv_iadd hx hb dX12_step_41 ?_
        have t_8 : ((64 * p_3) + z3).toInt = (64 * p_3).toInt + z3.toInt := g5_iadd (a := (64 * p_3).toInt) (b := z3.toInt) (by rfl) (by rfl) (by omega) (by omega)
        refine va_iald hx hb hK hP 1 0 rfl rfl (i := ((64 * p_3) + z3)) (vp_in_iff.mpr ⟨by omega, by omega⟩) dX12_step_42 ?_
        have hr_9 : 0 ≤ (v_me ((64 * p_3) + z3).toNatClampNeg).toInt ∧ ((v_me ((64 * p_3) + z3).toNatClampNeg).toInt < 32 ∨ 64 ≤ (v_me ((64 * p_3) + z3).toNatClampNeg).toInt) ∧ (v_me ((64 * p_3) + z3).toNatClampNeg).toInt ≤ 127 := r_me (((64 * p_3) + z3).toNatClampNeg)
        refine lv_bipush (v := 64) hx hb dX12_step_43 (by decide) ?_
        refine lv_icmp_ge (tgt := 53) hx hb dX12_step_45 (by decide) (fun c_10 => ?_) (fun c_10 => ?_)
        ·
          have i_10 : (v_me ((64 * p_3) + z3).toNatClampNeg).toInt ≥ 64 := by have z := g5_ge (a := (v_me ((64 * p_3) + z3).toNatClampNeg).toInt) (b := 64) (by rfl) (by decide) c_10; omega
          refine lv_iconst (v := (-1)) hx hb dX12_step_53 (by decide) ?_
          exact W.iret (v := (-1)) hx hb hr (fun t ht hW => ⟨⟨(-1), [(b_o, .inr (12, [.int u_th, .int u_sa, .ref b_rf, .ref b_ro, .ref b_im, .ref b_ke, .int u_fd, .ref b_tp, .int u_td, .int u_fr, .int u_to, .int u_so, .long u_wo, .int u_fa, .int u_bd, .int u_nc, .ref b_nl, .int u_co, .ref b_op, .ref b_ar, .int u_le, .ref b_pi, .ref b_pa, .int u_pd, .int u_od, .ref b_ws, .ref b_hw, .int u_la, .ref b_se, .ref b_re, .int u_bk, .long u_va, .long u_su, .int u_ce, .int u_ho, .int u_wy, .int u_bt, .int u_ps, .ref b_pt, .int u_tg, .int u_sn, .ref b_ip, .int u_ic, .ref b_ah, .ref b_be, .ref b_me, .int u_wd, .ref b_tr, .ref b_ld, .long u_st, .ref b_wn, .int u_id])), (b_me, .inl (G.2 0, 1536, .inl v_me))], rfl, ⟨(-1), ⟨by have zc_o_r : ((-1) : Int32).toInt = (-1) := (by decide); omega, by have zc_o_r : ((-1) : Int32).toInt = (-1) := (by decide); omega⟩, Or.inl (by decide), rfl, rfl⟩, by rw [ht]; exact hP.sub [0, 1] rfl, hD.sub [0, 1] (by decide) rfl⟩, hS.F ht⟩) hS.2.2 dX12_step_54
        ·
          have i_10 : (v_me ((64 * p_3) + z3).toNatClampNeg).toInt < 64 := by have z := g5_geN (a := (v_me ((64 * p_3) + z3).toNatClampNeg).toInt) (b := 64) (by rfl) (by decide) c_10; omega
          refine lv_iload hx hb dX12_step_48 (lv_at hl 0 rfl) ?_
          refine lv_goto (tgt := 54) hx hb dX12_step_50 (by decide) ?_
          exact W.iret (v := z3) hx hb hr (fun t ht hW => ⟨⟨z3, [(b_o, .inr (12, [.int u_th, .int u_sa, .ref b_rf, .ref b_ro, .ref b_im, .ref b_ke, .int u_fd, .ref b_tp, .int u_td, .int u_fr, .int u_to, .int u_so, .long u_wo, .int u_fa, .int u_bd, .int u_nc, .ref b_nl, .int u_co, .ref b_op, .ref b_ar, .int u_le, .ref b_pi, .ref b_pa, .int u_pd, .int u_od, .ref b_ws, .ref b_hw, .int u_la, .ref b_se, .ref b_re, .int u_bk, .long u_va, .long u_su, .int u_ce, .int u_ho, .int u_wy, .int u_bt, .int u_ps, .ref b_pt, .int u_tg, .int u_sn, .ref b_ip, .int u_ic, .ref b_ah, .ref b_be, .ref b_me, .int u_wd, .ref b_tr, .ref b_ld, .long u_st, .ref b_wn, .int u_id])), (b_me, .inl (G.2 0, 1536, .inl v_me))], rfl, ⟨z3, ⟨by omega, by omega⟩, Or.inr (by have e9 : (64 * p_3.toInt + z3.toInt).toNat = ((64 * p_3) + z3).toNatClampNeg := (by have zz := g5_clamp ((64 * p_3) + z3); omega); rw [e9]; exact i_10), rfl, rfl⟩, by rw [ht]; exact hP.sub [0, 1] rfl, hD.sub [0, 1] (by decide) rfl⟩, hS.F ht⟩) hS.2.2 dX12_step_54
      ·
        have i_7 : z3.toInt < 0 := by have z := g5_geN (a := z3.toInt) (b := 0) (by rfl) (by decide) c_7; omega
        omega
  ·
    have i_1 : p_2.toInt = 4 := by have z := g5_neN (a := p_2.toInt) (b := 4) (by rfl) (by decide) c_1; omega
    refine lv_iload_n hx hb dX12_step_5 rfl (lv_at hl 1 rfl) ?_
    refine lv_goto (tgt := 14) hx hb dX12_step_6 (by decide) ?_
    refine lv_istore (lv' := [(4, .int p_1), (0, .ref b_o), (1, .int p_1), (2, .int p_2), (3, .int p_3)]) hx hb dX12_step_14 hl (by decide) rfl (fun ls hl => ?_)
    refine lv_iload hx hb dX12_step_16 (lv_at hl 0 rfl) ?_
    refine lv_iconst (v := (-1)) hx hb dX12_step_18 (by decide) ?_
    refine lv_icmp_eq (tgt := 53) hx hb dX12_step_19 (by decide) (fun c_11 => ?_) (fun c_11 => ?_)
    ·
      have i_11 : p_1.toInt = (-1) := by have z := g5_eq (a := p_1.toInt) (b := (-1)) (by rfl) (by decide) c_11; omega
      omega
    ·
      have n_11 : gNe (p_1.toInt) ((-1)) := by have z := g5_eqN (a := p_1.toInt) (b := (-1)) (by rfl) (by decide) c_11; unfold gNe; omega
      refine lv_aload_n hx hb dX12_step_22 rfl (lv_at hl 1 rfl) ?_
      refine va_get (D := G.1) (ci := 12) (v := .ref b_me) (C := RX12) (T := TX12) (N := 52) hx hb hts inG_X12 hown hK hP 0 rfl rfl 45 (by decide) (hts _ fl_X12_95) (fun _ h9 => h9) rfl dX12_step_23 ?_
      refine lv_bipush (v := 64) hx hb dX12_step_26 (by decide) ?_
      refine lv_iload_n hx hb dX12_step_28 rfl (lv_at hl 4 rfl) ?_
      refine lv_imul hx hb dX12_step_29 ?_
      have t_12 : (64 * p_3).toInt = 64 * p_3.toInt := g5_imul (a := 64) (b := p_3.toInt) (by decide) (by rfl) (by omega) (by omega)
      refine lv_iload hx hb dX12_step_30 (lv_at hl 0 rfl) ?_
      refine lv_if_ge (tgt := 39) hx hb dX12_step_32 (by decide) (fun c_13 => ?_) (fun c_13 => ?_)
      ·
        have i_13 : p_1.toInt ≥ 0 := by have z := g5_ge (a := p_1.toInt) (b := 0) (by rfl) (by decide) c_13; omega
        refine lv_iload hx hb dX12_step_39 (lv_at hl 0 rfl) ?_
        refine lv_iadd hx hb dX12_step_41 ?_
        have t_14 : ((64 * p_3) + p_1).toInt = (64 * p_3).toInt + p_1.toInt := g5_iadd (a := (64 * p_3).toInt) (b := p_1.toInt) (by rfl) (by rfl) (by omega) (by omega)
        refine va_iald hx hb hK hP 1 0 rfl rfl (i := ((64 * p_3) + p_1)) (vp_in_iff.mpr ⟨by omega, by omega⟩) dX12_step_42 ?_
        have hr_15 : 0 ≤ (v_me ((64 * p_3) + p_1).toNatClampNeg).toInt ∧ ((v_me ((64 * p_3) + p_1).toNatClampNeg).toInt < 32 ∨ 64 ≤ (v_me ((64 * p_3) + p_1).toNatClampNeg).toInt) ∧ (v_me ((64 * p_3) + p_1).toNatClampNeg).toInt ≤ 127 := r_me (((64 * p_3) + p_1).toNatClampNeg)
        refine lv_bipush (v := 64) hx hb dX12_step_43 (by decide) ?_
        refine lv_icmp_ge (tgt := 53) hx hb dX12_step_45 (by decide) (fun c_16 => ?_) (fun c_16 => ?_)
        ·
          have i_16 : (v_me ((64 * p_3) + p_1).toNatClampNeg).toInt ≥ 64 := by have z := g5_ge (a := (v_me ((64 * p_3) + p_1).toNatClampNeg).toInt) (b := 64) (by rfl) (by decide) c_16; omega
          refine lv_iconst (v := (-1)) hx hb dX12_step_53 (by decide) ?_
          exact W.iret (v := (-1)) hx hb hr (fun t ht hW => ⟨⟨(-1), [(b_o, .inr (12, [.int u_th, .int u_sa, .ref b_rf, .ref b_ro, .ref b_im, .ref b_ke, .int u_fd, .ref b_tp, .int u_td, .int u_fr, .int u_to, .int u_so, .long u_wo, .int u_fa, .int u_bd, .int u_nc, .ref b_nl, .int u_co, .ref b_op, .ref b_ar, .int u_le, .ref b_pi, .ref b_pa, .int u_pd, .int u_od, .ref b_ws, .ref b_hw, .int u_la, .ref b_se, .ref b_re, .int u_bk, .long u_va, .long u_su, .int u_ce, .int u_ho, .int u_wy, .int u_bt, .int u_ps, .ref b_pt, .int u_tg, .int u_sn, .ref b_ip, .int u_ic, .ref b_ah, .ref b_be, .ref b_me, .int u_wd, .ref b_tr, .ref b_ld, .long u_st, .ref b_wn, .int u_id])), (b_me, .inl (G.2 0, 1536, .inl v_me))], rfl, ⟨(-1), ⟨by have zc_o_r : ((-1) : Int32).toInt = (-1) := (by decide); omega, by have zc_o_r : ((-1) : Int32).toInt = (-1) := (by decide); omega⟩, Or.inl (by decide), rfl, rfl⟩, by rw [ht]; exact hP.sub [0, 1] rfl, hD.sub [0, 1] (by decide) rfl⟩, hS.F ht⟩) hS.2.2 dX12_step_54
        ·
          have i_16 : (v_me ((64 * p_3) + p_1).toNatClampNeg).toInt < 64 := by have z := g5_geN (a := (v_me ((64 * p_3) + p_1).toNatClampNeg).toInt) (b := 64) (by rfl) (by decide) c_16; omega
          refine lv_iload hx hb dX12_step_48 (lv_at hl 0 rfl) ?_
          refine lv_goto (tgt := 54) hx hb dX12_step_50 (by decide) ?_
          exact W.iret (v := p_1) hx hb hr (fun t ht hW => ⟨⟨p_1, [(b_o, .inr (12, [.int u_th, .int u_sa, .ref b_rf, .ref b_ro, .ref b_im, .ref b_ke, .int u_fd, .ref b_tp, .int u_td, .int u_fr, .int u_to, .int u_so, .long u_wo, .int u_fa, .int u_bd, .int u_nc, .ref b_nl, .int u_co, .ref b_op, .ref b_ar, .int u_le, .ref b_pi, .ref b_pa, .int u_pd, .int u_od, .ref b_ws, .ref b_hw, .int u_la, .ref b_se, .ref b_re, .int u_bk, .long u_va, .long u_su, .int u_ce, .int u_ho, .int u_wy, .int u_bt, .int u_ps, .ref b_pt, .int u_tg, .int u_sn, .ref b_ip, .int u_ic, .ref b_ah, .ref b_be, .ref b_me, .int u_wd, .ref b_tr, .ref b_ld, .long u_st, .ref b_wn, .int u_id])), (b_me, .inl (G.2 0, 1536, .inl v_me))], rfl, ⟨p_1, ⟨by omega, by omega⟩, Or.inr (by have e9 : (64 * p_3.toInt + p_1.toInt).toNat = ((64 * p_3) + p_1).toNatClampNeg := (by have zz := g5_clamp ((64 * p_3) + p_1); omega); rw [e9]; exact i_16), rfl, rfl⟩, by rw [ht]; exact hP.sub [0, 1] rfl, hD.sub [0, 1] (by decide) rfl⟩, hS.F ht⟩) hS.2.2 dX12_step_54
      ·
        have i_13 : p_1.toInt < 0 := by have z := g5_geN (a := p_1.toInt) (b := 0) (by rfl) (by decide) c_13; omega
        omega
theorem dX12_goesOn_0 : decode cX12_goesOn 0 = .ok (.iconst 0, 1) := by decide +kernel
theorem dX12_goesOn_1 : decode cX12_goesOn 1 = .ok (.istore_n 3, 1) := by decide +kernel
theorem dX12_goesOn_2 : decode cX12_goesOn 2 = .ok (.iload_n 3, 1) := by decide +kernel
theorem dX12_goesOn_3 : decode cX12_goesOn 3 = .ok (.iconst 5, 1) := by decide +kernel
theorem dX12_goesOn_4 : decode cX12_goesOn 4 = .ok (.if_icmp .ge 97, 3) := by decide +kernel
theorem dX12_goesOn_7 : decode cX12_goesOn 7 = .ok (.aload_n 0, 1) := by decide +kernel
theorem dX12_goesOn_8 : decode cX12_goesOn 8 = .ok (.iload_n 2, 1) := by decide +kernel
theorem dX12_goesOn_9 : decode cX12_goesOn 9 = .ok (.iload_n 3, 1) := by decide +kernel
theorem dX12_goesOn_10 : decode cX12_goesOn 10 = .ok (.iload_n 1, 1) := by decide +kernel
theorem dX12_goesOn_11 : decode cX12_goesOn 11 = .ok (.iconst 1, 1) := by decide +kernel
theorem dX12_goesOn_12 : decode cX12_goesOn 12 = .ok (.iadd, 1) := by decide +kernel
theorem dX12_goesOn_13 : decode cX12_goesOn 13 = .ok (.invokevirtual 437, 3) := by decide +kernel
theorem dX12_goesOn_16 : decode cX12_goesOn 16 = .ok (.istore 4, 2) := by decide +kernel
theorem dX12_goesOn_18 : decode cX12_goesOn 18 = .ok (.iconst 0, 1) := by decide +kernel
theorem dX12_goesOn_19 : decode cX12_goesOn 19 = .ok (.istore 5, 2) := by decide +kernel
theorem dX12_goesOn_21 : decode cX12_goesOn 21 = .ok (.iload 5, 2) := by decide +kernel
theorem dX12_goesOn_23 : decode cX12_goesOn 23 = .ok (.bipush 32, 2) := by decide +kernel
theorem dX12_goesOn_25 : decode cX12_goesOn 25 = .ok (.if_icmp .ge 70, 3) := by decide +kernel
theorem dX12_goesOn_28 : decode cX12_goesOn 28 = .ok (.iload 4, 2) := by decide +kernel
theorem dX12_goesOn_30 : decode cX12_goesOn 30 = .ok (.iconst (-1), 1) := by decide +kernel
theorem dX12_goesOn_31 : decode cX12_goesOn 31 = .ok (.if_icmp .eq 64, 3) := by decide +kernel
theorem dX12_goesOn_34 : decode cX12_goesOn 34 = .ok (.aload_n 0, 1) := by decide +kernel
theorem dX12_goesOn_35 : decode cX12_goesOn 35 = .ok (.getfield 89, 3) := by decide +kernel
theorem dX12_goesOn_38 : decode cX12_goesOn 38 = .ok (.bipush 32, 2) := by decide +kernel
theorem dX12_goesOn_40 : decode cX12_goesOn 40 = .ok (.bipush 64, 2) := by decide +kernel
theorem dX12_goesOn_42 : decode cX12_goesOn 42 = .ok (.iload_n 1, 1) := by decide +kernel
theorem dX12_goesOn_43 : decode cX12_goesOn 43 = .ok (.iconst 1, 1) := by decide +kernel
theorem dX12_goesOn_44 : decode cX12_goesOn 44 = .ok (.iadd, 1) := by decide +kernel
theorem dX12_goesOn_45 : decode cX12_goesOn 45 = .ok (.imul, 1) := by decide +kernel
theorem dX12_goesOn_46 : decode cX12_goesOn 46 = .ok (.iload 4, 2) := by decide +kernel
theorem dX12_goesOn_48 : decode cX12_goesOn 48 = .ok (.iadd, 1) := by decide +kernel
theorem dX12_goesOn_49 : decode cX12_goesOn 49 = .ok (.imul, 1) := by decide +kernel
theorem dX12_goesOn_50 : decode cX12_goesOn 50 = .ok (.iload 5, 2) := by decide +kernel
theorem dX12_goesOn_52 : decode cX12_goesOn 52 = .ok (.aload_n 0, 1) := by decide +kernel
theorem dX12_goesOn_53 : decode cX12_goesOn 53 = .ok (.getfield 95, 3) := by decide +kernel
theorem dX12_goesOn_56 : decode cX12_goesOn 56 = .ok (.bipush 64, 2) := by decide +kernel
theorem dX12_goesOn_58 : decode cX12_goesOn 58 = .ok (.iload_n 1, 1) := by decide +kernel
theorem dX12_goesOn_59 : decode cX12_goesOn 59 = .ok (.iconst 1, 1) := by decide +kernel
theorem dX12_goesOn_60 : decode cX12_goesOn 60 = .ok (.iadd, 1) := by decide +kernel
theorem dX12_goesOn_61 : decode cX12_goesOn 61 = .ok (.imul, 1) := by decide +kernel
theorem dX12_goesOn_62 : decode cX12_goesOn 62 = .ok (.iload 4, 2) := by decide +kernel
theorem dX12_goesOn_64 : decode cX12_goesOn 64 = .ok (.iadd, 1) := by decide +kernel
theorem dX12_goesOn_65 : decode cX12_goesOn 65 = .ok (.iaload, 1) := by decide +kernel
theorem dX12_goesOn_66 : decode cX12_goesOn 66 = .ok (.ior, 1) := by decide +kernel
theorem dX12_goesOn_67 : decode cX12_goesOn 67 = .ok (.iadd, 1) := by decide +kernel
theorem dX12_goesOn_68 : decode cX12_goesOn 68 = .ok (.dup2, 1) := by decide +kernel
theorem dX12_goesOn_69 : decode cX12_goesOn 69 = .ok (.laload, 1) := by decide +kernel
theorem dX12_goesOn_70 : decode cX12_goesOn 70 = .ok (.aload_n 0, 1) := by decide +kernel
theorem dX12_goesOn_71 : decode cX12_goesOn 71 = .ok (.getfield 89, 3) := by decide +kernel
theorem dX12_goesOn_74 : decode cX12_goesOn 74 = .ok (.bipush 32, 2) := by decide +kernel
theorem dX12_goesOn_76 : decode cX12_goesOn 76 = .ok (.bipush 64, 2) := by decide +kernel
theorem dX12_goesOn_78 : decode cX12_goesOn 78 = .ok (.iload_n 1, 1) := by decide +kernel
theorem dX12_goesOn_79 : decode cX12_goesOn 79 = .ok (.imul, 1) := by decide +kernel
theorem dX12_goesOn_80 : decode cX12_goesOn 80 = .ok (.iload_n 2, 1) := by decide +kernel
theorem dX12_goesOn_81 : decode cX12_goesOn 81 = .ok (.iadd, 1) := by decide +kernel
theorem dX12_goesOn_82 : decode cX12_goesOn 82 = .ok (.imul, 1) := by decide +kernel
theorem dX12_goesOn_83 : decode cX12_goesOn 83 = .ok (.iload 5, 2) := by decide +kernel
theorem dX12_goesOn_85 : decode cX12_goesOn 85 = .ok (.iadd, 1) := by decide +kernel
theorem dX12_goesOn_86 : decode cX12_goesOn 86 = .ok (.laload, 1) := by decide +kernel
theorem dX12_goesOn_87 : decode cX12_goesOn 87 = .ok (.ladd, 1) := by decide +kernel
theorem dX12_goesOn_88 : decode cX12_goesOn 88 = .ok (.lastore, 1) := by decide +kernel
theorem dX12_goesOn_89 : decode cX12_goesOn 89 = .ok (.iinc 5 1, 3) := by decide +kernel
theorem dX12_goesOn_92 : decode cX12_goesOn 92 = .ok (.goto (-71), 3) := by decide +kernel
theorem dX12_goesOn_95 : decode cX12_goesOn 95 = .ok (.iinc 3 1, 3) := by decide +kernel
theorem dX12_goesOn_98 : decode cX12_goesOn 98 = .ok (.goto (-96), 3) := by decide +kernel
theorem dX12_goesOn_101 : decode cX12_goesOn 101 = .ok (.return_, 1) := by decide +kernel
theorem ml_X12_437 : Cond.methodLink RX12 437 yX12_step ∈ tblG := tg 1728 (by decide +kernel) (by decide +kernel)
theorem im_X12_step : Cond.instanceMethod yX12_step ∈ tblG := tg 1730 (by decide +kernel) (by decide +kernel)
theorem se_X12_step : Cond.selects RX12 yX12_step yX12_step ∈ tblG := tg 79 (by decide +kernel) (by decide +kernel)
theorem cd_X12_step : Cond.code yX12_step cX12_step 5 (some .int) ∈ tblG := tg 1731 (by decide +kernel) (by decide +kernel)
theorem gW_X12_step : GoodIn tblG (wsG yX12_step cX12_step 5 (some .int)) := tgi cd_X12_step
theorem gV_X12_437 : GoodIn tblG (wsV RX12 437 RX12 yX12_step (wsG yX12_step cX12_step 5 (some .int))) := tgV ml_X12_437 im_X12_step se_X12_step ini_X12 gW_X12_step
theorem hv_X12_step : yX12_step.cls = RX12 ∧ yX12_step.cls ≠ "java/lang/invoke/MethodHandle" ∧ yX12_step.cls ≠ "java/lang/invoke/VarHandle" ∧ (parseMethodDescriptor yX12_step.desc).map (fun d => d.parameters.length) = some 3 := by decide +kernel
theorem fl_X12_89 : Cond.fieldLink RX12 89 "LateGlassModel" "ahead" "[J" ∈ tblG := tg 1246 (by decide +kernel) (by decide +kernel)
set_option maxHeartbeats 4000000 in
set_option maxRecDepth 100000 in
theorem n_goesOn (l : Launch) (G : g5_G) (b_o b_ah b_me b_rf b_ro b_im b_ke b_tp b_nl b_op b_ar b_pi b_pa b_ws b_hw b_se b_re b_pt b_ip b_be b_tr b_ld b_wn : Nat) (sz : Nat) (u_th : Int32) (u_sa : Int32) (u_fd : Int32) (u_td : Int32) (u_fr : Int32) (u_to : Int32) (u_so : Int32) (u_fa : Int32) (u_bd : Int32) (u_nc : Int32) (u_co : Int32) (u_le : Int32) (u_pd : Int32) (u_od : Int32) (u_la : Int32) (u_bk : Int32) (u_ce : Int32) (u_ho : Int32) (u_wy : Int32) (u_bt : Int32) (u_ps : Int32) (u_tg : Int32) (u_sn : Int32) (u_ic : Int32) (u_wd : Int32) (u_id : Int32) (p_1 : Int32) (p_2 : Int32) (u_wo : Int64) (u_va : Int64) (u_su : Int64) (u_st : Int64) (v_ah : Nat → Int64) (v_me : Nat → Int32) (h_u_td : 0 ≤ u_td.toInt ∧ u_td.toInt ≤ 400) (h_u_fr : 0 ≤ u_fr.toInt ∧ u_fr.toInt ≤ 400) (h_u_to : 0 ≤ u_to.toInt ∧ u_to.toInt ≤ 400) (h_u_bd : 0 ≤ u_bd.toInt ∧ u_bd.toInt ≤ 1) (h_u_nc : 0 ≤ u_nc.toInt ∧ u_nc.toInt ≤ 12) (h_u_co : 0 ≤ u_co.toInt ∧ u_co.toInt ≤ 400) (h_u_pd : 0 ≤ u_pd.toInt ∧ u_pd.toInt ≤ 400) (h_u_la : 0 ≤ u_la.toInt ∧ u_la.toInt ≤ 4840) (h_u_bk : 0 ≤ u_bk.toInt ∧ u_bk.toInt ≤ 1) (h_u_ce : 0 ≤ u_ce.toInt ∧ u_ce.toInt ≤ 63) (h_u_ho : 0 ≤ u_ho.toInt ∧ u_ho.toInt ≤ 23) (h_u_wy : 0 ≤ u_wy.toInt ∧ u_wy.toInt ≤ 3) (h_u_bt : 0 ≤ u_bt.toInt ∧ u_bt.toInt ≤ 1000000) (h_u_ps : 0 ≤ u_ps.toInt ∧ u_ps.toInt ≤ 200) (h_u_ic : 0 ≤ u_ic.toInt ∧ u_ic.toInt ≤ 1) (h_u_id : 0 ≤ u_id.toInt ∧ u_id.toInt ≤ 1) (h_p_1 : 0 ≤ p_1.toInt ∧ p_1.toInt ≤ 22) (h_p_2 : 0 ≤ p_2.toInt ∧ p_2.toInt ≤ 63) (r_me : MEI v_me) : Met l yX12_goesOn (wsG yX12_goesOn cX12_goesOn 6 none) ({ frames := 2, cells := 0, slots := 0, locals := 45 }) (va_Pc [.ref b_o, .int p_1, .int p_2] (g5_P G [(b_o, .inr (12, [.int u_th, .int u_sa, .ref b_rf, .ref b_ro, .ref b_im, .ref b_ke, .int u_fd, .ref b_tp, .int u_td, .int u_fr, .int u_to, .int u_so, .long u_wo, .int u_fa, .int u_bd, .int u_nc, .ref b_nl, .int u_co, .ref b_op, .ref b_ar, .int u_le, .ref b_pi, .ref b_pa, .int u_pd, .int u_od, .ref b_ws, .ref b_hw, .int u_la, .ref b_se, .ref b_re, .int u_bk, .long u_va, .long u_su, .int u_ce, .int u_ho, .int u_wy, .int u_bt, .int u_ps, .ref b_pt, .int u_tg, .int u_sn, .ref b_ip, .int u_ic, .ref b_ah, .ref b_be, .ref b_me, .int u_wd, .ref b_tr, .ref b_ld, .long u_st, .ref b_wn, .int u_id])), (b_ah, .inl (G.2 1, 49152, .inr (.inl v_ah))), (b_me, .inl (G.2 0, 1536, .inl v_me))] sz)) (va_Qv (fun (u : va_W) => (∃ (o_ah : Nat → Int64), (u = [(b_o, .inr (12, [.int u_th, .int u_sa, .ref b_rf, .ref b_ro, .ref b_im, .ref b_ke, .int u_fd, .ref b_tp, .int u_td, .int u_fr, .int u_to, .int u_so, .long u_wo, .int u_fa, .int u_bd, .int u_nc, .ref b_nl, .int u_co, .ref b_op, .ref b_ar, .int u_le, .ref b_pi, .ref b_pa, .int u_pd, .int u_od, .ref b_ws, .ref b_hw, .int u_la, .ref b_se, .ref b_re, .int u_bk, .long u_va, .long u_su, .int u_ce, .int u_ho, .int u_wy, .int u_bt, .int u_ps, .ref b_pt, .int u_tg, .int u_sn, .ref b_ip, .int u_ic, .ref b_ah, .ref b_be, .ref b_me, .int u_wd, .ref b_tr, .ref b_ld, .long u_st, .ref b_wn, .int u_id])), (b_ah, .inl (G.2 1, 49152, .inr (.inl o_ah))), (b_me, .inl (G.2 0, 1536, .inl v_me))]))) (g5_B G (va_A [(b_o, .inr (12, [.int u_th, .int u_sa, .ref b_rf, .ref b_ro, .ref b_im, .ref b_ke, .int u_fd, .ref b_tp, .int u_td, .int u_fr, .int u_to, .int u_so, .long u_wo, .int u_fa, .int u_bd, .int u_nc, .ref b_nl, .int u_co, .ref b_op, .ref b_ar, .int u_le, .ref b_pi, .ref b_pa, .int u_pd, .int u_od, .ref b_ws, .ref b_hw, .int u_la, .ref b_se, .ref b_re, .int u_bk, .long u_va, .long u_su, .int u_ce, .int u_ho, .int u_wy, .int u_bt, .int u_ps, .ref b_pt, .int u_tg, .int u_sn, .ref b_ip, .int u_ic, .ref b_ah, .ref b_be, .ref b_me, .int u_wd, .ref b_tr, .ref b_ld, .long u_st, .ref b_wn, .int u_id])), (b_ah, .inl (G.2 1, 49152, .inr (.inl v_ah))), (b_me, .inl (G.2 0, 1536, .inl v_me))] sz)) (va_A [(b_o, .inr (12, [.int u_th, .int u_sa, .ref b_rf, .ref b_ro, .ref b_im, .ref b_ke, .int u_fd, .ref b_tp, .int u_td, .int u_fr, .int u_to, .int u_so, .long u_wo, .int u_fa, .int u_bd, .int u_nc, .ref b_nl, .int u_co, .ref b_op, .ref b_ar, .int u_le, .ref b_pi, .ref b_pa, .int u_pd, .int u_od, .ref b_ws, .ref b_hw, .int u_la, .ref b_se, .ref b_re, .int u_bk, .long u_va, .long u_su, .int u_ce, .int u_ho, .int u_wy, .int u_bt, .int u_ps, .ref b_pt, .int u_tg, .int u_sn, .ref b_ip, .int u_ic, .ref b_ah, .ref b_be, .ref b_me, .int u_wd, .ref b_tr, .ref b_ld, .long u_st, .ref b_wn, .int u_id])), (b_ah, .inl (G.2 1, 49152, .inr (.inl v_ah))), (b_me, .inl (G.2 0, 1536, .inl v_me))] sz)) 0 0 (va_A [(b_o, .inr (12, [.int u_th, .int u_sa, .ref b_rf, .ref b_ro, .ref b_im, .ref b_ke, .int u_fd, .ref b_tp, .int u_td, .int u_fr, .int u_to, .int u_so, .long u_wo, .int u_fa, .int u_bd, .int u_nc, .ref b_nl, .int u_co, .ref b_op, .ref b_ar, .int u_le, .ref b_pi, .ref b_pa, .int u_pd, .int u_od, .ref b_ws, .ref b_hw, .int u_la, .ref b_se, .ref b_re, .int u_bk, .long u_va, .long u_su, .int u_ce, .int u_ho, .int u_wy, .int u_bt, .int u_ps, .ref b_pt, .int u_tg, .int u_sn, .ref b_ip, .int u_ic, .ref b_ah, .ref b_be, .ref b_me, .int u_wd, .ref b_tr, .ref b_ld, .long u_st, .ref b_wn, .int u_id])), (b_ah, .inl (G.2 1, 49152, .inr (.inl v_ah))), (b_me, .inl (G.2 0, 1536, .inl v_me))] sz) := by
  refine Met.ofW (cc := cX12_goesOn) (maxL := 6) (ret := none) (by decide) rfl ?_
  intro p e s m args below meth c s₁ B hml hv
  obtain ⟨rfl, hsz, hP, hK, hD0, hN, hT⟩ := hv
  have hx := B.exec
  have hb := B.bytes
  have hr := B.returns
  have hts : ∀ w ∈ tblG, w.before _ s = true := fun w h => atoms_spec (ws := (wsG yX12_goesOn cX12_goesOn 6 none)) B.pre w (List.mem_cons_of_mem _ h)
  have hown : s.vm.findClass RX12 = some m.cls := findClass_of_methodNamed B.named
  have hlocks := B.notSynchronized
  subst hsz
  have hD := hD0.self (sz := s.heap.size)
  generalize hAe : va_A [(b_o, .inr (12, [.int u_th, .int u_sa, .ref b_rf, .ref b_ro, .ref b_im, .ref b_ke, .int u_fd, .ref b_tp, .int u_td, .int u_fr, .int u_to, .int u_so, .long u_wo, .int u_fa, .int u_bd, .int u_nc, .ref b_nl, .int u_co, .ref b_op, .ref b_ar, .int u_le, .ref b_pi, .ref b_pa, .int u_pd, .int u_od, .ref b_ws, .ref b_hw, .int u_la, .ref b_se, .ref b_re, .int u_bk, .long u_va, .long u_su, .int u_ce, .int u_ho, .int u_wy, .int u_bt, .int u_ps, .ref b_pt, .int u_tg, .int u_sn, .ref b_ip, .int u_ic, .ref b_ah, .ref b_be, .ref b_me, .int u_wd, .ref b_tr, .ref b_ld, .long u_st, .ref b_wn, .int u_id])), (b_ah, .inl (G.2 1, 49152, .inr (.inl v_ah))), (b_me, .inl (G.2 0, 1536, .inl v_me))] s.heap.size = A at hD hT ⊢
  have hA : ∀ q : Nat, s.heap.size ≤ q → A q := fun q h => by rw [← hAe]; exact Or.inr h
  have hS : va_S A s.heap s.heap [] := va_S.rf
  have hP : va_P G.1 vwCl [(b_o, .inr (12, [.int u_th, .int u_sa, .ref b_rf, .ref b_ro, .ref b_im, .ref b_ke, .int u_fd, .ref b_tp, .int u_td, .int u_fr, .int u_to, .int u_so, .long u_wo, .int u_fa, .int u_bd, .int u_nc, .ref b_nl, .int u_co, .ref b_op, .ref b_ar, .int u_le, .ref b_pi, .ref b_pa, .int u_pd, .int u_od, .ref b_ws, .ref b_hw, .int u_la, .ref b_se, .ref b_re, .int u_bk, .long u_va, .long u_su, .int u_ce, .int u_ho, .int u_wy, .int u_bt, .int u_ps, .ref b_pt, .int u_tg, .int u_sn, .ref b_ip, .int u_ic, .ref b_ah, .ref b_be, .ref b_me, .int u_wd, .ref b_tr, .ref b_ld, .long u_st, .ref b_wn, .int u_id])), (b_ah, .inl (G.2 1, 49152, .inr (.inl v_ah))), (b_me, .inl (G.2 0, 1536, .inl v_me))] s.heap := hP
  have hl := lv_entry ([.ref b_o, .int p_1, .int p_2]) (n := 6) (Nat.le_of_ble_eq_true rfl)
  rw [lg_entry_eq]
  generalize (lg_sl ([.ref b_o, .int p_1, .int p_2]) ++ List.replicate (6 - (lg_sl ([.ref b_o, .int p_1, .int p_2])).length) Slot.unset).toArray = ls at hl ⊢
  have hl : lv_has ls 6 [(0, .ref b_o), (1, .int p_1), (2, .int p_2)] := hl
  refine lv_iconst (v := 0) hx hb dX12_goesOn_0 (by decide) ?_
  refine lv_istore_n (lv' := [(3, .int 0), (0, .ref b_o), (1, .int p_1), (2, .int p_2)]) hx hb dX12_goesOn_1 rfl hl (by decide) rfl (fun ls hl => ?_)
  refine g5_loop (α := (Int32) × (Nat → Int64)) (fun (q : (Int32) × (Nat → Int64)) (ls : Array Slot) (H : Heap) (locs : List Loc) => match q with | (k2_3, k2_ah) => lv_has ls 6 [(3, .int k2_3), (0, .ref b_o), (1, .int p_1), (2, .int p_2)] ∧ va_P G.1 vwCl [(b_o, .inr (12, [.int u_th, .int u_sa, .ref b_rf, .ref b_ro, .ref b_im, .ref b_ke, .int u_fd, .ref b_tp, .int u_td, .int u_fr, .int u_to, .int u_so, .long u_wo, .int u_fa, .int u_bd, .int u_nc, .ref b_nl, .int u_co, .ref b_op, .ref b_ar, .int u_le, .ref b_pi, .ref b_pa, .int u_pd, .int u_od, .ref b_ws, .ref b_hw, .int u_la, .ref b_se, .ref b_re, .int u_bk, .long u_va, .long u_su, .int u_ce, .int u_ho, .int u_wy, .int u_bt, .int u_ps, .ref b_pt, .int u_tg, .int u_sn, .ref b_ip, .int u_ic, .ref b_ah, .ref b_be, .ref b_me, .int u_wd, .ref b_tr, .ref b_ld, .long u_st, .ref b_wn, .int u_id])), (b_ah, .inl (G.2 1, 49152, .inr (.inl k2_ah))), (b_me, .inl (G.2 0, 1536, .inl v_me))] H ∧ va_D A [(b_o, .inr (12, [.int u_th, .int u_sa, .ref b_rf, .ref b_ro, .ref b_im, .ref b_ke, .int u_fd, .ref b_tp, .int u_td, .int u_fr, .int u_to, .int u_so, .long u_wo, .int u_fa, .int u_bd, .int u_nc, .ref b_nl, .int u_co, .ref b_op, .ref b_ar, .int u_le, .ref b_pi, .ref b_pa, .int u_pd, .int u_od, .ref b_ws, .ref b_hw, .int u_la, .ref b_se, .ref b_re, .int u_bk, .long u_va, .long u_su, .int u_ce, .int u_ho, .int u_wy, .int u_bt, .int u_ps, .ref b_pt, .int u_tg, .int u_sn, .ref b_ip, .int u_ic, .ref b_ah, .ref b_be, .ref b_me, .int u_wd, .ref b_tr, .ref b_ld, .long u_st, .ref b_wn, .int u_id])), (b_ah, .inl (G.2 1, 49152, .inr (.inl k2_ah))), (b_me, .inl (G.2 0, 1536, .inl v_me))] ∧ va_S A s.heap H locs ∧ (0 ≤ k2_3.toInt ∧ k2_3.toInt ≤ 5)) (fun (q : (Int32) × (Nat → Int64)) => match q with | (k2_3, k2_ah) => Int.toNat (5 - k2_3.toInt)) (0, v_ah) ⟨lv_sub hl [0, 1, 2, 3] rfl, hP, hD, hS, ⟨by decide, by decide⟩⟩ ?_
  rintro ⟨k2_3, k2_ah⟩ ls H locs ⟨hl, hP, hD, hS, i_1⟩ ih_2_2
  have hl : lv_has ls 6 [(3, .int k2_3), (0, .ref b_o), (1, .int p_1), (2, .int p_2)] := hl
  have i_1 : 0 ≤ k2_3.toInt ∧ k2_3.toInt ≤ 5 := i_1
  have hP : va_P G.1 vwCl [(b_o, .inr (12, [.int u_th, .int u_sa, .ref b_rf, .ref b_ro, .ref b_im, .ref b_ke, .int u_fd, .ref b_tp, .int u_td, .int u_fr, .int u_to, .int u_so, .long u_wo, .int u_fa, .int u_bd, .int u_nc, .ref b_nl, .int u_co, .ref b_op, .ref b_ar, .int u_le, .ref b_pi, .ref b_pa, .int u_pd, .int u_od, .ref b_ws, .ref b_hw, .int u_la, .ref b_se, .ref b_re, .int u_bk, .long u_va, .long u_su, .int u_ce, .int u_ho, .int u_wy, .int u_bt, .int u_ps, .ref b_pt, .int u_tg, .int u_sn, .ref b_ip, .int u_ic, .ref b_ah, .ref b_be, .ref b_me, .int u_wd, .ref b_tr, .ref b_ld, .long u_st, .ref b_wn, .int u_id])), (b_ah, .inl (G.2 1, 49152, .inr (.inl k2_ah))), (b_me, .inl (G.2 0, 1536, .inl v_me))] H := hP
  have hD : va_D A [(b_o, .inr (12, [.int u_th, .int u_sa, .ref b_rf, .ref b_ro, .ref b_im, .ref b_ke, .int u_fd, .ref b_tp, .int u_td, .int u_fr, .int u_to, .int u_so, .long u_wo, .int u_fa, .int u_bd, .int u_nc, .ref b_nl, .int u_co, .ref b_op, .ref b_ar, .int u_le, .ref b_pi, .ref b_pa, .int u_pd, .int u_od, .ref b_ws, .ref b_hw, .int u_la, .ref b_se, .ref b_re, .int u_bk, .long u_va, .long u_su, .int u_ce, .int u_ho, .int u_wy, .int u_bt, .int u_ps, .ref b_pt, .int u_tg, .int u_sn, .ref b_ip, .int u_ic, .ref b_ah, .ref b_be, .ref b_me, .int u_wd, .ref b_tr, .ref b_ld, .long u_st, .ref b_wn, .int u_id])), (b_ah, .inl (G.2 1, 49152, .inr (.inl k2_ah))), (b_me, .inl (G.2 0, 1536, .inl v_me))] := hD
  refine lv_iload_n hx hb dX12_goesOn_2 rfl (lv_at hl 0 rfl) ?_
  refine lv_iconst (v := 5) hx hb dX12_goesOn_3 (by decide) ?_
  refine lv_icmp_ge (tgt := 101) hx hb dX12_goesOn_4 (by decide) (fun c_3 => ?_) (fun c_3 => ?_)
  ·
    have i_3 : k2_3.toInt ≥ 5 := by have z := g5_ge (a := k2_3.toInt) (b := 5) (by rfl) (by decide) c_3; omega
    exact W.vret hx hb hr (fun t ht hW => ⟨⟨[(b_o, .inr (12, [.int u_th, .int u_sa, .ref b_rf, .ref b_ro, .ref b_im, .ref b_ke, .int u_fd, .ref b_tp, .int u_td, .int u_fr, .int u_to, .int u_so, .long u_wo, .int u_fa, .int u_bd, .int u_nc, .ref b_nl, .int u_co, .ref b_op, .ref b_ar, .int u_le, .ref b_pi, .ref b_pa, .int u_pd, .int u_od, .ref b_ws, .ref b_hw, .int u_la, .ref b_se, .ref b_re, .int u_bk, .long u_va, .long u_su, .int u_ce, .int u_ho, .int u_wy, .int u_bt, .int u_ps, .ref b_pt, .int u_tg, .int u_sn, .ref b_ip, .int u_ic, .ref b_ah, .ref b_be, .ref b_me, .int u_wd, .ref b_tr, .ref b_ld, .long u_st, .ref b_wn, .int u_id])), (b_ah, .inl (G.2 1, 49152, .inr (.inl k2_ah))), (b_me, .inl (G.2 0, 1536, .inl v_me))], rfl, ⟨k2_ah, rfl⟩, by rw [ht]; exact hP.sub [0, 1, 2] rfl, hD.sub [0, 1, 2] (by decide) rfl⟩, hS.F ht⟩) hS.2.2 dX12_goesOn_101
  ·
    have i_3 : k2_3.toInt < 5 := by have z := g5_geN (a := k2_3.toInt) (b := 5) (by rfl) (by decide) c_3; omega
    refine lv_aload_n hx hb dX12_goesOn_7 rfl (lv_at hl 1 rfl) ?_
    refine lv_iload_n hx hb dX12_goesOn_8 rfl (lv_at hl 3 rfl) ?_
    refine lv_iload_n hx hb dX12_goesOn_9 rfl (lv_at hl 0 rfl) ?_
    refine lv_iload_n hx hb dX12_goesOn_10 rfl (lv_at hl 2 rfl) ?_
    refine lv_iconst (v := 1) hx hb dX12_goesOn_11 (by decide) ?_
    refine lv_iadd hx hb dX12_goesOn_12 ?_
    have t_4 : (p_1 + 1).toInt = p_1.toInt + 1 := g5_iadd (a := p_1.toInt) (b := 1) (by rfl) (by decide) (by omega) (by omega)
    have hPc := hP.sub (ws' := [(b_o, .inr (12, [.int u_th, .int u_sa, .ref b_rf, .ref b_ro, .ref b_im, .ref b_ke, .int u_fd, .ref b_tp, .int u_td, .int u_fr, .int u_to, .int u_so, .long u_wo, .int u_fa, .int u_bd, .int u_nc, .ref b_nl, .int u_co, .ref b_op, .ref b_ar, .int u_le, .ref b_pi, .ref b_pa, .int u_pd, .int u_od, .ref b_ws, .ref b_hw, .int u_la, .ref b_se, .ref b_re, .int u_bk, .long u_va, .long u_su, .int u_ce, .int u_ho, .int u_wy, .int u_bt, .int u_ps, .ref b_pt, .int u_tg, .int u_sn, .ref b_ip, .int u_ic, .ref b_ah, .ref b_be, .ref b_me, .int u_wd, .ref b_tr, .ref b_ld, .long u_st, .ref b_wn, .int u_id])), (b_me, .inl (G.2 0, 1536, .inl v_me))]) [0, 2] rfl
    have hDc := hD.sub (ws' := [(b_o, .inr (12, [.int u_th, .int u_sa, .ref b_rf, .ref b_ro, .ref b_im, .ref b_ke, .int u_fd, .ref b_tp, .int u_td, .int u_fr, .int u_to, .int u_so, .long u_wo, .int u_fa, .int u_bd, .int u_nc, .ref b_nl, .int u_co, .ref b_op, .ref b_ar, .int u_le, .ref b_pi, .ref b_pa, .int u_pd, .int u_od, .ref b_ws, .ref b_hw, .int u_la, .ref b_se, .ref b_re, .int u_bk, .long u_va, .long u_su, .int u_ce, .int u_ho, .int u_wy, .int u_bt, .int u_ps, .ref b_pt, .int u_tg, .int u_sn, .ref b_ip, .int u_ic, .ref b_ah, .ref b_be, .ref b_me, .int u_wd, .ref b_tr, .ref b_ld, .long u_st, .ref b_wn, .int u_id])), (b_me, .inl (G.2 0, 1536, .inl v_me))]) [0, 2] (by decide) rfl
    have hFc := va_free (wc := [(b_o, .inr (12, [.int u_th, .int u_sa, .ref b_rf, .ref b_ro, .ref b_im, .ref b_ke, .int u_fd, .ref b_tp, .int u_td, .int u_fr, .int u_to, .int u_so, .long u_wo, .int u_fa, .int u_bd, .int u_nc, .ref b_nl, .int u_co, .ref b_op, .ref b_ar, .int u_le, .ref b_pi, .ref b_pa, .int u_pd, .int u_od, .ref b_ws, .ref b_hw, .int u_la, .ref b_se, .ref b_re, .int u_bk, .long u_va, .long u_su, .int u_ce, .int u_ho, .int u_wy, .int u_bt, .int u_ps, .ref b_pt, .int u_tg, .int u_sn, .ref b_ip, .int u_ic, .ref b_ah, .ref b_be, .ref b_me, .int u_wd, .ref b_tr, .ref b_ld, .long u_st, .ref b_wn, .int u_id])), (b_me, .inl (G.2 0, 1536, .inl v_me))]) hD hS hA [0, 2] rfl
    refine va_calli (va_runV (As := [.int p_2, .int k2_3, .int (p_1 + 1)]) (rest := []) ⟨hx, hb, hml, hown, hts⟩ (n_step l G b_o b_me b_rf b_ro b_im b_ke b_tp b_nl b_op b_ar b_pi b_pa b_ws b_hw b_se b_re b_pt b_ip b_ah b_be b_tr b_ld b_wn H.size u_th u_sa u_fd u_td u_fr u_to u_so u_fa u_bd u_nc u_co u_le u_pd u_od u_la u_bk u_ce u_ho u_wy u_bt u_ps u_tg u_sn u_ic u_wd u_id p_2 k2_3 (p_1 + 1) u_wo u_va u_su u_st v_me ⟨by omega, by omega⟩ ⟨by omega, by omega⟩ ⟨by omega, by omega⟩ ⟨by omega, by omega⟩ ⟨by omega, by omega⟩ ⟨by omega, by omega⟩ ⟨by omega, by omega⟩ ⟨by omega, by omega⟩ ⟨by omega, by omega⟩ ⟨by omega, by omega⟩ ⟨by omega, by omega⟩ ⟨by omega, by omega⟩ ⟨by omega, by omega⟩ ⟨by omega, by omega⟩ ⟨by omega, by omega⟩ ⟨by omega, by omega⟩ ⟨by omega, by omega⟩ ⟨by omega, by omega⟩ ⟨by omega, by omega⟩ (r_me)) (cwV 3 hts gV_X12_437 rfl rfl rfl hv_X12_step ⟨Nat.le_of_ble_eq_true rfl, Nat.le_of_ble_eq_true rfl⟩) (g5_preV hPc hK hDc hN hT hS hFc (ci := 12) (q0 := 0) rfl rfl) rfl rfl hl.1 rfl (lv_room (Nat.le_of_ble_eq_true rfl)) dX12_goesOn_13 ⟨Nat.le_of_ble_eq_true rfl, Nat.le_of_ble_eq_true rfl⟩) hS (fun q _ h => hFc q h) hFc (fun r u t H1 locs ht hvm hw hB hz1 hk1 hS => ?_)
    obtain ⟨hP1, hD1⟩ := hB
    rw [ht] at hP1
    obtain ⟨z7, i_5, i_6, y8, rfl⟩ := hw
    have i_5 : (-1) ≤ z7.toInt ∧ z7.toInt ≤ 63 := i_5
    have i_6 : z7.toInt = -1 ∨ (v_me (64 * (p_1 + 1).toInt + z7.toInt).toNat).toInt < 64 := i_6
    obtain ⟨hP, hD⟩ := va_join (wr := [(b_ah, .inl (G.2 1, 49152, .inr (.inl k2_ah)))]) (w1 := [(b_o, .inr (12, [.int u_th, .int u_sa, .ref b_rf, .ref b_ro, .ref b_im, .ref b_ke, .int u_fd, .ref b_tp, .int u_td, .int u_fr, .int u_to, .int u_so, .long u_wo, .int u_fa, .int u_bd, .int u_nc, .ref b_nl, .int u_co, .ref b_op, .ref b_ar, .int u_le, .ref b_pi, .ref b_pa, .int u_pd, .int u_od, .ref b_ws, .ref b_hw, .int u_la, .ref b_se, .ref b_re, .int u_bk, .long u_va, .long u_su, .int u_ce, .int u_ho, .int u_wy, .int u_bt, .int u_ps, .ref b_pt, .int u_tg, .int u_sn, .ref b_ip, .int u_ic, .ref b_ah, .ref b_be, .ref b_me, .int u_wd, .ref b_tr, .ref b_ld, .long u_st, .ref b_wn, .int u_id])), (b_me, .inl (G.2 0, 1536, .inl v_me))]) hP hD [0, 2] [1] rfl rfl (by decide) (by decide) hk1 hFc hP1 hD1
    generalize H1 = H at hP hS ⊢
    have hP : va_P G.1 vwCl [(b_ah, .inl (G.2 1, 49152, .inr (.inl k2_ah))), (b_o, .inr (12, [.int u_th, .int u_sa, .ref b_rf, .ref b_ro, .ref b_im, .ref b_ke, .int u_fd, .ref b_tp, .int u_td, .int u_fr, .int u_to, .int u_so, .long u_wo, .int u_fa, .int u_bd, .int u_nc, .ref b_nl, .int u_co, .ref b_op, .ref b_ar, .int u_le, .ref b_pi, .ref b_pa, .int u_pd, .int u_od, .ref b_ws, .ref b_hw, .int u_la, .ref b_se, .ref b_re, .int u_bk, .long u_va, .long u_su, .int u_ce, .int u_ho, .int u_wy, .int u_bt, .int u_ps, .ref b_pt, .int u_tg, .int u_sn, .ref b_ip, .int u_ic, .ref b_ah, .ref b_be, .ref b_me, .int u_wd, .ref b_tr, .ref b_ld, .long u_st, .ref b_wn, .int u_id])), (b_me, .inl (G.2 0, 1536, .inl v_me))] H := hP
    have hD : va_D A [(b_ah, .inl (G.2 1, 49152, .inr (.inl k2_ah))), (b_o, .inr (12, [.int u_th, .int u_sa, .ref b_rf, .ref b_ro, .ref b_im, .ref b_ke, .int u_fd, .ref b_tp, .int u_td, .int u_fr, .int u_to, .int u_so, .long u_wo, .int u_fa, .int u_bd, .int u_nc, .ref b_nl, .int u_co, .ref b_op, .ref b_ar, .int u_le, .ref b_pi, .ref b_pa, .int u_pd, .int u_od, .ref b_ws, .ref b_hw, .int u_la, .ref b_se, .ref b_re, .int u_bk, .long u_va, .long u_su, .int u_ce, .int u_ho, .int u_wy, .int u_bt, .int u_ps, .ref b_pt, .int u_tg, .int u_sn, .ref b_ip, .int u_ic, .ref b_ah, .ref b_be, .ref b_me, .int u_wd, .ref b_tr, .ref b_ld, .long u_st, .ref b_wn, .int u_id])), (b_me, .inl (G.2 0, 1536, .inl v_me))] := hD
    refine g5_ti (v := z7) y8 ?_
    refine lv_istore (lv' := [(4, .int z7), (3, .int k2_3), (0, .ref b_o), (1, .int p_1), (2, .int p_2)]) hx hb dX12_goesOn_16 hl (by decide) rfl (fun ls hl => ?_)
    refine lv_iconst (v := 0) hx hb dX12_goesOn_18 (by decide) ?_
    refine lv_istore (lv' := [(5, .int 0), (4, .int z7), (3, .int k2_3), (0, .ref b_o), (1, .int p_1), (2, .int p_2)]) hx hb dX12_goesOn_19 hl (by decide) rfl (fun ls hl => ?_)
    refine g5_loop (α := (Int32) × (Nat → Int64)) (fun (q : (Int32) × (Nat → Int64)) (ls : Array Slot) (H : Heap) (locs : List Loc) => match q with | (k21_5, k21_ah) => lv_has ls 6 [(5, .int k21_5), (4, .int z7), (3, .int k2_3), (0, .ref b_o), (1, .int p_1), (2, .int p_2)] ∧ va_P G.1 vwCl [(b_ah, .inl (G.2 1, 49152, .inr (.inl k21_ah))), (b_o, .inr (12, [.int u_th, .int u_sa, .ref b_rf, .ref b_ro, .ref b_im, .ref b_ke, .int u_fd, .ref b_tp, .int u_td, .int u_fr, .int u_to, .int u_so, .long u_wo, .int u_fa, .int u_bd, .int u_nc, .ref b_nl, .int u_co, .ref b_op, .ref b_ar, .int u_le, .ref b_pi, .ref b_pa, .int u_pd, .int u_od, .ref b_ws, .ref b_hw, .int u_la, .ref b_se, .ref b_re, .int u_bk, .long u_va, .long u_su, .int u_ce, .int u_ho, .int u_wy, .int u_bt, .int u_ps, .ref b_pt, .int u_tg, .int u_sn, .ref b_ip, .int u_ic, .ref b_ah, .ref b_be, .ref b_me, .int u_wd, .ref b_tr, .ref b_ld, .long u_st, .ref b_wn, .int u_id])), (b_me, .inl (G.2 0, 1536, .inl v_me))] H ∧ va_D A [(b_ah, .inl (G.2 1, 49152, .inr (.inl k21_ah))), (b_o, .inr (12, [.int u_th, .int u_sa, .ref b_rf, .ref b_ro, .ref b_im, .ref b_ke, .int u_fd, .ref b_tp, .int u_td, .int u_fr, .int u_to, .int u_so, .long u_wo, .int u_fa, .int u_bd, .int u_nc, .ref b_nl, .int u_co, .ref b_op, .ref b_ar, .int u_le, .ref b_pi, .ref b_pa, .int u_pd, .int u_od, .ref b_ws, .ref b_hw, .int u_la, .ref b_se, .ref b_re, .int u_bk, .long u_va, .long u_su, .int u_ce, .int u_ho, .int u_wy, .int u_bt, .int u_ps, .ref b_pt, .int u_tg, .int u_sn, .ref b_ip, .int u_ic, .ref b_ah, .ref b_be, .ref b_me, .int u_wd, .ref b_tr, .ref b_ld, .long u_st, .ref b_wn, .int u_id])), (b_me, .inl (G.2 0, 1536, .inl v_me))] ∧ va_S A s.heap H locs ∧ (0 ≤ k21_5.toInt ∧ k21_5.toInt ≤ 32)) (fun (q : (Int32) × (Nat → Int64)) => match q with | (k21_5, k21_ah) => Int.toNat (32 - k21_5.toInt)) (0, k2_ah) ⟨lv_sub hl [0, 1, 2, 3, 4, 5] rfl, hP, hD, hS, ⟨by decide, by decide⟩⟩ ?_
    rintro ⟨k21_5, k21_ah⟩ ls H locs ⟨hl, hP, hD, hS, i_9⟩ ih_21_10
    have hl : lv_has ls 6 [(5, .int k21_5), (4, .int z7), (3, .int k2_3), (0, .ref b_o), (1, .int p_1), (2, .int p_2)] := hl
    have i_9 : 0 ≤ k21_5.toInt ∧ k21_5.toInt ≤ 32 := i_9
    have hP : va_P G.1 vwCl [(b_ah, .inl (G.2 1, 49152, .inr (.inl k21_ah))), (b_o, .inr (12, [.int u_th, .int u_sa, .ref b_rf, .ref b_ro, .ref b_im, .ref b_ke, .int u_fd, .ref b_tp, .int u_td, .int u_fr, .int u_to, .int u_so, .long u_wo, .int u_fa, .int u_bd, .int u_nc, .ref b_nl, .int u_co, .ref b_op, .ref b_ar, .int u_le, .ref b_pi, .ref b_pa, .int u_pd, .int u_od, .ref b_ws, .ref b_hw, .int u_la, .ref b_se, .ref b_re, .int u_bk, .long u_va, .long u_su, .int u_ce, .int u_ho, .int u_wy, .int u_bt, .int u_ps, .ref b_pt, .int u_tg, .int u_sn, .ref b_ip, .int u_ic, .ref b_ah, .ref b_be, .ref b_me, .int u_wd, .ref b_tr, .ref b_ld, .long u_st, .ref b_wn, .int u_id])), (b_me, .inl (G.2 0, 1536, .inl v_me))] H := hP
    have hD : va_D A [(b_ah, .inl (G.2 1, 49152, .inr (.inl k21_ah))), (b_o, .inr (12, [.int u_th, .int u_sa, .ref b_rf, .ref b_ro, .ref b_im, .ref b_ke, .int u_fd, .ref b_tp, .int u_td, .int u_fr, .int u_to, .int u_so, .long u_wo, .int u_fa, .int u_bd, .int u_nc, .ref b_nl, .int u_co, .ref b_op, .ref b_ar, .int u_le, .ref b_pi, .ref b_pa, .int u_pd, .int u_od, .ref b_ws, .ref b_hw, .int u_la, .ref b_se, .ref b_re, .int u_bk, .long u_va, .long u_su, .int u_ce, .int u_ho, .int u_wy, .int u_bt, .int u_ps, .ref b_pt, .int u_tg, .int u_sn, .ref b_ip, .int u_ic, .ref b_ah, .ref b_be, .ref b_me, .int u_wd, .ref b_tr, .ref b_ld, .long u_st, .ref b_wn, .int u_id])), (b_me, .inl (G.2 0, 1536, .inl v_me))] := hD
    refine lv_iload hx hb dX12_goesOn_21 (lv_at hl 0 rfl) ?_
    refine lv_bipush (v := 32) hx hb dX12_goesOn_23 (by decide) ?_
    refine lv_icmp_ge (tgt := 95) hx hb dX12_goesOn_25 (by decide) (fun c_11 => ?_) (fun c_11 => ?_)
    ·
      have i_11 : k21_5.toInt ≥ 32 := by have z := g5_ge (a := k21_5.toInt) (b := 32) (by rfl) (by decide) c_11; omega
      refine lv_iinc (v := (k2_3 + 1)) (lv' := [(3, .int (k2_3 + 1)), (5, .int k21_5), (4, .int z7), (0, .ref b_o), (1, .int p_1), (2, .int p_2)]) hx hb dX12_goesOn_95 hl (k := 2) rfl rfl (by decide) rfl (fun ls hl => ?_)
      have t_12 : (k2_3 + 1).toInt = k2_3.toInt + 1 := g5_iadd (a := k2_3.toInt) (b := 1) rfl (by decide) (by omega) (by omega)
      refine lv_goto (tgt := 2) hx hb dX12_goesOn_98 (by decide) ?_
      exact ih_2_2 ((k2_3 + 1), k21_ah) ls H locs (show Int.toNat (5 - (k2_3 + 1).toInt) < Int.toNat (5 - k2_3.toInt) from g_up (show k2_3.toInt < (k2_3 + 1).toInt by omega) (show k2_3.toInt < 5 by omega)) ⟨lv_sub hl [0, 3, 4, 5] rfl, hP.sub [1, 0, 2] rfl, hD.sub [1, 0, 2] (by decide) rfl, hS, ⟨by omega, by omega⟩⟩
    ·
      have i_11 : k21_5.toInt < 32 := by have z := g5_geN (a := k21_5.toInt) (b := 32) (by rfl) (by decide) c_11; omega
      refine lv_iload hx hb dX12_goesOn_28 (lv_at hl 1 rfl) ?_
      refine lv_iconst (v := (-1)) hx hb dX12_goesOn_30 (by decide) ?_
      refine lv_icmp_eq (tgt := 95) hx hb dX12_goesOn_31 (by decide) (fun c_13 => ?_) (fun c_13 => ?_)
      ·
        have i_13 : z7.toInt = (-1) := by have z := g5_eq (a := z7.toInt) (b := (-1)) (by rfl) (by decide) c_13; omega
        refine lv_iinc (v := (k2_3 + 1)) (lv' := [(3, .int (k2_3 + 1)), (5, .int k21_5), (4, .int z7), (0, .ref b_o), (1, .int p_1), (2, .int p_2)]) hx hb dX12_goesOn_95 hl (k := 2) rfl rfl (by decide) rfl (fun ls hl => ?_)
        have t_14 : (k2_3 + 1).toInt = k2_3.toInt + 1 := g5_iadd (a := k2_3.toInt) (b := 1) rfl (by decide) (by omega) (by omega)
        refine lv_goto (tgt := 2) hx hb dX12_goesOn_98 (by decide) ?_
        exact ih_2_2 ((k2_3 + 1), k21_ah) ls H locs (show Int.toNat (5 - (k2_3 + 1).toInt) < Int.toNat (5 - k2_3.toInt) from g_up (show k2_3.toInt < (k2_3 + 1).toInt by omega) (show k2_3.toInt < 5 by omega)) ⟨lv_sub hl [0, 3, 4, 5] rfl, hP.sub [1, 0, 2] rfl, hD.sub [1, 0, 2] (by decide) rfl, hS, ⟨by omega, by omega⟩⟩
      ·
        have n_13 : gNe (z7.toInt) ((-1)) := by have z := g5_eqN (a := z7.toInt) (b := (-1)) (by rfl) (by decide) c_13; unfold gNe; omega
        have i_13 : z7.toInt ≥ 0 := by have z := g5_eqN (a := z7.toInt) (b := (-1)) (by rfl) (by decide) c_13; omega
        refine lv_aload_n hx hb dX12_goesOn_34 rfl (lv_at hl 3 rfl) ?_
        refine va_get (D := G.1) (ci := 12) (v := .ref b_ah) (C := RX12) (T := TX12) (N := 52) hx hb hts inG_X12 hown hK hP 1 rfl rfl 43 (by decide) (hts _ fl_X12_89) (fun _ h9 => h9) rfl dX12_goesOn_35 ?_
        refine lv_bipush (v := 32) hx hb dX12_goesOn_38 (by decide) ?_
        refine lv_bipush (v := 64) hx hb dX12_goesOn_40 (by decide) ?_
        refine lv_iload_n hx hb dX12_goesOn_42 rfl (lv_at hl 4 rfl) ?_
        refine lv_iconst (v := 1) hx hb dX12_goesOn_43 (by decide) ?_
        refine lv_iadd hx hb dX12_goesOn_44 ?_
        have t_15 : (p_1 + 1).toInt = p_1.toInt + 1 := g5_iadd (a := p_1.toInt) (b := 1) (by rfl) (by decide) (by omega) (by omega)
        refine lv_imul hx hb dX12_goesOn_45 ?_
        have t_16 : (64 * (p_1 + 1)).toInt = 64 * (p_1 + 1).toInt := g5_imul (a := 64) (b := (p_1 + 1).toInt) (by decide) (by rfl) (by omega) (by omega)
        refine lv_iload hx hb dX12_goesOn_46 (lv_at hl 1 rfl) ?_
        refine lv_iadd hx hb dX12_goesOn_48 ?_
        have t_17 : ((64 * (p_1 + 1)) + z7).toInt = (64 * (p_1 + 1)).toInt + z7.toInt := g5_iadd (a := (64 * (p_1 + 1)).toInt) (b := z7.toInt) (by rfl) (by rfl) (by omega) (by omega)
        refine lv_imul hx hb dX12_goesOn_49 ?_
        have t_18 : (32 * ((64 * (p_1 + 1)) + z7)).toInt = 32 * ((64 * (p_1 + 1)) + z7).toInt := g5_imul (a := 32) (b := ((64 * (p_1 + 1)) + z7).toInt) (by decide) (by rfl) (by omega) (by omega)
        refine lv_iload hx hb dX12_goesOn_50 (lv_at hl 0 rfl) ?_
        refine lv_aload_n hx hb dX12_goesOn_52 rfl (lv_at hl 3 rfl) ?_
        refine va_get (D := G.1) (ci := 12) (v := .ref b_me) (C := RX12) (T := TX12) (N := 52) hx hb hts inG_X12 hown hK hP 1 rfl rfl 45 (by decide) (hts _ fl_X12_95) (fun _ h9 => h9) rfl dX12_goesOn_53 ?_
        refine lv_bipush (v := 64) hx hb dX12_goesOn_56 (by decide) ?_
        refine lv_iload_n hx hb dX12_goesOn_58 rfl (lv_at hl 4 rfl) ?_
        refine lv_iconst (v := 1) hx hb dX12_goesOn_59 (by decide) ?_
        refine lv_iadd hx hb dX12_goesOn_60 ?_
        have t_19 : (p_1 + 1).toInt = p_1.toInt + 1 := g5_iadd (a := p_1.toInt) (b := 1) (by rfl) (by decide) (by omega) (by omega)
        refine lv_imul hx hb dX12_goesOn_61 ?_
        have t_20 : (64 * (p_1 + 1)).toInt = 64 * (p_1 + 1).toInt := g5_imul (a := 64) (b := (p_1 + 1).toInt) (by decide) (by rfl) (by omega) (by omega)
        refine lv_iload hx hb dX12_goesOn_62 (lv_at hl 1 rfl) ?_
        refine lv_iadd hx hb dX12_goesOn_64 ?_
        have t_21 : ((64 * (p_1 + 1)) + z7).toInt = (64 * (p_1 + 1)).toInt + z7.toInt := g5_iadd (a := (64 * (p_1 + 1)).toInt) (b := z7.toInt) (by rfl) (by rfl) (by omega) (by omega)
        refine va_iald hx hb hK hP 2 0 rfl rfl (i := ((64 * (p_1 + 1)) + z7)) (vp_in_iff.mpr ⟨by omega, by omega⟩) dX12_goesOn_65 ?_
        have hr_22 : 0 ≤ (v_me ((64 * (p_1 + 1)) + z7).toNatClampNeg).toInt ∧ ((v_me ((64 * (p_1 + 1)) + z7).toNatClampNeg).toInt < 32 ∨ 64 ≤ (v_me ((64 * (p_1 + 1)) + z7).toNatClampNeg).toInt) ∧ (v_me ((64 * (p_1 + 1)) + z7).toNatClampNeg).toInt ≤ 127 := r_me (((64 * (p_1 + 1)) + z7).toNatClampNeg)
        have h64_23 : (v_me ((64 * (p_1 + 1)) + z7).toNatClampNeg).toInt < 64 := by have e9 : ((64 * (p_1 + 1)) + z7).toNatClampNeg = (64 * (p_1 + 1).toInt + z7.toInt).toNat := (by have zz := g5_clamp ((64 * (p_1 + 1)) + z7); omega); rw [e9]; rcases i_6 with q | q; omega; exact q
        refine lv_ior hx hb dX12_goesOn_66 ?_
        have ho_24 : 0 ≤ (k21_5 ||| (v_me ((64 * (p_1 + 1)) + z7).toNatClampNeg)).toInt ∧ (k21_5 ||| (v_me ((64 * (p_1 + 1)) + z7).toNatClampNeg)).toInt < 32 := me_low ⟨by omega, by omega⟩ ⟨by omega, by omega⟩
        refine lv_iadd hx hb dX12_goesOn_67 ?_
        have t_25 : ((32 * ((64 * (p_1 + 1)) + z7)) + (k21_5 ||| (v_me ((64 * (p_1 + 1)) + z7).toNatClampNeg))).toInt = (32 * ((64 * (p_1 + 1)) + z7)).toInt + (k21_5 ||| (v_me ((64 * (p_1 + 1)) + z7).toNatClampNeg)).toInt := g5_iadd (a := (32 * ((64 * (p_1 + 1)) + z7)).toInt) (b := (k21_5 ||| (v_me ((64 * (p_1 + 1)) + z7).toNatClampNeg)).toInt) (by rfl) (by rfl) (by omega) (by omega)
        refine lv_dup2_11 hx hb dX12_goesOn_68 rfl rfl ?_
        refine va_lald hx hb hK hP 0 1 rfl rfl (i := ((32 * ((64 * (p_1 + 1)) + z7)) + (k21_5 ||| (v_me ((64 * (p_1 + 1)) + z7).toNatClampNeg)))) (vp_in_iff.mpr ⟨by omega, by omega⟩) dX12_goesOn_69 ?_
        refine lv_aload_n hx hb dX12_goesOn_70 rfl (lv_at hl 3 rfl) ?_
        refine va_get (D := G.1) (ci := 12) (v := .ref b_ah) (C := RX12) (T := TX12) (N := 52) hx hb hts inG_X12 hown hK hP 1 rfl rfl 43 (by decide) (hts _ fl_X12_89) (fun _ h9 => h9) rfl dX12_goesOn_71 ?_
        refine lv_bipush (v := 32) hx hb dX12_goesOn_74 (by decide) ?_
        refine lv_bipush (v := 64) hx hb dX12_goesOn_76 (by decide) ?_
        refine lv_iload_n hx hb dX12_goesOn_78 rfl (lv_at hl 4 rfl) ?_
        refine lv_imul hx hb dX12_goesOn_79 ?_
        have t_26 : (64 * p_1).toInt = 64 * p_1.toInt := g5_imul (a := 64) (b := p_1.toInt) (by decide) (by rfl) (by omega) (by omega)
        refine lv_iload_n hx hb dX12_goesOn_80 rfl (lv_at hl 5 rfl) ?_
        refine lv_iadd hx hb dX12_goesOn_81 ?_
        have t_27 : ((64 * p_1) + p_2).toInt = (64 * p_1).toInt + p_2.toInt := g5_iadd (a := (64 * p_1).toInt) (b := p_2.toInt) (by rfl) (by rfl) (by omega) (by omega)
        refine lv_imul hx hb dX12_goesOn_82 ?_
        have t_28 : (32 * ((64 * p_1) + p_2)).toInt = 32 * ((64 * p_1) + p_2).toInt := g5_imul (a := 32) (b := ((64 * p_1) + p_2).toInt) (by decide) (by rfl) (by omega) (by omega)
        refine lv_iload hx hb dX12_goesOn_83 (lv_at hl 0 rfl) ?_
        refine lv_iadd hx hb dX12_goesOn_85 ?_
        have t_29 : ((32 * ((64 * p_1) + p_2)) + k21_5).toInt = (32 * ((64 * p_1) + p_2)).toInt + k21_5.toInt := g5_iadd (a := (32 * ((64 * p_1) + p_2)).toInt) (b := k21_5.toInt) (by rfl) (by rfl) (by omega) (by omega)
        refine va_lald hx hb hK hP 0 1 rfl rfl (i := ((32 * ((64 * p_1) + p_2)) + k21_5)) (vp_in_iff.mpr ⟨by omega, by omega⟩) dX12_goesOn_86 ?_
        refine lv_ladd hx hb dX12_goesOn_87 ?_
        refine va_last hx hb hK hP hD hS 0 1 rfl rfl (i := ((32 * ((64 * (p_1 + 1)) + z7)) + (k21_5 ||| (v_me ((64 * (p_1 + 1)) + z7).toNatClampNeg)))) (x := ((k21_ah ((32 * ((64 * (p_1 + 1)) + z7)) + (k21_5 ||| (v_me ((64 * (p_1 + 1)) + z7).toNatClampNeg))).toNatClampNeg) + (k21_ah ((32 * ((64 * p_1) + p_2)) + k21_5).toNatClampNeg))) (vp_in_iff.mpr ⟨by omega, by omega⟩) dX12_goesOn_88 (fun H locs hP hD hS => ?_)
        have hP : va_P G.1 vwCl [(b_ah, .inl (G.2 1, 49152, .inr (.inl (vp_updL k21_ah ((32 * ((64 * (p_1 + 1)) + z7)) + (k21_5 ||| (v_me ((64 * (p_1 + 1)) + z7).toNatClampNeg))).toNatClampNeg ((k21_ah ((32 * ((64 * (p_1 + 1)) + z7)) + (k21_5 ||| (v_me ((64 * (p_1 + 1)) + z7).toNatClampNeg))).toNatClampNeg) + (k21_ah ((32 * ((64 * p_1) + p_2)) + k21_5).toNatClampNeg)))))), (b_o, .inr (12, [.int u_th, .int u_sa, .ref b_rf, .ref b_ro, .ref b_im, .ref b_ke, .int u_fd, .ref b_tp, .int u_td, .int u_fr, .int u_to, .int u_so, .long u_wo, .int u_fa, .int u_bd, .int u_nc, .ref b_nl, .int u_co, .ref b_op, .ref b_ar, .int u_le, .ref b_pi, .ref b_pa, .int u_pd, .int u_od, .ref b_ws, .ref b_hw, .int u_la, .ref b_se, .ref b_re, .int u_bk, .long u_va, .long u_su, .int u_ce, .int u_ho, .int u_wy, .int u_bt, .int u_ps, .ref b_pt, .int u_tg, .int u_sn, .ref b_ip, .int u_ic, .ref b_ah, .ref b_be, .ref b_me, .int u_wd, .ref b_tr, .ref b_ld, .long u_st, .ref b_wn, .int u_id])), (b_me, .inl (G.2 0, 1536, .inl v_me))] H := hP
        have hD : va_D A [(b_ah, .inl (G.2 1, 49152, .inr (.inl (vp_updL k21_ah ((32 * ((64 * (p_1 + 1)) + z7)) + (k21_5 ||| (v_me ((64 * (p_1 + 1)) + z7).toNatClampNeg))).toNatClampNeg ((k21_ah ((32 * ((64 * (p_1 + 1)) + z7)) + (k21_5 ||| (v_me ((64 * (p_1 + 1)) + z7).toNatClampNeg))).toNatClampNeg) + (k21_ah ((32 * ((64 * p_1) + p_2)) + k21_5).toNatClampNeg)))))), (b_o, .inr (12, [.int u_th, .int u_sa, .ref b_rf, .ref b_ro, .ref b_im, .ref b_ke, .int u_fd, .ref b_tp, .int u_td, .int u_fr, .int u_to, .int u_so, .long u_wo, .int u_fa, .int u_bd, .int u_nc, .ref b_nl, .int u_co, .ref b_op, .ref b_ar, .int u_le, .ref b_pi, .ref b_pa, .int u_pd, .int u_od, .ref b_ws, .ref b_hw, .int u_la, .ref b_se, .ref b_re, .int u_bk, .long u_va, .long u_su, .int u_ce, .int u_ho, .int u_wy, .int u_bt, .int u_ps, .ref b_pt, .int u_tg, .int u_sn, .ref b_ip, .int u_ic, .ref b_ah, .ref b_be, .ref b_me, .int u_wd, .ref b_tr, .ref b_ld, .long u_st, .ref b_wn, .int u_id])), (b_me, .inl (G.2 0, 1536, .inl v_me))] := hD
        refine lv_iinc (v := (k21_5 + 1)) (lv' := [(5, .int (k21_5 + 1)), (4, .int z7), (3, .int k2_3), (0, .ref b_o), (1, .int p_1), (2, .int p_2)]) hx hb dX12_goesOn_89 hl (k := 0) rfl rfl (by decide) rfl (fun ls hl => ?_)
        have t_30 : (k21_5 + 1).toInt = k21_5.toInt + 1 := g5_iadd (a := k21_5.toInt) (b := 1) rfl (by decide) (by omega) (by omega)
        refine lv_goto (tgt := 21) hx hb dX12_goesOn_92 (by decide) ?_
        exact ih_21_10 ((k21_5 + 1), (vp_updL k21_ah ((32 * ((64 * (p_1 + 1)) + z7)) + (k21_5 ||| (v_me ((64 * (p_1 + 1)) + z7).toNatClampNeg))).toNatClampNeg ((k21_ah ((32 * ((64 * (p_1 + 1)) + z7)) + (k21_5 ||| (v_me ((64 * (p_1 + 1)) + z7).toNatClampNeg))).toNatClampNeg) + (k21_ah ((32 * ((64 * p_1) + p_2)) + k21_5).toNatClampNeg)))) ls H locs (show Int.toNat (32 - (k21_5 + 1).toInt) < Int.toNat (32 - k21_5.toInt) from g_up (show k21_5.toInt < (k21_5 + 1).toInt by omega) (show k21_5.toInt < 32 by omega)) ⟨lv_sub hl [0, 1, 2, 3, 4, 5] rfl, hP, hD, hS, ⟨by omega, by omega⟩⟩
theorem dX12_comesFrom_0 : decode cX12_comesFrom 0 = .ok (.iconst 0, 1) := by decide +kernel
theorem dX12_comesFrom_1 : decode cX12_comesFrom 1 = .ok (.istore_n 3, 1) := by decide +kernel
theorem dX12_comesFrom_2 : decode cX12_comesFrom 2 = .ok (.iload_n 3, 1) := by decide +kernel
theorem dX12_comesFrom_3 : decode cX12_comesFrom 3 = .ok (.iconst 5, 1) := by decide +kernel
theorem dX12_comesFrom_4 : decode cX12_comesFrom 4 = .ok (.if_icmp .ge 97, 3) := by decide +kernel
theorem dX12_comesFrom_7 : decode cX12_comesFrom 7 = .ok (.aload_n 0, 1) := by decide +kernel
theorem dX12_comesFrom_8 : decode cX12_comesFrom 8 = .ok (.iload_n 2, 1) := by decide +kernel
theorem dX12_comesFrom_9 : decode cX12_comesFrom 9 = .ok (.iload_n 3, 1) := by decide +kernel
theorem dX12_comesFrom_10 : decode cX12_comesFrom 10 = .ok (.iload_n 1, 1) := by decide +kernel
theorem dX12_comesFrom_11 : decode cX12_comesFrom 11 = .ok (.iconst 1, 1) := by decide +kernel
theorem dX12_comesFrom_12 : decode cX12_comesFrom 12 = .ok (.iadd, 1) := by decide +kernel
theorem dX12_comesFrom_13 : decode cX12_comesFrom 13 = .ok (.invokevirtual 437, 3) := by decide +kernel
theorem dX12_comesFrom_16 : decode cX12_comesFrom 16 = .ok (.istore 4, 2) := by decide +kernel
theorem dX12_comesFrom_18 : decode cX12_comesFrom 18 = .ok (.iconst 0, 1) := by decide +kernel
theorem dX12_comesFrom_19 : decode cX12_comesFrom 19 = .ok (.istore 5, 2) := by decide +kernel
theorem dX12_comesFrom_21 : decode cX12_comesFrom 21 = .ok (.iload 5, 2) := by decide +kernel
theorem dX12_comesFrom_23 : decode cX12_comesFrom 23 = .ok (.bipush 32, 2) := by decide +kernel
theorem dX12_comesFrom_25 : decode cX12_comesFrom 25 = .ok (.if_icmp .ge 70, 3) := by decide +kernel
theorem dX12_comesFrom_28 : decode cX12_comesFrom 28 = .ok (.iload 4, 2) := by decide +kernel
theorem dX12_comesFrom_30 : decode cX12_comesFrom 30 = .ok (.iconst (-1), 1) := by decide +kernel
theorem dX12_comesFrom_31 : decode cX12_comesFrom 31 = .ok (.if_icmp .eq 64, 3) := by decide +kernel
theorem dX12_comesFrom_34 : decode cX12_comesFrom 34 = .ok (.aload_n 0, 1) := by decide +kernel
theorem dX12_comesFrom_35 : decode cX12_comesFrom 35 = .ok (.getfield 92, 3) := by decide +kernel
theorem dX12_comesFrom_38 : decode cX12_comesFrom 38 = .ok (.bipush 32, 2) := by decide +kernel
theorem dX12_comesFrom_40 : decode cX12_comesFrom 40 = .ok (.bipush 64, 2) := by decide +kernel
theorem dX12_comesFrom_42 : decode cX12_comesFrom 42 = .ok (.iload_n 1, 1) := by decide +kernel
theorem dX12_comesFrom_43 : decode cX12_comesFrom 43 = .ok (.imul, 1) := by decide +kernel
theorem dX12_comesFrom_44 : decode cX12_comesFrom 44 = .ok (.iload_n 2, 1) := by decide +kernel
theorem dX12_comesFrom_45 : decode cX12_comesFrom 45 = .ok (.iadd, 1) := by decide +kernel
theorem dX12_comesFrom_46 : decode cX12_comesFrom 46 = .ok (.imul, 1) := by decide +kernel
theorem dX12_comesFrom_47 : decode cX12_comesFrom 47 = .ok (.iload 5, 2) := by decide +kernel
theorem dX12_comesFrom_49 : decode cX12_comesFrom 49 = .ok (.iadd, 1) := by decide +kernel
theorem dX12_comesFrom_50 : decode cX12_comesFrom 50 = .ok (.dup2, 1) := by decide +kernel
theorem dX12_comesFrom_51 : decode cX12_comesFrom 51 = .ok (.laload, 1) := by decide +kernel
theorem dX12_comesFrom_52 : decode cX12_comesFrom 52 = .ok (.aload_n 0, 1) := by decide +kernel
theorem dX12_comesFrom_53 : decode cX12_comesFrom 53 = .ok (.getfield 92, 3) := by decide +kernel
theorem dX12_comesFrom_56 : decode cX12_comesFrom 56 = .ok (.bipush 32, 2) := by decide +kernel
theorem dX12_comesFrom_58 : decode cX12_comesFrom 58 = .ok (.bipush 64, 2) := by decide +kernel
theorem dX12_comesFrom_60 : decode cX12_comesFrom 60 = .ok (.iload_n 1, 1) := by decide +kernel
theorem dX12_comesFrom_61 : decode cX12_comesFrom 61 = .ok (.iconst 1, 1) := by decide +kernel
theorem dX12_comesFrom_62 : decode cX12_comesFrom 62 = .ok (.iadd, 1) := by decide +kernel
theorem dX12_comesFrom_63 : decode cX12_comesFrom 63 = .ok (.imul, 1) := by decide +kernel
theorem dX12_comesFrom_64 : decode cX12_comesFrom 64 = .ok (.iload 4, 2) := by decide +kernel
theorem dX12_comesFrom_66 : decode cX12_comesFrom 66 = .ok (.iadd, 1) := by decide +kernel
theorem dX12_comesFrom_67 : decode cX12_comesFrom 67 = .ok (.imul, 1) := by decide +kernel
theorem dX12_comesFrom_68 : decode cX12_comesFrom 68 = .ok (.iload 5, 2) := by decide +kernel
theorem dX12_comesFrom_70 : decode cX12_comesFrom 70 = .ok (.aload_n 0, 1) := by decide +kernel
theorem dX12_comesFrom_71 : decode cX12_comesFrom 71 = .ok (.getfield 95, 3) := by decide +kernel
theorem dX12_comesFrom_74 : decode cX12_comesFrom 74 = .ok (.bipush 64, 2) := by decide +kernel
theorem dX12_comesFrom_76 : decode cX12_comesFrom 76 = .ok (.iload_n 1, 1) := by decide +kernel
theorem dX12_comesFrom_77 : decode cX12_comesFrom 77 = .ok (.iconst 1, 1) := by decide +kernel
theorem dX12_comesFrom_78 : decode cX12_comesFrom 78 = .ok (.iadd, 1) := by decide +kernel
theorem dX12_comesFrom_79 : decode cX12_comesFrom 79 = .ok (.imul, 1) := by decide +kernel
theorem dX12_comesFrom_80 : decode cX12_comesFrom 80 = .ok (.iload 4, 2) := by decide +kernel
theorem dX12_comesFrom_82 : decode cX12_comesFrom 82 = .ok (.iadd, 1) := by decide +kernel
theorem dX12_comesFrom_83 : decode cX12_comesFrom 83 = .ok (.iaload, 1) := by decide +kernel
theorem dX12_comesFrom_84 : decode cX12_comesFrom 84 = .ok (.ior, 1) := by decide +kernel
theorem dX12_comesFrom_85 : decode cX12_comesFrom 85 = .ok (.iadd, 1) := by decide +kernel
theorem dX12_comesFrom_86 : decode cX12_comesFrom 86 = .ok (.laload, 1) := by decide +kernel
theorem dX12_comesFrom_87 : decode cX12_comesFrom 87 = .ok (.ladd, 1) := by decide +kernel
theorem dX12_comesFrom_88 : decode cX12_comesFrom 88 = .ok (.lastore, 1) := by decide +kernel
theorem dX12_comesFrom_89 : decode cX12_comesFrom 89 = .ok (.iinc 5 1, 3) := by decide +kernel
theorem dX12_comesFrom_92 : decode cX12_comesFrom 92 = .ok (.goto (-71), 3) := by decide +kernel
theorem dX12_comesFrom_95 : decode cX12_comesFrom 95 = .ok (.iinc 3 1, 3) := by decide +kernel
theorem dX12_comesFrom_98 : decode cX12_comesFrom 98 = .ok (.goto (-96), 3) := by decide +kernel
theorem dX12_comesFrom_101 : decode cX12_comesFrom 101 = .ok (.return_, 1) := by decide +kernel
theorem fl_X12_92 : Cond.fieldLink RX12 92 "LateGlassModel" "behind" "[J" ∈ tblG := tg 1247 (by decide +kernel) (by decide +kernel)
set_option maxHeartbeats 4000000 in
set_option maxRecDepth 100000 in
theorem n_comesFrom (l : Launch) (G : g5_G) (b_o b_be b_me b_rf b_ro b_im b_ke b_tp b_nl b_op b_ar b_pi b_pa b_ws b_hw b_se b_re b_pt b_ip b_ah b_tr b_ld b_wn : Nat) (sz : Nat) (u_th : Int32) (u_sa : Int32) (u_fd : Int32) (u_td : Int32) (u_fr : Int32) (u_to : Int32) (u_so : Int32) (u_fa : Int32) (u_bd : Int32) (u_nc : Int32) (u_co : Int32) (u_le : Int32) (u_pd : Int32) (u_od : Int32) (u_la : Int32) (u_bk : Int32) (u_ce : Int32) (u_ho : Int32) (u_wy : Int32) (u_bt : Int32) (u_ps : Int32) (u_tg : Int32) (u_sn : Int32) (u_ic : Int32) (u_wd : Int32) (u_id : Int32) (p_1 : Int32) (p_2 : Int32) (u_wo : Int64) (u_va : Int64) (u_su : Int64) (u_st : Int64) (v_be : Nat → Int64) (v_me : Nat → Int32) (h_u_td : 0 ≤ u_td.toInt ∧ u_td.toInt ≤ 400) (h_u_fr : 0 ≤ u_fr.toInt ∧ u_fr.toInt ≤ 400) (h_u_to : 0 ≤ u_to.toInt ∧ u_to.toInt ≤ 400) (h_u_bd : 0 ≤ u_bd.toInt ∧ u_bd.toInt ≤ 1) (h_u_nc : 0 ≤ u_nc.toInt ∧ u_nc.toInt ≤ 12) (h_u_co : 0 ≤ u_co.toInt ∧ u_co.toInt ≤ 400) (h_u_pd : 0 ≤ u_pd.toInt ∧ u_pd.toInt ≤ 400) (h_u_la : 0 ≤ u_la.toInt ∧ u_la.toInt ≤ 4840) (h_u_bk : 0 ≤ u_bk.toInt ∧ u_bk.toInt ≤ 1) (h_u_ce : 0 ≤ u_ce.toInt ∧ u_ce.toInt ≤ 63) (h_u_ho : 0 ≤ u_ho.toInt ∧ u_ho.toInt ≤ 23) (h_u_wy : 0 ≤ u_wy.toInt ∧ u_wy.toInt ≤ 3) (h_u_bt : 0 ≤ u_bt.toInt ∧ u_bt.toInt ≤ 1000000) (h_u_ps : 0 ≤ u_ps.toInt ∧ u_ps.toInt ≤ 200) (h_u_ic : 0 ≤ u_ic.toInt ∧ u_ic.toInt ≤ 1) (h_u_id : 0 ≤ u_id.toInt ∧ u_id.toInt ≤ 1) (h_p_1 : 0 ≤ p_1.toInt ∧ p_1.toInt ≤ 22) (h_p_2 : 0 ≤ p_2.toInt ∧ p_2.toInt ≤ 63) (r_me : MEI v_me) : Met l yX12_comesFrom (wsG yX12_comesFrom cX12_comesFrom 6 none) ({ frames := 2, cells := 0, slots := 0, locals := 45 }) (va_Pc [.ref b_o, .int p_1, .int p_2] (g5_P G [(b_o, .inr (12, [.int u_th, .int u_sa, .ref b_rf, .ref b_ro, .ref b_im, .ref b_ke, .int u_fd, .ref b_tp, .int u_td, .int u_fr, .int u_to, .int u_so, .long u_wo, .int u_fa, .int u_bd, .int u_nc, .ref b_nl, .int u_co, .ref b_op, .ref b_ar, .int u_le, .ref b_pi, .ref b_pa, .int u_pd, .int u_od, .ref b_ws, .ref b_hw, .int u_la, .ref b_se, .ref b_re, .int u_bk, .long u_va, .long u_su, .int u_ce, .int u_ho, .int u_wy, .int u_bt, .int u_ps, .ref b_pt, .int u_tg, .int u_sn, .ref b_ip, .int u_ic, .ref b_ah, .ref b_be, .ref b_me, .int u_wd, .ref b_tr, .ref b_ld, .long u_st, .ref b_wn, .int u_id])), (b_be, .inl (G.2 1, 49152, .inr (.inl v_be))), (b_me, .inl (G.2 0, 1536, .inl v_me))] sz)) (va_Qv (fun (u : va_W) => (∃ (o_be : Nat → Int64), (u = [(b_o, .inr (12, [.int u_th, .int u_sa, .ref b_rf, .ref b_ro, .ref b_im, .ref b_ke, .int u_fd, .ref b_tp, .int u_td, .int u_fr, .int u_to, .int u_so, .long u_wo, .int u_fa, .int u_bd, .int u_nc, .ref b_nl, .int u_co, .ref b_op, .ref b_ar, .int u_le, .ref b_pi, .ref b_pa, .int u_pd, .int u_od, .ref b_ws, .ref b_hw, .int u_la, .ref b_se, .ref b_re, .int u_bk, .long u_va, .long u_su, .int u_ce, .int u_ho, .int u_wy, .int u_bt, .int u_ps, .ref b_pt, .int u_tg, .int u_sn, .ref b_ip, .int u_ic, .ref b_ah, .ref b_be, .ref b_me, .int u_wd, .ref b_tr, .ref b_ld, .long u_st, .ref b_wn, .int u_id])), (b_be, .inl (G.2 1, 49152, .inr (.inl o_be))), (b_me, .inl (G.2 0, 1536, .inl v_me))]))) (g5_B G (va_A [(b_o, .inr (12, [.int u_th, .int u_sa, .ref b_rf, .ref b_ro, .ref b_im, .ref b_ke, .int u_fd, .ref b_tp, .int u_td, .int u_fr, .int u_to, .int u_so, .long u_wo, .int u_fa, .int u_bd, .int u_nc, .ref b_nl, .int u_co, .ref b_op, .ref b_ar, .int u_le, .ref b_pi, .ref b_pa, .int u_pd, .int u_od, .ref b_ws, .ref b_hw, .int u_la, .ref b_se, .ref b_re, .int u_bk, .long u_va, .long u_su, .int u_ce, .int u_ho, .int u_wy, .int u_bt, .int u_ps, .ref b_pt, .int u_tg, .int u_sn, .ref b_ip, .int u_ic, .ref b_ah, .ref b_be, .ref b_me, .int u_wd, .ref b_tr, .ref b_ld, .long u_st, .ref b_wn, .int u_id])), (b_be, .inl (G.2 1, 49152, .inr (.inl v_be))), (b_me, .inl (G.2 0, 1536, .inl v_me))] sz)) (va_A [(b_o, .inr (12, [.int u_th, .int u_sa, .ref b_rf, .ref b_ro, .ref b_im, .ref b_ke, .int u_fd, .ref b_tp, .int u_td, .int u_fr, .int u_to, .int u_so, .long u_wo, .int u_fa, .int u_bd, .int u_nc, .ref b_nl, .int u_co, .ref b_op, .ref b_ar, .int u_le, .ref b_pi, .ref b_pa, .int u_pd, .int u_od, .ref b_ws, .ref b_hw, .int u_la, .ref b_se, .ref b_re, .int u_bk, .long u_va, .long u_su, .int u_ce, .int u_ho, .int u_wy, .int u_bt, .int u_ps, .ref b_pt, .int u_tg, .int u_sn, .ref b_ip, .int u_ic, .ref b_ah, .ref b_be, .ref b_me, .int u_wd, .ref b_tr, .ref b_ld, .long u_st, .ref b_wn, .int u_id])), (b_be, .inl (G.2 1, 49152, .inr (.inl v_be))), (b_me, .inl (G.2 0, 1536, .inl v_me))] sz)) 0 0 (va_A [(b_o, .inr (12, [.int u_th, .int u_sa, .ref b_rf, .ref b_ro, .ref b_im, .ref b_ke, .int u_fd, .ref b_tp, .int u_td, .int u_fr, .int u_to, .int u_so, .long u_wo, .int u_fa, .int u_bd, .int u_nc, .ref b_nl, .int u_co, .ref b_op, .ref b_ar, .int u_le, .ref b_pi, .ref b_pa, .int u_pd, .int u_od, .ref b_ws, .ref b_hw, .int u_la, .ref b_se, .ref b_re, .int u_bk, .long u_va, .long u_su, .int u_ce, .int u_ho, .int u_wy, .int u_bt, .int u_ps, .ref b_pt, .int u_tg, .int u_sn, .ref b_ip, .int u_ic, .ref b_ah, .ref b_be, .ref b_me, .int u_wd, .ref b_tr, .ref b_ld, .long u_st, .ref b_wn, .int u_id])), (b_be, .inl (G.2 1, 49152, .inr (.inl v_be))), (b_me, .inl (G.2 0, 1536, .inl v_me))] sz) := by
  refine Met.ofW (cc := cX12_comesFrom) (maxL := 6) (ret := none) (by decide) rfl ?_
  intro p e s m args below meth c s₁ B hml hv
  obtain ⟨rfl, hsz, hP, hK, hD0, hN, hT⟩ := hv
  have hx := B.exec
  have hb := B.bytes
  have hr := B.returns
  have hts : ∀ w ∈ tblG, w.before _ s = true := fun w h => atoms_spec (ws := (wsG yX12_comesFrom cX12_comesFrom 6 none)) B.pre w (List.mem_cons_of_mem _ h)
  have hown : s.vm.findClass RX12 = some m.cls := findClass_of_methodNamed B.named
  have hlocks := B.notSynchronized
  subst hsz
  have hD := hD0.self (sz := s.heap.size)
  generalize hAe : va_A [(b_o, .inr (12, [.int u_th, .int u_sa, .ref b_rf, .ref b_ro, .ref b_im, .ref b_ke, .int u_fd, .ref b_tp, .int u_td, .int u_fr, .int u_to, .int u_so, .long u_wo, .int u_fa, .int u_bd, .int u_nc, .ref b_nl, .int u_co, .ref b_op, .ref b_ar, .int u_le, .ref b_pi, .ref b_pa, .int u_pd, .int u_od, .ref b_ws, .ref b_hw, .int u_la, .ref b_se, .ref b_re, .int u_bk, .long u_va, .long u_su, .int u_ce, .int u_ho, .int u_wy, .int u_bt, .int u_ps, .ref b_pt, .int u_tg, .int u_sn, .ref b_ip, .int u_ic, .ref b_ah, .ref b_be, .ref b_me, .int u_wd, .ref b_tr, .ref b_ld, .long u_st, .ref b_wn, .int u_id])), (b_be, .inl (G.2 1, 49152, .inr (.inl v_be))), (b_me, .inl (G.2 0, 1536, .inl v_me))] s.heap.size = A at hD hT ⊢
  have hA : ∀ q : Nat, s.heap.size ≤ q → A q := fun q h => by rw [← hAe]; exact Or.inr h
  have hS : va_S A s.heap s.heap [] := va_S.rf
  have hP : va_P G.1 vwCl [(b_o, .inr (12, [.int u_th, .int u_sa, .ref b_rf, .ref b_ro, .ref b_im, .ref b_ke, .int u_fd, .ref b_tp, .int u_td, .int u_fr, .int u_to, .int u_so, .long u_wo, .int u_fa, .int u_bd, .int u_nc, .ref b_nl, .int u_co, .ref b_op, .ref b_ar, .int u_le, .ref b_pi, .ref b_pa, .int u_pd, .int u_od, .ref b_ws, .ref b_hw, .int u_la, .ref b_se, .ref b_re, .int u_bk, .long u_va, .long u_su, .int u_ce, .int u_ho, .int u_wy, .int u_bt, .int u_ps, .ref b_pt, .int u_tg, .int u_sn, .ref b_ip, .int u_ic, .ref b_ah, .ref b_be, .ref b_me, .int u_wd, .ref b_tr, .ref b_ld, .long u_st, .ref b_wn, .int u_id])), (b_be, .inl (G.2 1, 49152, .inr (.inl v_be))), (b_me, .inl (G.2 0, 1536, .inl v_me))] s.heap := hP
  have hl := lv_entry ([.ref b_o, .int p_1, .int p_2]) (n := 6) (Nat.le_of_ble_eq_true rfl)
  rw [lg_entry_eq]
  generalize (lg_sl ([.ref b_o, .int p_1, .int p_2]) ++ List.replicate (6 - (lg_sl ([.ref b_o, .int p_1, .int p_2])).length) Slot.unset).toArray = ls at hl ⊢
  have hl : lv_has ls 6 [(0, .ref b_o), (1, .int p_1), (2, .int p_2)] := hl
  refine lv_iconst (v := 0) hx hb dX12_comesFrom_0 (by decide) ?_
  refine lv_istore_n (lv' := [(3, .int 0), (0, .ref b_o), (1, .int p_1), (2, .int p_2)]) hx hb dX12_comesFrom_1 rfl hl (by decide) rfl (fun ls hl => ?_)
  refine g5_loop (α := (Int32) × (Nat → Int64)) (fun (q : (Int32) × (Nat → Int64)) (ls : Array Slot) (H : Heap) (locs : List Loc) => match q with | (k2_3, k2_be) => lv_has ls 6 [(3, .int k2_3), (0, .ref b_o), (1, .int p_1), (2, .int p_2)] ∧ va_P G.1 vwCl [(b_o, .inr (12, [.int u_th, .int u_sa, .ref b_rf, .ref b_ro, .ref b_im, .ref b_ke, .int u_fd, .ref b_tp, .int u_td, .int u_fr, .int u_to, .int u_so, .long u_wo, .int u_fa, .int u_bd, .int u_nc, .ref b_nl, .int u_co, .ref b_op, .ref b_ar, .int u_le, .ref b_pi, .ref b_pa, .int u_pd, .int u_od, .ref b_ws, .ref b_hw, .int u_la, .ref b_se, .ref b_re, .int u_bk, .long u_va, .long u_su, .int u_ce, .int u_ho, .int u_wy, .int u_bt, .int u_ps, .ref b_pt, .int u_tg, .int u_sn, .ref b_ip, .int u_ic, .ref b_ah, .ref b_be, .ref b_me, .int u_wd, .ref b_tr, .ref b_ld, .long u_st, .ref b_wn, .int u_id])), (b_be, .inl (G.2 1, 49152, .inr (.inl k2_be))), (b_me, .inl (G.2 0, 1536, .inl v_me))] H ∧ va_D A [(b_o, .inr (12, [.int u_th, .int u_sa, .ref b_rf, .ref b_ro, .ref b_im, .ref b_ke, .int u_fd, .ref b_tp, .int u_td, .int u_fr, .int u_to, .int u_so, .long u_wo, .int u_fa, .int u_bd, .int u_nc, .ref b_nl, .int u_co, .ref b_op, .ref b_ar, .int u_le, .ref b_pi, .ref b_pa, .int u_pd, .int u_od, .ref b_ws, .ref b_hw, .int u_la, .ref b_se, .ref b_re, .int u_bk, .long u_va, .long u_su, .int u_ce, .int u_ho, .int u_wy, .int u_bt, .int u_ps, .ref b_pt, .int u_tg, .int u_sn, .ref b_ip, .int u_ic, .ref b_ah, .ref b_be, .ref b_me, .int u_wd, .ref b_tr, .ref b_ld, .long u_st, .ref b_wn, .int u_id])), (b_be, .inl (G.2 1, 49152, .inr (.inl k2_be))), (b_me, .inl (G.2 0, 1536, .inl v_me))] ∧ va_S A s.heap H locs ∧ (0 ≤ k2_3.toInt ∧ k2_3.toInt ≤ 5)) (fun (q : (Int32) × (Nat → Int64)) => match q with | (k2_3, k2_be) => Int.toNat (5 - k2_3.toInt)) (0, v_be) ⟨lv_sub hl [0, 1, 2, 3] rfl, hP, hD, hS, ⟨by decide, by decide⟩⟩ ?_
  rintro ⟨k2_3, k2_be⟩ ls H locs ⟨hl, hP, hD, hS, i_1⟩ ih_2_2
  have hl : lv_has ls 6 [(3, .int k2_3), (0, .ref b_o), (1, .int p_1), (2, .int p_2)] := hl
  have i_1 : 0 ≤ k2_3.toInt ∧ k2_3.toInt ≤ 5 := i_1
  have hP : va_P G.1 vwCl [(b_o, .inr (12, [.int u_th, .int u_sa, .ref b_rf, .ref b_ro, .ref b_im, .ref b_ke, .int u_fd, .ref b_tp, .int u_td, .int u_fr, .int u_to, .int u_so, .long u_wo, .int u_fa, .int u_bd, .int u_nc, .ref b_nl, .int u_co, .ref b_op, .ref b_ar, .int u_le, .ref b_pi, .ref b_pa, .int u_pd, .int u_od, .ref b_ws, .ref b_hw, .int u_la, .ref b_se, .ref b_re, .int u_bk, .long u_va, .long u_su, .int u_ce, .int u_ho, .int u_wy, .int u_bt, .int u_ps, .ref b_pt, .int u_tg, .int u_sn, .ref b_ip, .int u_ic, .ref b_ah, .ref b_be, .ref b_me, .int u_wd, .ref b_tr, .ref b_ld, .long u_st, .ref b_wn, .int u_id])), (b_be, .inl (G.2 1, 49152, .inr (.inl k2_be))), (b_me, .inl (G.2 0, 1536, .inl v_me))] H := hP
  have hD : va_D A [(b_o, .inr (12, [.int u_th, .int u_sa, .ref b_rf, .ref b_ro, .ref b_im, .ref b_ke, .int u_fd, .ref b_tp, .int u_td, .int u_fr, .int u_to, .int u_so, .long u_wo, .int u_fa, .int u_bd, .int u_nc, .ref b_nl, .int u_co, .ref b_op, .ref b_ar, .int u_le, .ref b_pi, .ref b_pa, .int u_pd, .int u_od, .ref b_ws, .ref b_hw, .int u_la, .ref b_se, .ref b_re, .int u_bk, .long u_va, .long u_su, .int u_ce, .int u_ho, .int u_wy, .int u_bt, .int u_ps, .ref b_pt, .int u_tg, .int u_sn, .ref b_ip, .int u_ic, .ref b_ah, .ref b_be, .ref b_me, .int u_wd, .ref b_tr, .ref b_ld, .long u_st, .ref b_wn, .int u_id])), (b_be, .inl (G.2 1, 49152, .inr (.inl k2_be))), (b_me, .inl (G.2 0, 1536, .inl v_me))] := hD
  refine lv_iload_n hx hb dX12_comesFrom_2 rfl (lv_at hl 0 rfl) ?_
  refine lv_iconst (v := 5) hx hb dX12_comesFrom_3 (by decide) ?_
  refine lv_icmp_ge (tgt := 101) hx hb dX12_comesFrom_4 (by decide) (fun c_3 => ?_) (fun c_3 => ?_)
  ·
    have i_3 : k2_3.toInt ≥ 5 := by have z := g5_ge (a := k2_3.toInt) (b := 5) (by rfl) (by decide) c_3; omega
    exact W.vret hx hb hr (fun t ht hW => ⟨⟨[(b_o, .inr (12, [.int u_th, .int u_sa, .ref b_rf, .ref b_ro, .ref b_im, .ref b_ke, .int u_fd, .ref b_tp, .int u_td, .int u_fr, .int u_to, .int u_so, .long u_wo, .int u_fa, .int u_bd, .int u_nc, .ref b_nl, .int u_co, .ref b_op, .ref b_ar, .int u_le, .ref b_pi, .ref b_pa, .int u_pd, .int u_od, .ref b_ws, .ref b_hw, .int u_la, .ref b_se, .ref b_re, .int u_bk, .long u_va, .long u_su, .int u_ce, .int u_ho, .int u_wy, .int u_bt, .int u_ps, .ref b_pt, .int u_tg, .int u_sn, .ref b_ip, .int u_ic, .ref b_ah, .ref b_be, .ref b_me, .int u_wd, .ref b_tr, .ref b_ld, .long u_st, .ref b_wn, .int u_id])), (b_be, .inl (G.2 1, 49152, .inr (.inl k2_be))), (b_me, .inl (G.2 0, 1536, .inl v_me))], rfl, ⟨k2_be, rfl⟩, by rw [ht]; exact hP.sub [0, 1, 2] rfl, hD.sub [0, 1, 2] (by decide) rfl⟩, hS.F ht⟩) hS.2.2 dX12_comesFrom_101
  ·
    have i_3 : k2_3.toInt < 5 := by have z := g5_geN (a := k2_3.toInt) (b := 5) (by rfl) (by decide) c_3; omega
    refine lv_aload_n hx hb dX12_comesFrom_7 rfl (lv_at hl 1 rfl) ?_
    refine lv_iload_n hx hb dX12_comesFrom_8 rfl (lv_at hl 3 rfl) ?_
    refine lv_iload_n hx hb dX12_comesFrom_9 rfl (lv_at hl 0 rfl) ?_
    refine lv_iload_n hx hb dX12_comesFrom_10 rfl (lv_at hl 2 rfl) ?_
    refine lv_iconst (v := 1) hx hb dX12_comesFrom_11 (by decide) ?_
    refine lv_iadd hx hb dX12_comesFrom_12 ?_
    have t_4 : (p_1 + 1).toInt = p_1.toInt + 1 := g5_iadd (a := p_1.toInt) (b := 1) (by rfl) (by decide) (by omega) (by omega)
    have hPc := hP.sub (ws' := [(b_o, .inr (12, [.int u_th, .int u_sa, .ref b_rf, .ref b_ro, .ref b_im, .ref b_ke, .int u_fd, .ref b_tp, .int u_td, .int u_fr, .int u_to, .int u_so, .long u_wo, .int u_fa, .int u_bd, .int u_nc, .ref b_nl, .int u_co, .ref b_op, .ref b_ar, .int u_le, .ref b_pi, .ref b_pa, .int u_pd, .int u_od, .ref b_ws, .ref b_hw, .int u_la, .ref b_se, .ref b_re, .int u_bk, .long u_va, .long u_su, .int u_ce, .int u_ho, .int u_wy, .int u_bt, .int u_ps, .ref b_pt, .int u_tg, .int u_sn, .ref b_ip, .int u_ic, .ref b_ah, .ref b_be, .ref b_me, .int u_wd, .ref b_tr, .ref b_ld, .long u_st, .ref b_wn, .int u_id])), (b_me, .inl (G.2 0, 1536, .inl v_me))]) [0, 2] rfl
    have hDc := hD.sub (ws' := [(b_o, .inr (12, [.int u_th, .int u_sa, .ref b_rf, .ref b_ro, .ref b_im, .ref b_ke, .int u_fd, .ref b_tp, .int u_td, .int u_fr, .int u_to, .int u_so, .long u_wo, .int u_fa, .int u_bd, .int u_nc, .ref b_nl, .int u_co, .ref b_op, .ref b_ar, .int u_le, .ref b_pi, .ref b_pa, .int u_pd, .int u_od, .ref b_ws, .ref b_hw, .int u_la, .ref b_se, .ref b_re, .int u_bk, .long u_va, .long u_su, .int u_ce, .int u_ho, .int u_wy, .int u_bt, .int u_ps, .ref b_pt, .int u_tg, .int u_sn, .ref b_ip, .int u_ic, .ref b_ah, .ref b_be, .ref b_me, .int u_wd, .ref b_tr, .ref b_ld, .long u_st, .ref b_wn, .int u_id])), (b_me, .inl (G.2 0, 1536, .inl v_me))]) [0, 2] (by decide) rfl
    have hFc := va_free (wc := [(b_o, .inr (12, [.int u_th, .int u_sa, .ref b_rf, .ref b_ro, .ref b_im, .ref b_ke, .int u_fd, .ref b_tp, .int u_td, .int u_fr, .int u_to, .int u_so, .long u_wo, .int u_fa, .int u_bd, .int u_nc, .ref b_nl, .int u_co, .ref b_op, .ref b_ar, .int u_le, .ref b_pi, .ref b_pa, .int u_pd, .int u_od, .ref b_ws, .ref b_hw, .int u_la, .ref b_se, .ref b_re, .int u_bk, .long u_va, .long u_su, .int u_ce, .int u_ho, .int u_wy, .int u_bt, .int u_ps, .ref b_pt, .int u_tg, .int u_sn, .ref b_ip, .int u_ic, .ref b_ah, .ref b_be, .ref b_me, .int u_wd, .ref b_tr, .ref b_ld, .long u_st, .ref b_wn, .int u_id])), (b_me, .inl (G.2 0, 1536, .inl v_me))]) hD hS hA [0, 2] rfl
    refine va_calli (va_runV (As := [.int p_2, .int k2_3, .int (p_1 + 1)]) (rest := []) ⟨hx, hb, hml, hown, hts⟩ (n_step l G b_o b_me b_rf b_ro b_im b_ke b_tp b_nl b_op b_ar b_pi b_pa b_ws b_hw b_se b_re b_pt b_ip b_ah b_be b_tr b_ld b_wn H.size u_th u_sa u_fd u_td u_fr u_to u_so u_fa u_bd u_nc u_co u_le u_pd u_od u_la u_bk u_ce u_ho u_wy u_bt u_ps u_tg u_sn u_ic u_wd u_id p_2 k2_3 (p_1 + 1) u_wo u_va u_su u_st v_me ⟨by omega, by omega⟩ ⟨by omega, by omega⟩ ⟨by omega, by omega⟩ ⟨by omega, by omega⟩ ⟨by omega, by omega⟩ ⟨by omega, by omega⟩ ⟨by omega, by omega⟩ ⟨by omega, by omega⟩ ⟨by omega, by omega⟩ ⟨by omega, by omega⟩ ⟨by omega, by omega⟩ ⟨by omega, by omega⟩ ⟨by omega, by omega⟩ ⟨by omega, by omega⟩ ⟨by omega, by omega⟩ ⟨by omega, by omega⟩ ⟨by omega, by omega⟩ ⟨by omega, by omega⟩ ⟨by omega, by omega⟩ (r_me)) (cwV 3 hts gV_X12_437 rfl rfl rfl hv_X12_step ⟨Nat.le_of_ble_eq_true rfl, Nat.le_of_ble_eq_true rfl⟩) (g5_preV hPc hK hDc hN hT hS hFc (ci := 12) (q0 := 0) rfl rfl) rfl rfl hl.1 rfl (lv_room (Nat.le_of_ble_eq_true rfl)) dX12_comesFrom_13 ⟨Nat.le_of_ble_eq_true rfl, Nat.le_of_ble_eq_true rfl⟩) hS (fun q _ h => hFc q h) hFc (fun r u t H1 locs ht hvm hw hB hz1 hk1 hS => ?_)
    obtain ⟨hP1, hD1⟩ := hB
    rw [ht] at hP1
    obtain ⟨z7, i_5, i_6, y8, rfl⟩ := hw
    have i_5 : (-1) ≤ z7.toInt ∧ z7.toInt ≤ 63 := i_5
    have i_6 : z7.toInt = -1 ∨ (v_me (64 * (p_1 + 1).toInt + z7.toInt).toNat).toInt < 64 := i_6
    obtain ⟨hP, hD⟩ := va_join (wr := [(b_be, .inl (G.2 1, 49152, .inr (.inl k2_be)))]) (w1 := [(b_o, .inr (12, [.int u_th, .int u_sa, .ref b_rf, .ref b_ro, .ref b_im, .ref b_ke, .int u_fd, .ref b_tp, .int u_td, .int u_fr, .int u_to, .int u_so, .long u_wo, .int u_fa, .int u_bd, .int u_nc, .ref b_nl, .int u_co, .ref b_op, .ref b_ar, .int u_le, .ref b_pi, .ref b_pa, .int u_pd, .int u_od, .ref b_ws, .ref b_hw, .int u_la, .ref b_se, .ref b_re, .int u_bk, .long u_va, .long u_su, .int u_ce, .int u_ho, .int u_wy, .int u_bt, .int u_ps, .ref b_pt, .int u_tg, .int u_sn, .ref b_ip, .int u_ic, .ref b_ah, .ref b_be, .ref b_me, .int u_wd, .ref b_tr, .ref b_ld, .long u_st, .ref b_wn, .int u_id])), (b_me, .inl (G.2 0, 1536, .inl v_me))]) hP hD [0, 2] [1] rfl rfl (by decide) (by decide) hk1 hFc hP1 hD1
    generalize H1 = H at hP hS ⊢
    have hP : va_P G.1 vwCl [(b_be, .inl (G.2 1, 49152, .inr (.inl k2_be))), (b_o, .inr (12, [.int u_th, .int u_sa, .ref b_rf, .ref b_ro, .ref b_im, .ref b_ke, .int u_fd, .ref b_tp, .int u_td, .int u_fr, .int u_to, .int u_so, .long u_wo, .int u_fa, .int u_bd, .int u_nc, .ref b_nl, .int u_co, .ref b_op, .ref b_ar, .int u_le, .ref b_pi, .ref b_pa, .int u_pd, .int u_od, .ref b_ws, .ref b_hw, .int u_la, .ref b_se, .ref b_re, .int u_bk, .long u_va, .long u_su, .int u_ce, .int u_ho, .int u_wy, .int u_bt, .int u_ps, .ref b_pt, .int u_tg, .int u_sn, .ref b_ip, .int u_ic, .ref b_ah, .ref b_be, .ref b_me, .int u_wd, .ref b_tr, .ref b_ld, .long u_st, .ref b_wn, .int u_id])), (b_me, .inl (G.2 0, 1536, .inl v_me))] H := hP
    have hD : va_D A [(b_be, .inl (G.2 1, 49152, .inr (.inl k2_be))), (b_o, .inr (12, [.int u_th, .int u_sa, .ref b_rf, .ref b_ro, .ref b_im, .ref b_ke, .int u_fd, .ref b_tp, .int u_td, .int u_fr, .int u_to, .int u_so, .long u_wo, .int u_fa, .int u_bd, .int u_nc, .ref b_nl, .int u_co, .ref b_op, .ref b_ar, .int u_le, .ref b_pi, .ref b_pa, .int u_pd, .int u_od, .ref b_ws, .ref b_hw, .int u_la, .ref b_se, .ref b_re, .int u_bk, .long u_va, .long u_su, .int u_ce, .int u_ho, .int u_wy, .int u_bt, .int u_ps, .ref b_pt, .int u_tg, .int u_sn, .ref b_ip, .int u_ic, .ref b_ah, .ref b_be, .ref b_me, .int u_wd, .ref b_tr, .ref b_ld, .long u_st, .ref b_wn, .int u_id])), (b_me, .inl (G.2 0, 1536, .inl v_me))] := hD
    refine g5_ti (v := z7) y8 ?_
    refine lv_istore (lv' := [(4, .int z7), (3, .int k2_3), (0, .ref b_o), (1, .int p_1), (2, .int p_2)]) hx hb dX12_comesFrom_16 hl (by decide) rfl (fun ls hl => ?_)
    refine lv_iconst (v := 0) hx hb dX12_comesFrom_18 (by decide) ?_
    refine lv_istore (lv' := [(5, .int 0), (4, .int z7), (3, .int k2_3), (0, .ref b_o), (1, .int p_1), (2, .int p_2)]) hx hb dX12_comesFrom_19 hl (by decide) rfl (fun ls hl => ?_)
    refine g5_loop (α := (Int32) × (Nat → Int64)) (fun (q : (Int32) × (Nat → Int64)) (ls : Array Slot) (H : Heap) (locs : List Loc) => match q with | (k21_5, k21_be) => lv_has ls 6 [(5, .int k21_5), (4, .int z7), (3, .int k2_3), (0, .ref b_o), (1, .int p_1), (2, .int p_2)] ∧ va_P G.1 vwCl [(b_be, .inl (G.2 1, 49152, .inr (.inl k21_be))), (b_o, .inr (12, [.int u_th, .int u_sa, .ref b_rf, .ref b_ro, .ref b_im, .ref b_ke, .int u_fd, .ref b_tp, .int u_td, .int u_fr, .int u_to, .int u_so, .long u_wo, .int u_fa, .int u_bd, .int u_nc, .ref b_nl, .int u_co, .ref b_op, .ref b_ar, .int u_le, .ref b_pi, .ref b_pa, .int u_pd, .int u_od, .ref b_ws, .ref b_hw, .int u_la, .ref b_se, .ref b_re, .int u_bk, .long u_va, .long u_su, .int u_ce, .int u_ho, .int u_wy, .int u_bt, .int u_ps, .ref b_pt, .int u_tg, .int u_sn, .ref b_ip, .int u_ic, .ref b_ah, .ref b_be, .ref b_me, .int u_wd, .ref b_tr, .ref b_ld, .long u_st, .ref b_wn, .int u_id])), (b_me, .inl (G.2 0, 1536, .inl v_me))] H ∧ va_D A [(b_be, .inl (G.2 1, 49152, .inr (.inl k21_be))), (b_o, .inr (12, [.int u_th, .int u_sa, .ref b_rf, .ref b_ro, .ref b_im, .ref b_ke, .int u_fd, .ref b_tp, .int u_td, .int u_fr, .int u_to, .int u_so, .long u_wo, .int u_fa, .int u_bd, .int u_nc, .ref b_nl, .int u_co, .ref b_op, .ref b_ar, .int u_le, .ref b_pi, .ref b_pa, .int u_pd, .int u_od, .ref b_ws, .ref b_hw, .int u_la, .ref b_se, .ref b_re, .int u_bk, .long u_va, .long u_su, .int u_ce, .int u_ho, .int u_wy, .int u_bt, .int u_ps, .ref b_pt, .int u_tg, .int u_sn, .ref b_ip, .int u_ic, .ref b_ah, .ref b_be, .ref b_me, .int u_wd, .ref b_tr, .ref b_ld, .long u_st, .ref b_wn, .int u_id])), (b_me, .inl (G.2 0, 1536, .inl v_me))] ∧ va_S A s.heap H locs ∧ (0 ≤ k21_5.toInt ∧ k21_5.toInt ≤ 32)) (fun (q : (Int32) × (Nat → Int64)) => match q with | (k21_5, k21_be) => Int.toNat (32 - k21_5.toInt)) (0, k2_be) ⟨lv_sub hl [0, 1, 2, 3, 4, 5] rfl, hP, hD, hS, ⟨by decide, by decide⟩⟩ ?_
    rintro ⟨k21_5, k21_be⟩ ls H locs ⟨hl, hP, hD, hS, i_9⟩ ih_21_10
    have hl : lv_has ls 6 [(5, .int k21_5), (4, .int z7), (3, .int k2_3), (0, .ref b_o), (1, .int p_1), (2, .int p_2)] := hl
    have i_9 : 0 ≤ k21_5.toInt ∧ k21_5.toInt ≤ 32 := i_9
    have hP : va_P G.1 vwCl [(b_be, .inl (G.2 1, 49152, .inr (.inl k21_be))), (b_o, .inr (12, [.int u_th, .int u_sa, .ref b_rf, .ref b_ro, .ref b_im, .ref b_ke, .int u_fd, .ref b_tp, .int u_td, .int u_fr, .int u_to, .int u_so, .long u_wo, .int u_fa, .int u_bd, .int u_nc, .ref b_nl, .int u_co, .ref b_op, .ref b_ar, .int u_le, .ref b_pi, .ref b_pa, .int u_pd, .int u_od, .ref b_ws, .ref b_hw, .int u_la, .ref b_se, .ref b_re, .int u_bk, .long u_va, .long u_su, .int u_ce, .int u_ho, .int u_wy, .int u_bt, .int u_ps, .ref b_pt, .int u_tg, .int u_sn, .ref b_ip, .int u_ic, .ref b_ah, .ref b_be, .ref b_me, .int u_wd, .ref b_tr, .ref b_ld, .long u_st, .ref b_wn, .int u_id])), (b_me, .inl (G.2 0, 1536, .inl v_me))] H := hP
    have hD : va_D A [(b_be, .inl (G.2 1, 49152, .inr (.inl k21_be))), (b_o, .inr (12, [.int u_th, .int u_sa, .ref b_rf, .ref b_ro, .ref b_im, .ref b_ke, .int u_fd, .ref b_tp, .int u_td, .int u_fr, .int u_to, .int u_so, .long u_wo, .int u_fa, .int u_bd, .int u_nc, .ref b_nl, .int u_co, .ref b_op, .ref b_ar, .int u_le, .ref b_pi, .ref b_pa, .int u_pd, .int u_od, .ref b_ws, .ref b_hw, .int u_la, .ref b_se, .ref b_re, .int u_bk, .long u_va, .long u_su, .int u_ce, .int u_ho, .int u_wy, .int u_bt, .int u_ps, .ref b_pt, .int u_tg, .int u_sn, .ref b_ip, .int u_ic, .ref b_ah, .ref b_be, .ref b_me, .int u_wd, .ref b_tr, .ref b_ld, .long u_st, .ref b_wn, .int u_id])), (b_me, .inl (G.2 0, 1536, .inl v_me))] := hD
    refine lv_iload hx hb dX12_comesFrom_21 (lv_at hl 0 rfl) ?_
    refine lv_bipush (v := 32) hx hb dX12_comesFrom_23 (by decide) ?_
    refine lv_icmp_ge (tgt := 95) hx hb dX12_comesFrom_25 (by decide) (fun c_11 => ?_) (fun c_11 => ?_)
    ·
      have i_11 : k21_5.toInt ≥ 32 := by have z := g5_ge (a := k21_5.toInt) (b := 32) (by rfl) (by decide) c_11; omega
      refine lv_iinc (v := (k2_3 + 1)) (lv' := [(3, .int (k2_3 + 1)), (5, .int k21_5), (4, .int z7), (0, .ref b_o), (1, .int p_1), (2, .int p_2)]) hx hb dX12_comesFrom_95 hl (k := 2) rfl rfl (by decide) rfl (fun ls hl => ?_)
      have t_12 : (k2_3 + 1).toInt = k2_3.toInt + 1 := g5_iadd (a := k2_3.toInt) (b := 1) rfl (by decide) (by omega) (by omega)
      refine lv_goto (tgt := 2) hx hb dX12_comesFrom_98 (by decide) ?_
      exact ih_2_2 ((k2_3 + 1), k21_be) ls H locs (show Int.toNat (5 - (k2_3 + 1).toInt) < Int.toNat (5 - k2_3.toInt) from g_up (show k2_3.toInt < (k2_3 + 1).toInt by omega) (show k2_3.toInt < 5 by omega)) ⟨lv_sub hl [0, 3, 4, 5] rfl, hP.sub [1, 0, 2] rfl, hD.sub [1, 0, 2] (by decide) rfl, hS, ⟨by omega, by omega⟩⟩
    ·
      have i_11 : k21_5.toInt < 32 := by have z := g5_geN (a := k21_5.toInt) (b := 32) (by rfl) (by decide) c_11; omega
      refine lv_iload hx hb dX12_comesFrom_28 (lv_at hl 1 rfl) ?_
      refine lv_iconst (v := (-1)) hx hb dX12_comesFrom_30 (by decide) ?_
      refine lv_icmp_eq (tgt := 95) hx hb dX12_comesFrom_31 (by decide) (fun c_13 => ?_) (fun c_13 => ?_)
      ·
        have i_13 : z7.toInt = (-1) := by have z := g5_eq (a := z7.toInt) (b := (-1)) (by rfl) (by decide) c_13; omega
        refine lv_iinc (v := (k2_3 + 1)) (lv' := [(3, .int (k2_3 + 1)), (5, .int k21_5), (4, .int z7), (0, .ref b_o), (1, .int p_1), (2, .int p_2)]) hx hb dX12_comesFrom_95 hl (k := 2) rfl rfl (by decide) rfl (fun ls hl => ?_)
        have t_14 : (k2_3 + 1).toInt = k2_3.toInt + 1 := g5_iadd (a := k2_3.toInt) (b := 1) rfl (by decide) (by omega) (by omega)
        refine lv_goto (tgt := 2) hx hb dX12_comesFrom_98 (by decide) ?_
        exact ih_2_2 ((k2_3 + 1), k21_be) ls H locs (show Int.toNat (5 - (k2_3 + 1).toInt) < Int.toNat (5 - k2_3.toInt) from g_up (show k2_3.toInt < (k2_3 + 1).toInt by omega) (show k2_3.toInt < 5 by omega)) ⟨lv_sub hl [0, 3, 4, 5] rfl, hP.sub [1, 0, 2] rfl, hD.sub [1, 0, 2] (by decide) rfl, hS, ⟨by omega, by omega⟩⟩
      ·
        have n_13 : gNe (z7.toInt) ((-1)) := by have z := g5_eqN (a := z7.toInt) (b := (-1)) (by rfl) (by decide) c_13; unfold gNe; omega
        have i_13 : z7.toInt ≥ 0 := by have z := g5_eqN (a := z7.toInt) (b := (-1)) (by rfl) (by decide) c_13; omega
        refine lv_aload_n hx hb dX12_comesFrom_34 rfl (lv_at hl 3 rfl) ?_
        refine va_get (D := G.1) (ci := 12) (v := .ref b_be) (C := RX12) (T := TX12) (N := 52) hx hb hts inG_X12 hown hK hP 1 rfl rfl 44 (by decide) (hts _ fl_X12_92) (fun _ h9 => h9) rfl dX12_comesFrom_35 ?_
        refine lv_bipush (v := 32) hx hb dX12_comesFrom_38 (by decide) ?_
        refine lv_bipush (v := 64) hx hb dX12_comesFrom_40 (by decide) ?_
        refine lv_iload_n hx hb dX12_comesFrom_42 rfl (lv_at hl 4 rfl) ?_
        refine lv_imul hx hb dX12_comesFrom_43 ?_
        have t_15 : (64 * p_1).toInt = 64 * p_1.toInt := g5_imul (a := 64) (b := p_1.toInt) (by decide) (by rfl) (by omega) (by omega)
        refine lv_iload_n hx hb dX12_comesFrom_44 rfl (lv_at hl 5 rfl) ?_
        refine lv_iadd hx hb dX12_comesFrom_45 ?_
        have t_16 : ((64 * p_1) + p_2).toInt = (64 * p_1).toInt + p_2.toInt := g5_iadd (a := (64 * p_1).toInt) (b := p_2.toInt) (by rfl) (by rfl) (by omega) (by omega)
        refine lv_imul hx hb dX12_comesFrom_46 ?_
        have t_17 : (32 * ((64 * p_1) + p_2)).toInt = 32 * ((64 * p_1) + p_2).toInt := g5_imul (a := 32) (b := ((64 * p_1) + p_2).toInt) (by decide) (by rfl) (by omega) (by omega)
        refine lv_iload hx hb dX12_comesFrom_47 (lv_at hl 0 rfl) ?_
        refine lv_iadd hx hb dX12_comesFrom_49 ?_
        have t_18 : ((32 * ((64 * p_1) + p_2)) + k21_5).toInt = (32 * ((64 * p_1) + p_2)).toInt + k21_5.toInt := g5_iadd (a := (32 * ((64 * p_1) + p_2)).toInt) (b := k21_5.toInt) (by rfl) (by rfl) (by omega) (by omega)
        refine lv_dup2_11 hx hb dX12_comesFrom_50 rfl rfl ?_
        refine va_lald hx hb hK hP 0 1 rfl rfl (i := ((32 * ((64 * p_1) + p_2)) + k21_5)) (vp_in_iff.mpr ⟨by omega, by omega⟩) dX12_comesFrom_51 ?_
        refine lv_aload_n hx hb dX12_comesFrom_52 rfl (lv_at hl 3 rfl) ?_
        refine va_get (D := G.1) (ci := 12) (v := .ref b_be) (C := RX12) (T := TX12) (N := 52) hx hb hts inG_X12 hown hK hP 1 rfl rfl 44 (by decide) (hts _ fl_X12_92) (fun _ h9 => h9) rfl dX12_comesFrom_53 ?_
        refine lv_bipush (v := 32) hx hb dX12_comesFrom_56 (by decide) ?_
        refine lv_bipush (v := 64) hx hb dX12_comesFrom_58 (by decide) ?_
        refine lv_iload_n hx hb dX12_comesFrom_60 rfl (lv_at hl 4 rfl) ?_
        refine lv_iconst (v := 1) hx hb dX12_comesFrom_61 (by decide) ?_
        refine lv_iadd hx hb dX12_comesFrom_62 ?_
        have t_19 : (p_1 + 1).toInt = p_1.toInt + 1 := g5_iadd (a := p_1.toInt) (b := 1) (by rfl) (by decide) (by omega) (by omega)
        refine lv_imul hx hb dX12_comesFrom_63 ?_
        have t_20 : (64 * (p_1 + 1)).toInt = 64 * (p_1 + 1).toInt := g5_imul (a := 64) (b := (p_1 + 1).toInt) (by decide) (by rfl) (by omega) (by omega)
        refine lv_iload hx hb dX12_comesFrom_64 (lv_at hl 1 rfl) ?_
        refine lv_iadd hx hb dX12_comesFrom_66 ?_
        have t_21 : ((64 * (p_1 + 1)) + z7).toInt = (64 * (p_1 + 1)).toInt + z7.toInt := g5_iadd (a := (64 * (p_1 + 1)).toInt) (b := z7.toInt) (by rfl) (by rfl) (by omega) (by omega)
        refine lv_imul hx hb dX12_comesFrom_67 ?_
        have t_22 : (32 * ((64 * (p_1 + 1)) + z7)).toInt = 32 * ((64 * (p_1 + 1)) + z7).toInt := g5_imul (a := 32) (b := ((64 * (p_1 + 1)) + z7).toInt) (by decide) (by rfl) (by omega) (by omega)
        refine lv_iload hx hb dX12_comesFrom_68 (lv_at hl 0 rfl) ?_
        refine lv_aload_n hx hb dX12_comesFrom_70 rfl (lv_at hl 3 rfl) ?_
        refine va_get (D := G.1) (ci := 12) (v := .ref b_me) (C := RX12) (T := TX12) (N := 52) hx hb hts inG_X12 hown hK hP 1 rfl rfl 45 (by decide) (hts _ fl_X12_95) (fun _ h9 => h9) rfl dX12_comesFrom_71 ?_
        refine lv_bipush (v := 64) hx hb dX12_comesFrom_74 (by decide) ?_
        refine lv_iload_n hx hb dX12_comesFrom_76 rfl (lv_at hl 4 rfl) ?_
        refine lv_iconst (v := 1) hx hb dX12_comesFrom_77 (by decide) ?_
        refine lv_iadd hx hb dX12_comesFrom_78 ?_
        have t_23 : (p_1 + 1).toInt = p_1.toInt + 1 := g5_iadd (a := p_1.toInt) (b := 1) (by rfl) (by decide) (by omega) (by omega)
        refine lv_imul hx hb dX12_comesFrom_79 ?_
        have t_24 : (64 * (p_1 + 1)).toInt = 64 * (p_1 + 1).toInt := g5_imul (a := 64) (b := (p_1 + 1).toInt) (by decide) (by rfl) (by omega) (by omega)
        refine lv_iload hx hb dX12_comesFrom_80 (lv_at hl 1 rfl) ?_
        refine lv_iadd hx hb dX12_comesFrom_82 ?_
        have t_25 : ((64 * (p_1 + 1)) + z7).toInt = (64 * (p_1 + 1)).toInt + z7.toInt := g5_iadd (a := (64 * (p_1 + 1)).toInt) (b := z7.toInt) (by rfl) (by rfl) (by omega) (by omega)
        refine va_iald hx hb hK hP 2 0 rfl rfl (i := ((64 * (p_1 + 1)) + z7)) (vp_in_iff.mpr ⟨by omega, by omega⟩) dX12_comesFrom_83 ?_
        have hr_26 : 0 ≤ (v_me ((64 * (p_1 + 1)) + z7).toNatClampNeg).toInt ∧ ((v_me ((64 * (p_1 + 1)) + z7).toNatClampNeg).toInt < 32 ∨ 64 ≤ (v_me ((64 * (p_1 + 1)) + z7).toNatClampNeg).toInt) ∧ (v_me ((64 * (p_1 + 1)) + z7).toNatClampNeg).toInt ≤ 127 := r_me (((64 * (p_1 + 1)) + z7).toNatClampNeg)
        have h64_27 : (v_me ((64 * (p_1 + 1)) + z7).toNatClampNeg).toInt < 64 := by have e9 : ((64 * (p_1 + 1)) + z7).toNatClampNeg = (64 * (p_1 + 1).toInt + z7.toInt).toNat := (by have zz := g5_clamp ((64 * (p_1 + 1)) + z7); omega); rw [e9]; rcases i_6 with q | q; omega; exact q
        refine lv_ior hx hb dX12_comesFrom_84 ?_
        have ho_28 : 0 ≤ (k21_5 ||| (v_me ((64 * (p_1 + 1)) + z7).toNatClampNeg)).toInt ∧ (k21_5 ||| (v_me ((64 * (p_1 + 1)) + z7).toNatClampNeg)).toInt < 32 := me_low ⟨by omega, by omega⟩ ⟨by omega, by omega⟩
        refine lv_iadd hx hb dX12_comesFrom_85 ?_
        have t_29 : ((32 * ((64 * (p_1 + 1)) + z7)) + (k21_5 ||| (v_me ((64 * (p_1 + 1)) + z7).toNatClampNeg))).toInt = (32 * ((64 * (p_1 + 1)) + z7)).toInt + (k21_5 ||| (v_me ((64 * (p_1 + 1)) + z7).toNatClampNeg)).toInt := g5_iadd (a := (32 * ((64 * (p_1 + 1)) + z7)).toInt) (b := (k21_5 ||| (v_me ((64 * (p_1 + 1)) + z7).toNatClampNeg)).toInt) (by rfl) (by rfl) (by omega) (by omega)
        refine va_lald hx hb hK hP 0 1 rfl rfl (i := ((32 * ((64 * (p_1 + 1)) + z7)) + (k21_5 ||| (v_me ((64 * (p_1 + 1)) + z7).toNatClampNeg)))) (vp_in_iff.mpr ⟨by omega, by omega⟩) dX12_comesFrom_86 ?_
        refine lv_ladd hx hb dX12_comesFrom_87 ?_
        refine va_last hx hb hK hP hD hS 0 1 rfl rfl (i := ((32 * ((64 * p_1) + p_2)) + k21_5)) (x := ((k21_be ((32 * ((64 * p_1) + p_2)) + k21_5).toNatClampNeg) + (k21_be ((32 * ((64 * (p_1 + 1)) + z7)) + (k21_5 ||| (v_me ((64 * (p_1 + 1)) + z7).toNatClampNeg))).toNatClampNeg))) (vp_in_iff.mpr ⟨by omega, by omega⟩) dX12_comesFrom_88 (fun H locs hP hD hS => ?_)
        have hP : va_P G.1 vwCl [(b_be, .inl (G.2 1, 49152, .inr (.inl (vp_updL k21_be ((32 * ((64 * p_1) + p_2)) + k21_5).toNatClampNeg ((k21_be ((32 * ((64 * p_1) + p_2)) + k21_5).toNatClampNeg) + (k21_be ((32 * ((64 * (p_1 + 1)) + z7)) + (k21_5 ||| (v_me ((64 * (p_1 + 1)) + z7).toNatClampNeg))).toNatClampNeg)))))), (b_o, .inr (12, [.int u_th, .int u_sa, .ref b_rf, .ref b_ro, .ref b_im, .ref b_ke, .int u_fd, .ref b_tp, .int u_td, .int u_fr, .int u_to, .int u_so, .long u_wo, .int u_fa, .int u_bd, .int u_nc, .ref b_nl, .int u_co, .ref b_op, .ref b_ar, .int u_le, .ref b_pi, .ref b_pa, .int u_pd, .int u_od, .ref b_ws, .ref b_hw, .int u_la, .ref b_se, .ref b_re, .int u_bk, .long u_va, .long u_su, .int u_ce, .int u_ho, .int u_wy, .int u_bt, .int u_ps, .ref b_pt, .int u_tg, .int u_sn, .ref b_ip, .int u_ic, .ref b_ah, .ref b_be, .ref b_me, .int u_wd, .ref b_tr, .ref b_ld, .long u_st, .ref b_wn, .int u_id])), (b_me, .inl (G.2 0, 1536, .inl v_me))] H := hP
        have hD : va_D A [(b_be, .inl (G.2 1, 49152, .inr (.inl (vp_updL k21_be ((32 * ((64 * p_1) + p_2)) + k21_5).toNatClampNeg ((k21_be ((32 * ((64 * p_1) + p_2)) + k21_5).toNatClampNeg) + (k21_be ((32 * ((64 * (p_1 + 1)) + z7)) + (k21_5 ||| (v_me ((64 * (p_1 + 1)) + z7).toNatClampNeg))).toNatClampNeg)))))), (b_o, .inr (12, [.int u_th, .int u_sa, .ref b_rf, .ref b_ro, .ref b_im, .ref b_ke, .int u_fd, .ref b_tp, .int u_td, .int u_fr, .int u_to, .int u_so, .long u_wo, .int u_fa, .int u_bd, .int u_nc, .ref b_nl, .int u_co, .ref b_op, .ref b_ar, .int u_le, .ref b_pi, .ref b_pa, .int u_pd, .int u_od, .ref b_ws, .ref b_hw, .int u_la, .ref b_se, .ref b_re, .int u_bk, .long u_va, .long u_su, .int u_ce, .int u_ho, .int u_wy, .int u_bt, .int u_ps, .ref b_pt, .int u_tg, .int u_sn, .ref b_ip, .int u_ic, .ref b_ah, .ref b_be, .ref b_me, .int u_wd, .ref b_tr, .ref b_ld, .long u_st, .ref b_wn, .int u_id])), (b_me, .inl (G.2 0, 1536, .inl v_me))] := hD
        refine lv_iinc (v := (k21_5 + 1)) (lv' := [(5, .int (k21_5 + 1)), (4, .int z7), (3, .int k2_3), (0, .ref b_o), (1, .int p_1), (2, .int p_2)]) hx hb dX12_comesFrom_89 hl (k := 0) rfl rfl (by decide) rfl (fun ls hl => ?_)
        have t_30 : (k21_5 + 1).toInt = k21_5.toInt + 1 := g5_iadd (a := k21_5.toInt) (b := 1) rfl (by decide) (by omega) (by omega)
        refine lv_goto (tgt := 21) hx hb dX12_comesFrom_92 (by decide) ?_
        exact ih_21_10 ((k21_5 + 1), (vp_updL k21_be ((32 * ((64 * p_1) + p_2)) + k21_5).toNatClampNeg ((k21_be ((32 * ((64 * p_1) + p_2)) + k21_5).toNatClampNeg) + (k21_be ((32 * ((64 * (p_1 + 1)) + z7)) + (k21_5 ||| (v_me ((64 * (p_1 + 1)) + z7).toNatClampNeg))).toNatClampNeg)))) ls H locs (show Int.toNat (32 - (k21_5 + 1).toInt) < Int.toNat (32 - k21_5.toInt) from g_up (show k21_5.toInt < (k21_5 + 1).toInt by omega) (show k21_5.toInt < 32 by omega)) ⟨lv_sub hl [0, 1, 2, 3, 4, 5] rfl, hP, hD, hS, ⟨by omega, by omega⟩⟩
