set_option maxHeartbeats 4000000 in
set_option maxRecDepth 100000 in
theorem n_lit (l : Launch) (G : g5_G) (b_o b_ro b_se b_re b_pt b_ip b_rf b_im b_ke b_tp b_nl b_op b_ar b_pi b_pa b_ws b_hw b_ah b_be b_me b_tr b_ld b_wn : Nat) (sz : Nat) (u_th : Int32) (u_sa : Int32) (u_fd : Int32) (u_td : Int32) (u_fr : Int32) (u_to : Int32) (u_so : Int32) (u_fa : Int32) (u_bd : Int32) (u_nc : Int32) (u_co : Int32) (u_le : Int32) (u_pd : Int32) (u_od : Int32) (u_la : Int32) (u_bk : Int32) (u_ce : Int32) (u_ho : Int32) (u_wy : Int32) (u_bt : Int32) (u_ps : Int32) (u_tg : Int32) (u_sn : Int32) (u_ic : Int32) (u_wd : Int32) (u_id : Int32) (p_1 : Int32) (p_2 : Int32) (p_3 : Int32) (u_wo : Int64) (u_va : Int64) (u_su : Int64) (u_st : Int64) (v_ro : Nat → Int32) (v_se : Nat → Int64) (v_re : Nat → Int64) (v_pt : Nat → Int32) (v_ip : Nat → Int32) (h_u_td : 0 ≤ u_td.toInt ∧ u_td.toInt ≤ 400) (h_u_fr : 0 ≤ u_fr.toInt ∧ u_fr.toInt ≤ 400) (h_u_to : 0 ≤ u_to.toInt ∧ u_to.toInt ≤ 400) (h_u_bd : 0 ≤ u_bd.toInt ∧ u_bd.toInt ≤ 1) (h_u_nc : 0 ≤ u_nc.toInt ∧ u_nc.toInt ≤ 12) (h_u_co : 0 ≤ u_co.toInt ∧ u_co.toInt ≤ 400) (h_u_pd : 0 ≤ u_pd.toInt ∧ u_pd.toInt ≤ 400) (h_u_la : 0 ≤ u_la.toInt ∧ u_la.toInt ≤ 4840) (h_u_bk : 0 ≤ u_bk.toInt ∧ u_bk.toInt ≤ 1) (h_u_ce : 0 ≤ u_ce.toInt ∧ u_ce.toInt ≤ 63) (h_u_ho : 0 ≤ u_ho.toInt ∧ u_ho.toInt ≤ 23) (h_u_wy : 0 ≤ u_wy.toInt ∧ u_wy.toInt ≤ 3) (h_u_bt : 0 ≤ u_bt.toInt ∧ u_bt.toInt ≤ 1000000) (h_u_ps : 0 ≤ u_ps.toInt ∧ u_ps.toInt ≤ 200) (h_u_ic : 0 ≤ u_ic.toInt ∧ u_ic.toInt ≤ 1) (h_u_id : 0 ≤ u_id.toInt ∧ u_id.toInt ≤ 1) (r_ro : MI v_ro) (r_pt : PTI v_pt) : Met l yX12_lit (wsG yX12_lit cX12_lit 8 (some .int)) ({ frames := 8, cells := 0, slots := 0, locals := 200 }) (va_Pc [.ref b_o, .int p_1, .int p_2, .int p_3] (g5_P G [(b_o, .inr (12, [.int u_th, .int u_sa, .ref b_rf, .ref b_ro, .ref b_im, .ref b_ke, .int u_fd, .ref b_tp, .int u_td, .int u_fr, .int u_to, .int u_so, .long u_wo, .int u_fa, .int u_bd, .int u_nc, .ref b_nl, .int u_co, .ref b_op, .ref b_ar, .int u_le, .ref b_pi, .ref b_pa, .int u_pd, .int u_od, .ref b_ws, .ref b_hw, .int u_la, .ref b_se, .ref b_re, .int u_bk, .long u_va, .long u_su, .int u_ce, .int u_ho, .int u_wy, .int u_bt, .int u_ps, .ref b_pt, .int u_tg, .int u_sn, .ref b_ip, .int u_ic, .ref b_ah, .ref b_be, .ref b_me, .int u_wd, .ref b_tr, .ref b_ld, .long u_st, .ref b_wn, .int u_id])), (b_ro, .inl (G.2 0, 5740, .inl v_ro)), (b_se, .inl (G.2 1, 13, .inr (.inl v_se))), (b_re, .inl (G.2 1, 400, .inr (.inl v_re))), (b_pt, .inl (G.2 0, 200, .inl v_pt)), (b_ip, .inl (G.2 2, 1536, .inl v_ip))] sz)) (va_Qi (fun (r : Int32) (u : va_W) => (∃ (o_r : Int32) (o_th : Int32) (o_la : Int32) (o_bk : Int32) (o_va : Int64) (o_su : Int64) (o_ce : Int32) (o_ho : Int32) (o_wy : Int32) (o_bt : Int32) (o_ps : Int32) (o_tg : Int32) (o_sn : Int32) (o_se : Nat → Int64) (o_re : Nat → Int64) (o_pt : Nat → Int32) (o_ip : Nat → Int32), (0 ≤ o_la.toInt ∧ o_la.toInt ≤ 4840) ∧ (0 ≤ o_bk.toInt ∧ o_bk.toInt ≤ 1) ∧ (0 ≤ o_ce.toInt ∧ o_ce.toInt ≤ 63) ∧ (0 ≤ o_ho.toInt ∧ o_ho.toInt ≤ 23) ∧ (0 ≤ o_wy.toInt ∧ o_wy.toInt ≤ 3) ∧ (0 ≤ o_bt.toInt ∧ o_bt.toInt ≤ 1000000) ∧ (0 ≤ o_ps.toInt ∧ o_ps.toInt ≤ 200) ∧ (PTI o_pt) ∧ (r = o_r) ∧ (u = [(b_o, .inr (12, [.int o_th, .int u_sa, .ref b_rf, .ref b_ro, .ref b_im, .ref b_ke, .int u_fd, .ref b_tp, .int u_td, .int u_fr, .int u_to, .int u_so, .long u_wo, .int u_fa, .int u_bd, .int u_nc, .ref b_nl, .int u_co, .ref b_op, .ref b_ar, .int u_le, .ref b_pi, .ref b_pa, .int u_pd, .int u_od, .ref b_ws, .ref b_hw, .int o_la, .ref b_se, .ref b_re, .int o_bk, .long o_va, .long o_su, .int o_ce, .int o_ho, .int o_wy, .int o_bt, .int o_ps, .ref b_pt, .int o_tg, .int o_sn, .ref b_ip, .int u_ic, .ref b_ah, .ref b_be, .ref b_me, .int u_wd, .ref b_tr, .ref b_ld, .long u_st, .ref b_wn, .int u_id])), (b_ro, .inl (G.2 0, 5740, .inl v_ro)), (b_se, .inl (G.2 1, 13, .inr (.inl o_se))), (b_re, .inl (G.2 1, 400, .inr (.inl o_re))), (b_pt, .inl (G.2 0, 200, .inl o_pt)), (b_ip, .inl (G.2 2, 1536, .inl o_ip))]))) (g5_B G (va_A [(b_o, .inr (12, [.int u_th, .int u_sa, .ref b_rf, .ref b_ro, .ref b_im, .ref b_ke, .int u_fd, .ref b_tp, .int u_td, .int u_fr, .int u_to, .int u_so, .long u_wo, .int u_fa, .int u_bd, .int u_nc, .ref b_nl, .int u_co, .ref b_op, .ref b_ar, .int u_le, .ref b_pi, .ref b_pa, .int u_pd, .int u_od, .ref b_ws, .ref b_hw, .int u_la, .ref b_se, .ref b_re, .int u_bk, .long u_va, .long u_su, .int u_ce, .int u_ho, .int u_wy, .int u_bt, .int u_ps, .ref b_pt, .int u_tg, .int u_sn, .ref b_ip, .int u_ic, .ref b_ah, .ref b_be, .ref b_me, .int u_wd, .ref b_tr, .ref b_ld, .long u_st, .ref b_wn, .int u_id])), (b_ro, .inl (G.2 0, 5740, .inl v_ro)), (b_se, .inl (G.2 1, 13, .inr (.inl v_se))), (b_re, .inl (G.2 1, 400, .inr (.inl v_re))), (b_pt, .inl (G.2 0, 200, .inl v_pt)), (b_ip, .inl (G.2 2, 1536, .inl v_ip))] sz)) (va_A [(b_o, .inr (12, [.int u_th, .int u_sa, .ref b_rf, .ref b_ro, .ref b_im, .ref b_ke, .int u_fd, .ref b_tp, .int u_td, .int u_fr, .int u_to, .int u_so, .long u_wo, .int u_fa, .int u_bd, .int u_nc, .ref b_nl, .int u_co, .ref b_op, .ref b_ar, .int u_le, .ref b_pi, .ref b_pa, .int u_pd, .int u_od, .ref b_ws, .ref b_hw, .int u_la, .ref b_se, .ref b_re, .int u_bk, .long u_va, .long u_su, .int u_ce, .int u_ho, .int u_wy, .int u_bt, .int u_ps, .ref b_pt, .int u_tg, .int u_sn, .ref b_ip, .int u_ic, .ref b_ah, .ref b_be, .ref b_me, .int u_wd, .ref b_tr, .ref b_ld, .long u_st, .ref b_wn, .int u_id])), (b_ro, .inl (G.2 0, 5740, .inl v_ro)), (b_se, .inl (G.2 1, 13, .inr (.inl v_se))), (b_re, .inl (G.2 1, 400, .inr (.inl v_re))), (b_pt, .inl (G.2 0, 200, .inl v_pt)), (b_ip, .inl (G.2 2, 1536, .inl v_ip))] sz)) 0 0 (va_A [(b_o, .inr (12, [.int u_th, .int u_sa, .ref b_rf, .ref b_ro, .ref b_im, .ref b_ke, .int u_fd, .ref b_tp, .int u_td, .int u_fr, .int u_to, .int u_so, .long u_wo, .int u_fa, .int u_bd, .int u_nc, .ref b_nl, .int u_co, .ref b_op, .ref b_ar, .int u_le, .ref b_pi, .ref b_pa, .int u_pd, .int u_od, .ref b_ws, .ref b_hw, .int u_la, .ref b_se, .ref b_re, .int u_bk, .long u_va, .long u_su, .int u_ce, .int u_ho, .int u_wy, .int u_bt, .int u_ps, .ref b_pt, .int u_tg, .int u_sn, .ref b_ip, .int u_ic, .ref b_ah, .ref b_be, .ref b_me, .int u_wd, .ref b_tr, .ref b_ld, .long u_st, .ref b_wn, .int u_id])), (b_ro, .inl (G.2 0, 5740, .inl v_ro)), (b_se, .inl (G.2 1, 13, .inr (.inl v_se))), (b_re, .inl (G.2 1, 400, .inr (.inl v_re))), (b_pt, .inl (G.2 0, 200, .inl v_pt)), (b_ip, .inl (G.2 2, 1536, .inl v_ip))] sz) := by
  refine Met.ofW (cc := cX12_lit) (maxL := 8) (ret := (some .int)) (by decide) rfl ?_
  intro p e s m args below meth c s₁ B hml hv
  obtain ⟨rfl, hsz, hP, hK, hD0, hN, hT⟩ := hv
  have hx := B.exec
  have hb := B.bytes
  have hr := B.returns
  have hts : ∀ w ∈ tblG, w.before _ s = true := fun w h => atoms_spec (ws := (wsG yX12_lit cX12_lit 8 (some .int))) B.pre w (List.mem_cons_of_mem _ h)
  have hown : s.vm.findClass RX12 = some m.cls := findClass_of_methodNamed B.named
  have hlocks := B.notSynchronized
  subst hsz
  have hD := hD0.self (sz := s.heap.size)
  generalize hAe : va_A [(b_o, .inr (12, [.int u_th, .int u_sa, .ref b_rf, .ref b_ro, .ref b_im, .ref b_ke, .int u_fd, .ref b_tp, .int u_td, .int u_fr, .int u_to, .int u_so, .long u_wo, .int u_fa, .int u_bd, .int u_nc, .ref b_nl, .int u_co, .ref b_op, .ref b_ar, .int u_le, .ref b_pi, .ref b_pa, .int u_pd, .int u_od, .ref b_ws, .ref b_hw, .int u_la, .ref b_se, .ref b_re, .int u_bk, .long u_va, .long u_su, .int u_ce, .int u_ho, .int u_wy, .int u_bt, .int u_ps, .ref b_pt, .int u_tg, .int u_sn, .ref b_ip, .int u_ic, .ref b_ah, .ref b_be, .ref b_me, .int u_wd, .ref b_tr, .ref b_ld, .long u_st, .ref b_wn, .int u_id])), (b_ro, .inl (G.2 0, 5740, .inl v_ro)), (b_se, .inl (G.2 1, 13, .inr (.inl v_se))), (b_re, .inl (G.2 1, 400, .inr (.inl v_re))), (b_pt, .inl (G.2 0, 200, .inl v_pt)), (b_ip, .inl (G.2 2, 1536, .inl v_ip))] s.heap.size = A at hD hT ⊢
  have hA : ∀ q : Nat, s.heap.size ≤ q → A q := fun q h => by rw [← hAe]; exact Or.inr h
  have hS : va_S A s.heap s.heap [] := va_S.rf
  have hP : va_P G.1 vwCl [(b_o, .inr (12, [.int u_th, .int u_sa, .ref b_rf, .ref b_ro, .ref b_im, .ref b_ke, .int u_fd, .ref b_tp, .int u_td, .int u_fr, .int u_to, .int u_so, .long u_wo, .int u_fa, .int u_bd, .int u_nc, .ref b_nl, .int u_co, .ref b_op, .ref b_ar, .int u_le, .ref b_pi, .ref b_pa, .int u_pd, .int u_od, .ref b_ws, .ref b_hw, .int u_la, .ref b_se, .ref b_re, .int u_bk, .long u_va, .long u_su, .int u_ce, .int u_ho, .int u_wy, .int u_bt, .int u_ps, .ref b_pt, .int u_tg, .int u_sn, .ref b_ip, .int u_ic, .ref b_ah, .ref b_be, .ref b_me, .int u_wd, .ref b_tr, .ref b_ld, .long u_st, .ref b_wn, .int u_id])), (b_ro, .inl (G.2 0, 5740, .inl v_ro)), (b_se, .inl (G.2 1, 13, .inr (.inl v_se))), (b_re, .inl (G.2 1, 400, .inr (.inl v_re))), (b_pt, .inl (G.2 0, 200, .inl v_pt)), (b_ip, .inl (G.2 2, 1536, .inl v_ip))] s.heap := hP
  have hl := lv_entry ([.ref b_o, .int p_1, .int p_2, .int p_3]) (n := 8) (Nat.le_of_ble_eq_true rfl)
  rw [lg_entry_eq]
  generalize (lg_sl ([.ref b_o, .int p_1, .int p_2, .int p_3]) ++ List.replicate (8 - (lg_sl ([.ref b_o, .int p_1, .int p_2, .int p_3])).length) Slot.unset).toArray = ls at hl ⊢
  have hl : lv_has ls 8 [(0, .ref b_o), (1, .int p_1), (2, .int p_2), (3, .int p_3)] := hl
  refine lv_aload_n hx hb dX12_lit_0 rfl (lv_at hl 0 rfl) ?_
  refine lv_iconst (v := 0) hx hb dX12_lit_1 (by decide) ?_
  refine va_put (D := G.1) (ci := 12) (v := .int 0) (ty := .int) (C := RX12) (T := TX12) (N := 52) hx hb hts inG_X12 tyX12 tyX12_ok nmX12 hown hK hP hD hS 0 rfl rfl 0 (by decide) (hts _ fl_X12_107) (fun _ h9 => h9) rfl (by decide +kernel) rfl rfl (Nat.le_of_ble_eq_true rfl) dX12_lit_2 (fun H locs hP hD hS => ?_)
  have hP : va_P G.1 vwCl [(b_o, .inr (12, [.int 0, .int u_sa, .ref b_rf, .ref b_ro, .ref b_im, .ref b_ke, .int u_fd, .ref b_tp, .int u_td, .int u_fr, .int u_to, .int u_so, .long u_wo, .int u_fa, .int u_bd, .int u_nc, .ref b_nl, .int u_co, .ref b_op, .ref b_ar, .int u_le, .ref b_pi, .ref b_pa, .int u_pd, .int u_od, .ref b_ws, .ref b_hw, .int u_la, .ref b_se, .ref b_re, .int u_bk, .long u_va, .long u_su, .int u_ce, .int u_ho, .int u_wy, .int u_bt, .int u_ps, .ref b_pt, .int u_tg, .int u_sn, .ref b_ip, .int u_ic, .ref b_ah, .ref b_be, .ref b_me, .int u_wd, .ref b_tr, .ref b_ld, .long u_st, .ref b_wn, .int u_id])), (b_ro, .inl (G.2 0, 5740, .inl v_ro)), (b_se, .inl (G.2 1, 13, .inr (.inl v_se))), (b_re, .inl (G.2 1, 400, .inr (.inl v_re))), (b_pt, .inl (G.2 0, 200, .inl v_pt)), (b_ip, .inl (G.2 2, 1536, .inl v_ip))] H := hP
  have hD : va_D A [(b_o, .inr (12, [.int 0, .int u_sa, .ref b_rf, .ref b_ro, .ref b_im, .ref b_ke, .int u_fd, .ref b_tp, .int u_td, .int u_fr, .int u_to, .int u_so, .long u_wo, .int u_fa, .int u_bd, .int u_nc, .ref b_nl, .int u_co, .ref b_op, .ref b_ar, .int u_le, .ref b_pi, .ref b_pa, .int u_pd, .int u_od, .ref b_ws, .ref b_hw, .int u_la, .ref b_se, .ref b_re, .int u_bk, .long u_va, .long u_su, .int u_ce, .int u_ho, .int u_wy, .int u_bt, .int u_ps, .ref b_pt, .int u_tg, .int u_sn, .ref b_ip, .int u_ic, .ref b_ah, .ref b_be, .ref b_me, .int u_wd, .ref b_tr, .ref b_ld, .long u_st, .ref b_wn, .int u_id])), (b_ro, .inl (G.2 0, 5740, .inl v_ro)), (b_se, .inl (G.2 1, 13, .inr (.inl v_se))), (b_re, .inl (G.2 1, 400, .inr (.inl v_re))), (b_pt, .inl (G.2 0, 200, .inl v_pt)), (b_ip, .inl (G.2 2, 1536, .inl v_ip))] := hD
  refine lv_iload_n hx hb dX12_lit_5 rfl (lv_at hl 1 rfl) ?_
  have hPc := hP.sub (ws' := []) [] rfl
  have hDc := hD.sub (ws' := []) [] (by decide) rfl
  have hFc := va_free (wc := []) hD hS hA [] rfl
  refine va_calli (va_runS (As := [.int p_1]) (rest := []) ⟨hx, hb, hml, hown, hts⟩ (n_isCell l G H.size p_1) (va_cwS 1 hts gS_X12_138 rfl rfl rfl hs_X12_isCell ⟨Nat.le_of_ble_eq_true rfl, Nat.le_of_ble_eq_true rfl⟩) (g5_preS hPc hK hDc hN hT hS hFc) rfl rfl hl.1 rfl (lv_room (Nat.le_of_ble_eq_true rfl)) dX12_lit_6 ⟨Nat.le_of_ble_eq_true rfl, Nat.le_of_ble_eq_true rfl⟩) hS (fun q _ h => hFc q h) hFc (fun r u t H1 locs ht hvm hw hB hz1 hk1 hS => ?_)
  obtain ⟨hP1, hD1⟩ := hB
  rw [ht] at hP1
  rcases hw with ⟨i_1, rfl, rfl⟩ | ⟨rfl, rfl⟩
  ·
    have i_1 : 0 ≤ p_1.toInt ∧ p_1.toInt ≤ 63 := i_1
    have hP := g5_same hP hk1
    generalize H1 = H at hP hS ⊢
    refine lv_if_eq (tgt := 33) hx hb dX12_lit_9 (by decide) (fun c_2 => ?_) (fun c_2 => ?_)
    ·
      exact absurd c_2 (by decide)
    ·
      refine lv_iload_n hx hb dX12_lit_12 rfl (lv_at hl 2 rfl) ?_
      have hPc := hP.sub (ws' := []) [] rfl
      have hDc := hD.sub (ws' := []) [] (by decide) rfl
      have hFc := va_free (wc := []) hD hS hA [] rfl
      refine va_calli (va_runS (As := [.int p_2]) (rest := []) ⟨hx, hb, hml, hown, hts⟩ (n_isHour l G H.size p_2) (va_cwS 1 hts gS_X12_175 rfl rfl rfl hs_X12_isHour ⟨Nat.le_of_ble_eq_true rfl, Nat.le_of_ble_eq_true rfl⟩) (g5_preS hPc hK hDc hN hT hS hFc) rfl rfl hl.1 rfl (lv_room (Nat.le_of_ble_eq_true rfl)) dX12_lit_13 ⟨Nat.le_of_ble_eq_true rfl, Nat.le_of_ble_eq_true rfl⟩) hS (fun q _ h => hFc q h) hFc (fun r u t H1 locs ht hvm hw hB hz1 hk1 hS => ?_)
      obtain ⟨hP1, hD1⟩ := hB
      rw [ht] at hP1
      rcases hw with ⟨i_3, rfl, rfl⟩ | ⟨rfl, rfl⟩
      ·
        have i_3 : 0 ≤ p_2.toInt ∧ p_2.toInt ≤ 23 := i_3
        have hP := g5_same hP hk1
        generalize H1 = H at hP hS ⊢
        refine lv_if_eq (tgt := 33) hx hb dX12_lit_16 (by decide) (fun c_4 => ?_) (fun c_4 => ?_)
        ·
          exact absurd c_4 (by decide)
        ·
          refine lv_iload_n hx hb dX12_lit_19 rfl (lv_at hl 3 rfl) ?_
          refine lv_i2l (v := p_3.toInt64) hx hb dX12_lit_20 rfl ?_
          refine lv_ldc2 (v := (-1)) hx hb hown (hts _ kl_X12_178) dX12_lit_21 ?_
          refine lv_ldc2 (v := 63) hx hb hown (hts _ kl_X12_128) dX12_lit_24 ?_
          have hPc := hP.sub (ws' := []) [] rfl
          have hDc := hD.sub (ws' := []) [] (by decide) rfl
          have hFc := va_free (wc := []) hD hS hA [] rfl
          refine va_calli (va_runS (As := [.long p_3.toInt64, .long (-1), .long 63]) (rest := []) ⟨hx, hb, hml, hown, hts⟩ (n_in_m1_63 l G H.size p_3) (va_cwS 3 hts gS_X12_121 rfl rfl rfl hs_X12_in ⟨Nat.le_of_ble_eq_true rfl, Nat.le_of_ble_eq_true rfl⟩) (g5_preS hPc hK hDc hN hT hS hFc) rfl rfl hl.1 rfl (lv_room (Nat.le_of_ble_eq_true rfl)) dX12_lit_27 ⟨Nat.le_of_ble_eq_true rfl, Nat.le_of_ble_eq_true rfl⟩) hS (fun q _ h => hFc q h) hFc (fun r u t H1 locs ht hvm hw hB hz1 hk1 hS => ?_)
          obtain ⟨hP1, hD1⟩ := hB
          rw [ht] at hP1
          rcases hw with ⟨i_5, rfl, rfl⟩ | ⟨i_6, rfl, rfl⟩
          ·
            have i_5 : p_3.toInt < (-1) ∨ 63 < p_3.toInt := i_5
            have hP := g5_same hP hk1
            generalize H1 = H at hP hS ⊢
            refine lv_if_ne (tgt := 35) hx hb dX12_lit_30 (by decide) (fun c_7 => ?_) (fun c_7 => ?_)
            ·
              exact absurd c_7 (by decide)
            ·
              refine lv_iconst (v := (-1)) hx hb dX12_lit_33 (by decide) ?_
              exact W.iret (v := (-1)) hx hb hr (fun t ht hW => ⟨⟨(-1), [(b_o, .inr (12, [.int 0, .int u_sa, .ref b_rf, .ref b_ro, .ref b_im, .ref b_ke, .int u_fd, .ref b_tp, .int u_td, .int u_fr, .int u_to, .int u_so, .long u_wo, .int u_fa, .int u_bd, .int u_nc, .ref b_nl, .int u_co, .ref b_op, .ref b_ar, .int u_le, .ref b_pi, .ref b_pa, .int u_pd, .int u_od, .ref b_ws, .ref b_hw, .int u_la, .ref b_se, .ref b_re, .int u_bk, .long u_va, .long u_su, .int u_ce, .int u_ho, .int u_wy, .int u_bt, .int u_ps, .ref b_pt, .int u_tg, .int u_sn, .ref b_ip, .int u_ic, .ref b_ah, .ref b_be, .ref b_me, .int u_wd, .ref b_tr, .ref b_ld, .long u_st, .ref b_wn, .int u_id])), (b_ro, .inl (G.2 0, 5740, .inl v_ro)), (b_se, .inl (G.2 1, 13, .inr (.inl v_se))), (b_re, .inl (G.2 1, 400, .inr (.inl v_re))), (b_pt, .inl (G.2 0, 200, .inl v_pt)), (b_ip, .inl (G.2 2, 1536, .inl v_ip))], rfl, ⟨(-1), 0, u_la, u_bk, u_va, u_su, u_ce, u_ho, u_wy, u_bt, u_ps, u_tg, u_sn, v_se, v_re, v_pt, v_ip, ⟨by omega, by omega⟩, ⟨by omega, by omega⟩, ⟨by omega, by omega⟩, ⟨by omega, by omega⟩, ⟨by omega, by omega⟩, ⟨by omega, by omega⟩, ⟨by omega, by omega⟩, r_pt, rfl, rfl⟩, by rw [ht]; exact hP.sub [0, 1, 2, 3, 4, 5] rfl, hD.sub [0, 1, 2, 3, 4, 5] (by decide) rfl⟩, hS.F ht⟩) hS.2.2 dX12_lit_34
          ·
            have i_6 : (-1) ≤ p_3.toInt ∧ p_3.toInt ≤ 63 := i_6
            have hP := g5_same hP hk1
            generalize H1 = H at hP hS ⊢
            refine lv_if_ne (tgt := 35) hx hb dX12_lit_30 (by decide) (fun c_8 => ?_) (fun c_8 => ?_)
            ·
              refine lv_aload_n hx hb dX12_lit_35 rfl (lv_at hl 0 rfl) ?_
              have hPc := hP.sub (ws' := [(b_o, .inr (12, [.int 0, .int u_sa, .ref b_rf, .ref b_ro, .ref b_im, .ref b_ke, .int u_fd, .ref b_tp, .int u_td, .int u_fr, .int u_to, .int u_so, .long u_wo, .int u_fa, .int u_bd, .int u_nc, .ref b_nl, .int u_co, .ref b_op, .ref b_ar, .int u_le, .ref b_pi, .ref b_pa, .int u_pd, .int u_od, .ref b_ws, .ref b_hw, .int u_la, .ref b_se, .ref b_re, .int u_bk, .long u_va, .long u_su, .int u_ce, .int u_ho, .int u_wy, .int u_bt, .int u_ps, .ref b_pt, .int u_tg, .int u_sn, .ref b_ip, .int u_ic, .ref b_ah, .ref b_be, .ref b_me, .int u_wd, .ref b_tr, .ref b_ld, .long u_st, .ref b_wn, .int u_id])), (b_ip, .inl (G.2 2, 1536, .inl v_ip))]) [0, 5] rfl
              have hDc := hD.sub (ws' := [(b_o, .inr (12, [.int 0, .int u_sa, .ref b_rf, .ref b_ro, .ref b_im, .ref b_ke, .int u_fd, .ref b_tp, .int u_td, .int u_fr, .int u_to, .int u_so, .long u_wo, .int u_fa, .int u_bd, .int u_nc, .ref b_nl, .int u_co, .ref b_op, .ref b_ar, .int u_le, .ref b_pi, .ref b_pa, .int u_pd, .int u_od, .ref b_ws, .ref b_hw, .int u_la, .ref b_se, .ref b_re, .int u_bk, .long u_va, .long u_su, .int u_ce, .int u_ho, .int u_wy, .int u_bt, .int u_ps, .ref b_pt, .int u_tg, .int u_sn, .ref b_ip, .int u_ic, .ref b_ah, .ref b_be, .ref b_me, .int u_wd, .ref b_tr, .ref b_ld, .long u_st, .ref b_wn, .int u_id])), (b_ip, .inl (G.2 2, 1536, .inl v_ip))]) [0, 5] (by decide) rfl
              have hFc := va_free (wc := [(b_o, .inr (12, [.int 0, .int u_sa, .ref b_rf, .ref b_ro, .ref b_im, .ref b_ke, .int u_fd, .ref b_tp, .int u_td, .int u_fr, .int u_to, .int u_so, .long u_wo, .int u_fa, .int u_bd, .int u_nc, .ref b_nl, .int u_co, .ref b_op, .ref b_ar, .int u_le, .ref b_pi, .ref b_pa, .int u_pd, .int u_od, .ref b_ws, .ref b_hw, .int u_la, .ref b_se, .ref b_re, .int u_bk, .long u_va, .long u_su, .int u_ce, .int u_ho, .int u_wy, .int u_bt, .int u_ps, .ref b_pt, .int u_tg, .int u_sn, .ref b_ip, .int u_ic, .ref b_ah, .ref b_be, .ref b_me, .int u_wd, .ref b_tr, .ref b_ld, .long u_st, .ref b_wn, .int u_id])), (b_ip, .inl (G.2 2, 1536, .inl v_ip))]) hD hS hA [0, 5] rfl
              refine va_callv (va_runV (As := []) (rest := []) ⟨hx, hb, hml, hown, hts⟩ (n_clearPoints l G b_o b_ip b_rf b_ro b_im b_ke b_tp b_nl b_op b_ar b_pi b_pa b_ws b_hw b_se b_re b_pt b_ah b_be b_me b_tr b_ld b_wn H.size 0 u_sa u_fd u_td u_fr u_to u_so u_fa u_bd u_nc u_co u_le u_pd u_od u_la u_bk u_ce u_ho u_wy u_bt u_ps u_tg u_sn u_ic u_wd u_id u_wo u_va u_su u_st v_ip ⟨by omega, by omega⟩ ⟨by omega, by omega⟩ ⟨by omega, by omega⟩ ⟨by omega, by omega⟩ ⟨by omega, by omega⟩ ⟨by omega, by omega⟩ ⟨by omega, by omega⟩ ⟨by omega, by omega⟩ ⟨by omega, by omega⟩ ⟨by omega, by omega⟩ ⟨by omega, by omega⟩ ⟨by omega, by omega⟩ ⟨by omega, by omega⟩ ⟨by omega, by omega⟩ ⟨by omega, by omega⟩ ⟨by omega, by omega⟩) (cwV 0 hts gV_X12_413 rfl rfl rfl hv_X12_clearPoints ⟨Nat.le_of_ble_eq_true rfl, Nat.le_of_ble_eq_true rfl⟩) (g5_preV hPc hK hDc hN hT hS hFc (ci := 12) (q0 := 0) rfl rfl) rfl rfl hl.1 rfl (lv_room (Nat.le_of_ble_eq_true rfl)) dX12_lit_36 ⟨Nat.le_of_ble_eq_true rfl, Nat.le_of_ble_eq_true rfl⟩) hS (fun q _ h => hFc q h) hFc (fun u t H1 locs ht hvm hw hB hz1 hk1 hS => ?_)
              obtain ⟨hP1, hD1⟩ := hB
              rw [ht] at hP1
              obtain ⟨z9, rfl⟩ := hw
              obtain ⟨hP, hD⟩ := va_join (wr := [(b_ro, .inl (G.2 0, 5740, .inl v_ro)), (b_se, .inl (G.2 1, 13, .inr (.inl v_se))), (b_re, .inl (G.2 1, 400, .inr (.inl v_re))), (b_pt, .inl (G.2 0, 200, .inl v_pt))]) (w1 := [(b_o, .inr (12, [.int 0, .int u_sa, .ref b_rf, .ref b_ro, .ref b_im, .ref b_ke, .int u_fd, .ref b_tp, .int u_td, .int u_fr, .int u_to, .int u_so, .long u_wo, .int u_fa, .int u_bd, .int u_nc, .ref b_nl, .int u_co, .ref b_op, .ref b_ar, .int u_le, .ref b_pi, .ref b_pa, .int u_pd, .int u_od, .ref b_ws, .ref b_hw, .int u_la, .ref b_se, .ref b_re, .int u_bk, .long u_va, .long u_su, .int u_ce, .int u_ho, .int u_wy, .int u_bt, .int u_ps, .ref b_pt, .int u_tg, .int u_sn, .ref b_ip, .int u_ic, .ref b_ah, .ref b_be, .ref b_me, .int u_wd, .ref b_tr, .ref b_ld, .long u_st, .ref b_wn, .int u_id])), (b_ip, .inl (G.2 2, 1536, .inl z9))]) hP hD [0, 5] [1, 2, 3, 4] rfl rfl (by decide) (by decide) hk1 hFc hP1 hD1
              generalize H1 = H at hP hS ⊢
              have hP : va_P G.1 vwCl [(b_ro, .inl (G.2 0, 5740, .inl v_ro)), (b_se, .inl (G.2 1, 13, .inr (.inl v_se))), (b_re, .inl (G.2 1, 400, .inr (.inl v_re))), (b_pt, .inl (G.2 0, 200, .inl v_pt)), (b_o, .inr (12, [.int 0, .int u_sa, .ref b_rf, .ref b_ro, .ref b_im, .ref b_ke, .int u_fd, .ref b_tp, .int u_td, .int u_fr, .int u_to, .int u_so, .long u_wo, .int u_fa, .int u_bd, .int u_nc, .ref b_nl, .int u_co, .ref b_op, .ref b_ar, .int u_le, .ref b_pi, .ref b_pa, .int u_pd, .int u_od, .ref b_ws, .ref b_hw, .int u_la, .ref b_se, .ref b_re, .int u_bk, .long u_va, .long u_su, .int u_ce, .int u_ho, .int u_wy, .int u_bt, .int u_ps, .ref b_pt, .int u_tg, .int u_sn, .ref b_ip, .int u_ic, .ref b_ah, .ref b_be, .ref b_me, .int u_wd, .ref b_tr, .ref b_ld, .long u_st, .ref b_wn, .int u_id])), (b_ip, .inl (G.2 2, 1536, .inl z9))] H := hP
              have hD : va_D A [(b_ro, .inl (G.2 0, 5740, .inl v_ro)), (b_se, .inl (G.2 1, 13, .inr (.inl v_se))), (b_re, .inl (G.2 1, 400, .inr (.inl v_re))), (b_pt, .inl (G.2 0, 200, .inl v_pt)), (b_o, .inr (12, [.int 0, .int u_sa, .ref b_rf, .ref b_ro, .ref b_im, .ref b_ke, .int u_fd, .ref b_tp, .int u_td, .int u_fr, .int u_to, .int u_so, .long u_wo, .int u_fa, .int u_bd, .int u_nc, .ref b_nl, .int u_co, .ref b_op, .ref b_ar, .int u_le, .ref b_pi, .ref b_pa, .int u_pd, .int u_od, .ref b_ws, .ref b_hw, .int u_la, .ref b_se, .ref b_re, .int u_bk, .long u_va, .long u_su, .int u_ce, .int u_ho, .int u_wy, .int u_bt, .int u_ps, .ref b_pt, .int u_tg, .int u_sn, .ref b_ip, .int u_ic, .ref b_ah, .ref b_be, .ref b_me, .int u_wd, .ref b_tr, .ref b_ld, .long u_st, .ref b_wn, .int u_id])), (b_ip, .inl (G.2 2, 1536, .inl z9))] := hD
              refine lv_aload_n hx hb dX12_lit_39 rfl (lv_at hl 0 rfl) ?_
              refine lv_iload_n hx hb dX12_lit_40 rfl (lv_at hl 1 rfl) ?_
              refine lv_iload_n hx hb dX12_lit_41 rfl (lv_at hl 2 rfl) ?_
              have hPc := hP.sub (ws' := [(b_o, .inr (12, [.int 0, .int u_sa, .ref b_rf, .ref b_ro, .ref b_im, .ref b_ke, .int u_fd, .ref b_tp, .int u_td, .int u_fr, .int u_to, .int u_so, .long u_wo, .int u_fa, .int u_bd, .int u_nc, .ref b_nl, .int u_co, .ref b_op, .ref b_ar, .int u_le, .ref b_pi, .ref b_pa, .int u_pd, .int u_od, .ref b_ws, .ref b_hw, .int u_la, .ref b_se, .ref b_re, .int u_bk, .long u_va, .long u_su, .int u_ce, .int u_ho, .int u_wy, .int u_bt, .int u_ps, .ref b_pt, .int u_tg, .int u_sn, .ref b_ip, .int u_ic, .ref b_ah, .ref b_be, .ref b_me, .int u_wd, .ref b_tr, .ref b_ld, .long u_st, .ref b_wn, .int u_id])), (b_ro, .inl (G.2 0, 5740, .inl v_ro)), (b_se, .inl (G.2 1, 13, .inr (.inl v_se))), (b_re, .inl (G.2 1, 400, .inr (.inl v_re))), (b_pt, .inl (G.2 0, 200, .inl v_pt)), (b_ip, .inl (G.2 2, 1536, .inl z9))]) [4, 0, 1, 2, 3, 5] rfl
              have hDc := hD.sub (ws' := [(b_o, .inr (12, [.int 0, .int u_sa, .ref b_rf, .ref b_ro, .ref b_im, .ref b_ke, .int u_fd, .ref b_tp, .int u_td, .int u_fr, .int u_to, .int u_so, .long u_wo, .int u_fa, .int u_bd, .int u_nc, .ref b_nl, .int u_co, .ref b_op, .ref b_ar, .int u_le, .ref b_pi, .ref b_pa, .int u_pd, .int u_od, .ref b_ws, .ref b_hw, .int u_la, .ref b_se, .ref b_re, .int u_bk, .long u_va, .long u_su, .int u_ce, .int u_ho, .int u_wy, .int u_bt, .int u_ps, .ref b_pt, .int u_tg, .int u_sn, .ref b_ip, .int u_ic, .ref b_ah, .ref b_be, .ref b_me, .int u_wd, .ref b_tr, .ref b_ld, .long u_st, .ref b_wn, .int u_id])), (b_ro, .inl (G.2 0, 5740, .inl v_ro)), (b_se, .inl (G.2 1, 13, .inr (.inl v_se))), (b_re, .inl (G.2 1, 400, .inr (.inl v_re))), (b_pt, .inl (G.2 0, 200, .inl v_pt)), (b_ip, .inl (G.2 2, 1536, .inl z9))]) [4, 0, 1, 2, 3, 5] (by decide) rfl
              have hFc := va_free (wc := [(b_o, .inr (12, [.int 0, .int u_sa, .ref b_rf, .ref b_ro, .ref b_im, .ref b_ke, .int u_fd, .ref b_tp, .int u_td, .int u_fr, .int u_to, .int u_so, .long u_wo, .int u_fa, .int u_bd, .int u_nc, .ref b_nl, .int u_co, .ref b_op, .ref b_ar, .int u_le, .ref b_pi, .ref b_pa, .int u_pd, .int u_od, .ref b_ws, .ref b_hw, .int u_la, .ref b_se, .ref b_re, .int u_bk, .long u_va, .long u_su, .int u_ce, .int u_ho, .int u_wy, .int u_bt, .int u_ps, .ref b_pt, .int u_tg, .int u_sn, .ref b_ip, .int u_ic, .ref b_ah, .ref b_be, .ref b_me, .int u_wd, .ref b_tr, .ref b_ld, .long u_st, .ref b_wn, .int u_id])), (b_ro, .inl (G.2 0, 5740, .inl v_ro)), (b_se, .inl (G.2 1, 13, .inr (.inl v_se))), (b_re, .inl (G.2 1, 400, .inr (.inl v_re))), (b_pt, .inl (G.2 0, 200, .inl v_pt)), (b_ip, .inl (G.2 2, 1536, .inl z9))]) hD hS hA [4, 0, 1, 2, 3, 5] rfl
              refine va_callv (va_runV (As := [.int p_1, .int p_2]) (rest := []) ⟨hx, hb, hml, hown, hts⟩ (n_mark l G b_o b_ro b_se b_re b_pt b_ip b_rf b_im b_ke b_tp b_nl b_op b_ar b_pi b_pa b_ws b_hw b_ah b_be b_me b_tr b_ld b_wn H.size 0 u_sa u_fd u_td u_fr u_to u_so u_fa u_bd u_nc u_co u_le u_pd u_od u_la u_bk u_ce u_ho u_wy u_bt u_ps u_tg u_sn u_ic u_wd u_id p_1 p_2 u_wo u_va u_su u_st v_ro v_se v_re v_pt z9 ⟨by omega, by omega⟩ ⟨by omega, by omega⟩ ⟨by omega, by omega⟩ ⟨by omega, by omega⟩ ⟨by omega, by omega⟩ ⟨by omega, by omega⟩ ⟨by omega, by omega⟩ ⟨by omega, by omega⟩ ⟨by omega, by omega⟩ ⟨by omega, by omega⟩ ⟨by omega, by omega⟩ ⟨by omega, by omega⟩ ⟨by omega, by omega⟩ ⟨by omega, by omega⟩ ⟨by omega, by omega⟩ ⟨by omega, by omega⟩ ⟨by omega, by omega⟩ ⟨by omega, by omega⟩ (r_ro) (r_pt)) (cwV 2 hts gV_X12_416 rfl rfl rfl hv_X12_mark ⟨Nat.le_of_ble_eq_true rfl, Nat.le_of_ble_eq_true rfl⟩) (g5_preV hPc hK hDc hN hT hS hFc (ci := 12) (q0 := 0) rfl rfl) rfl rfl hl.1 rfl (lv_room (Nat.le_of_ble_eq_true rfl)) dX12_lit_42 ⟨Nat.le_of_ble_eq_true rfl, Nat.le_of_ble_eq_true rfl⟩) hS (fun q _ h => hFc q h) hFc (fun u t H1 locs ht hvm hw hB hz1 hk1 hS => ?_)
              obtain ⟨hP1, hD1⟩ := hB
              rw [ht] at hP1
              obtain ⟨z18, z19, z20, z21, z22, z23, z24, z25, z26, z27, z28, z29, z30, z31, z32, i_10, i_11, i_12, i_13, i_14, i_15, i_16, i_17, rfl⟩ := hw
              have i_10 : 0 ≤ z18.toInt ∧ z18.toInt ≤ 4840 := i_10
              have i_11 : 0 ≤ z19.toInt ∧ z19.toInt ≤ 1 := i_11
              have i_12 : 0 ≤ z22.toInt ∧ z22.toInt ≤ 63 := i_12
              have i_13 : 0 ≤ z23.toInt ∧ z23.toInt ≤ 23 := i_13
              have i_14 : 0 ≤ z24.toInt ∧ z24.toInt ≤ 3 := i_14
              have i_15 : 0 ≤ z25.toInt ∧ z25.toInt ≤ 1000000 := i_15
              have i_16 : 0 ≤ z26.toInt ∧ z26.toInt ≤ 200 := i_16
              have i_17 : PTI z31 := i_17
              obtain ⟨hP, hD⟩ := va_join (wr := []) (w1 := [(b_o, .inr (12, [.int 0, .int u_sa, .ref b_rf, .ref b_ro, .ref b_im, .ref b_ke, .int u_fd, .ref b_tp, .int u_td, .int u_fr, .int u_to, .int u_so, .long u_wo, .int u_fa, .int u_bd, .int u_nc, .ref b_nl, .int u_co, .ref b_op, .ref b_ar, .int u_le, .ref b_pi, .ref b_pa, .int u_pd, .int u_od, .ref b_ws, .ref b_hw, .int z18, .ref b_se, .ref b_re, .int z19, .long z20, .long z21, .int z22, .int z23, .int z24, .int z25, .int z26, .ref b_pt, .int z27, .int z28, .ref b_ip, .int u_ic, .ref b_ah, .ref b_be, .ref b_me, .int u_wd, .ref b_tr, .ref b_ld, .long u_st, .ref b_wn, .int u_id])), (b_ro, .inl (G.2 0, 5740, .inl v_ro)), (b_se, .inl (G.2 1, 13, .inr (.inl z29))), (b_re, .inl (G.2 1, 400, .inr (.inl z30))), (b_pt, .inl (G.2 0, 200, .inl z31)), (b_ip, .inl (G.2 2, 1536, .inl z32))]) hP hD [4, 0, 1, 2, 3, 5] [] rfl rfl (by decide) (by decide) hk1 hFc hP1 hD1
              generalize H1 = H at hP hS ⊢
              have hP : va_P G.1 vwCl [(b_o, .inr (12, [.int 0, .int u_sa, .ref b_rf, .ref b_ro, .ref b_im, .ref b_ke, .int u_fd, .ref b_tp, .int u_td, .int u_fr, .int u_to, .int u_so, .long u_wo, .int u_fa, .int u_bd, .int u_nc, .ref b_nl, .int u_co, .ref b_op, .ref b_ar, .int u_le, .ref b_pi, .ref b_pa, .int u_pd, .int u_od, .ref b_ws, .ref b_hw, .int z18, .ref b_se, .ref b_re, .int z19, .long z20, .long z21, .int z22, .int z23, .int z24, .int z25, .int z26, .ref b_pt, .int z27, .int z28, .ref b_ip, .int u_ic, .ref b_ah, .ref b_be, .ref b_me, .int u_wd, .ref b_tr, .ref b_ld, .long u_st, .ref b_wn, .int u_id])), (b_ro, .inl (G.2 0, 5740, .inl v_ro)), (b_se, .inl (G.2 1, 13, .inr (.inl z29))), (b_re, .inl (G.2 1, 400, .inr (.inl z30))), (b_pt, .inl (G.2 0, 200, .inl z31)), (b_ip, .inl (G.2 2, 1536, .inl z32))] H := hP
              have hD : va_D A [(b_o, .inr (12, [.int 0, .int u_sa, .ref b_rf, .ref b_ro, .ref b_im, .ref b_ke, .int u_fd, .ref b_tp, .int u_td, .int u_fr, .int u_to, .int u_so, .long u_wo, .int u_fa, .int u_bd, .int u_nc, .ref b_nl, .int u_co, .ref b_op, .ref b_ar, .int u_le, .ref b_pi, .ref b_pa, .int u_pd, .int u_od, .ref b_ws, .ref b_hw, .int z18, .ref b_se, .ref b_re, .int z19, .long z20, .long z21, .int z22, .int z23, .int z24, .int z25, .int z26, .ref b_pt, .int z27, .int z28, .ref b_ip, .int u_ic, .ref b_ah, .ref b_be, .ref b_me, .int u_wd, .ref b_tr, .ref b_ld, .long u_st, .ref b_wn, .int u_id])), (b_ro, .inl (G.2 0, 5740, .inl v_ro)), (b_se, .inl (G.2 1, 13, .inr (.inl z29))), (b_re, .inl (G.2 1, 400, .inr (.inl z30))), (b_pt, .inl (G.2 0, 200, .inl z31)), (b_ip, .inl (G.2 2, 1536, .inl z32))] := hD
              refine lv_iconst (v := 0) hx hb dX12_lit_45 (by decide) ?_
              refine lv_istore (lv' := [(4, .int 0), (0, .ref b_o), (1, .int p_1), (2, .int p_2), (3, .int p_3)]) hx hb dX12_lit_46 hl (by decide) rfl (fun ls hl => ?_)
              refine lv_iconst (v := 0) hx hb dX12_lit_48 (by decide) ?_
              refine lv_istore (lv' := [(5, .int 0), (4, .int 0), (0, .ref b_o), (1, .int p_1), (2, .int p_2), (3, .int p_3)]) hx hb dX12_lit_49 hl (by decide) rfl (fun ls hl => ?_)
              refine g5_loop (α := (Int32) × (Int32)) (fun (q : (Int32) × (Int32)) (ls : Array Slot) (H : Heap) (locs : List Loc) => match q with | (k51_5, k51_4) => lv_has ls 8 [(4, .int k51_4), (5, .int k51_5), (0, .ref b_o), (1, .int p_1), (2, .int p_2), (3, .int p_3)] ∧ va_P G.1 vwCl [(b_o, .inr (12, [.int 0, .int u_sa, .ref b_rf, .ref b_ro, .ref b_im, .ref b_ke, .int u_fd, .ref b_tp, .int u_td, .int u_fr, .int u_to, .int u_so, .long u_wo, .int u_fa, .int u_bd, .int u_nc, .ref b_nl, .int u_co, .ref b_op, .ref b_ar, .int u_le, .ref b_pi, .ref b_pa, .int u_pd, .int u_od, .ref b_ws, .ref b_hw, .int z18, .ref b_se, .ref b_re, .int z19, .long z20, .long z21, .int z22, .int z23, .int z24, .int z25, .int z26, .ref b_pt, .int z27, .int z28, .ref b_ip, .int u_ic, .ref b_ah, .ref b_be, .ref b_me, .int u_wd, .ref b_tr, .ref b_ld, .long u_st, .ref b_wn, .int u_id])), (b_ro, .inl (G.2 0, 5740, .inl v_ro)), (b_se, .inl (G.2 1, 13, .inr (.inl z29))), (b_re, .inl (G.2 1, 400, .inr (.inl z30))), (b_pt, .inl (G.2 0, 200, .inl z31)), (b_ip, .inl (G.2 2, 1536, .inl z32))] H ∧ va_D A [(b_o, .inr (12, [.int 0, .int u_sa, .ref b_rf, .ref b_ro, .ref b_im, .ref b_ke, .int u_fd, .ref b_tp, .int u_td, .int u_fr, .int u_to, .int u_so, .long u_wo, .int u_fa, .int u_bd, .int u_nc, .ref b_nl, .int u_co, .ref b_op, .ref b_ar, .int u_le, .ref b_pi, .ref b_pa, .int u_pd, .int u_od, .ref b_ws, .ref b_hw, .int z18, .ref b_se, .ref b_re, .int z19, .long z20, .long z21, .int z22, .int z23, .int z24, .int z25, .int z26, .ref b_pt, .int z27, .int z28, .ref b_ip, .int u_ic, .ref b_ah, .ref b_be, .ref b_me, .int u_wd, .ref b_tr, .ref b_ld, .long u_st, .ref b_wn, .int u_id])), (b_ro, .inl (G.2 0, 5740, .inl v_ro)), (b_se, .inl (G.2 1, 13, .inr (.inl z29))), (b_re, .inl (G.2 1, 400, .inr (.inl z30))), (b_pt, .inl (G.2 0, 200, .inl z31)), (b_ip, .inl (G.2 2, 1536, .inl z32))] ∧ va_S A s.heap H locs ∧ (0 ≤ k51_5.toInt ∧ k51_5.toInt ≤ 64)) (fun (q : (Int32) × (Int32)) => match q with | (k51_5, k51_4) => Int.toNat (64 - k51_5.toInt)) (0, 0) ⟨lv_sub hl [1, 0, 2, 3, 4, 5] rfl, hP, hD, hS, ⟨by decide, by decide⟩⟩ ?_
              rintro ⟨k51_5, k51_4⟩ ls H locs ⟨hl, hP, hD, hS, i_33⟩ ih_51_34
              have hl : lv_has ls 8 [(4, .int k51_4), (5, .int k51_5), (0, .ref b_o), (1, .int p_1), (2, .int p_2), (3, .int p_3)] := hl
              have i_33 : 0 ≤ k51_5.toInt ∧ k51_5.toInt ≤ 64 := i_33
              have hP : va_P G.1 vwCl [(b_o, .inr (12, [.int 0, .int u_sa, .ref b_rf, .ref b_ro, .ref b_im, .ref b_ke, .int u_fd, .ref b_tp, .int u_td, .int u_fr, .int u_to, .int u_so, .long u_wo, .int u_fa, .int u_bd, .int u_nc, .ref b_nl, .int u_co, .ref b_op, .ref b_ar, .int u_le, .ref b_pi, .ref b_pa, .int u_pd, .int u_od, .ref b_ws, .ref b_hw, .int z18, .ref b_se, .ref b_re, .int z19, .long z20, .long z21, .int z22, .int z23, .int z24, .int z25, .int z26, .ref b_pt, .int z27, .int z28, .ref b_ip, .int u_ic, .ref b_ah, .ref b_be, .ref b_me, .int u_wd, .ref b_tr, .ref b_ld, .long u_st, .ref b_wn, .int u_id])), (b_ro, .inl (G.2 0, 5740, .inl v_ro)), (b_se, .inl (G.2 1, 13, .inr (.inl z29))), (b_re, .inl (G.2 1, 400, .inr (.inl z30))), (b_pt, .inl (G.2 0, 200, .inl z31)), (b_ip, .inl (G.2 2, 1536, .inl z32))] H := hP
              have hD : va_D A [(b_o, .inr (12, [.int 0, .int u_sa, .ref b_rf, .ref b_ro, .ref b_im, .ref b_ke, .int u_fd, .ref b_tp, .int u_td, .int u_fr, .int u_to, .int u_so, .long u_wo, .int u_fa, .int u_bd, .int u_nc, .ref b_nl, .int u_co, .ref b_op, .ref b_ar, .int u_le, .ref b_pi, .ref b_pa, .int u_pd, .int u_od, .ref b_ws, .ref b_hw, .int z18, .ref b_se, .ref b_re, .int z19, .long z20, .long z21, .int z22, .int z23, .int z24, .int z25, .int z26, .ref b_pt, .int z27, .int z28, .ref b_ip, .int u_ic, .ref b_ah, .ref b_be, .ref b_me, .int u_wd, .ref b_tr, .ref b_ld, .long u_st, .ref b_wn, .int u_id])), (b_ro, .inl (G.2 0, 5740, .inl v_ro)), (b_se, .inl (G.2 1, 13, .inr (.inl z29))), (b_re, .inl (G.2 1, 400, .inr (.inl z30))), (b_pt, .inl (G.2 0, 200, .inl z31)), (b_ip, .inl (G.2 2, 1536, .inl z32))] := hD
              refine lv_iload hx hb dX12_lit_51 (lv_at hl 1 rfl) ?_
              refine lv_bipush (v := 64) hx hb dX12_lit_53 (by decide) ?_
              refine lv_icmp_ge (tgt := 137) hx hb dX12_lit_55 (by decide) (fun c_35 => ?_) (fun c_35 => ?_)
              ·
                have i_35 : k51_5.toInt ≥ 64 := by have z := g5_ge (a := k51_5.toInt) (b := 64) (by rfl) (by decide) c_35; omega
                refine lv_iload hx hb dX12_lit_137 (lv_at hl 0 rfl) ?_
                exact W.iret (v := k51_4) hx hb hr (fun t ht hW => ⟨⟨k51_4, [(b_o, .inr (12, [.int 0, .int u_sa, .ref b_rf, .ref b_ro, .ref b_im, .ref b_ke, .int u_fd, .ref b_tp, .int u_td, .int u_fr, .int u_to, .int u_so, .long u_wo, .int u_fa, .int u_bd, .int u_nc, .ref b_nl, .int u_co, .ref b_op, .ref b_ar, .int u_le, .ref b_pi, .ref b_pa, .int u_pd, .int u_od, .ref b_ws, .ref b_hw, .int z18, .ref b_se, .ref b_re, .int z19, .long z20, .long z21, .int z22, .int z23, .int z24, .int z25, .int z26, .ref b_pt, .int z27, .int z28, .ref b_ip, .int u_ic, .ref b_ah, .ref b_be, .ref b_me, .int u_wd, .ref b_tr, .ref b_ld, .long u_st, .ref b_wn, .int u_id])), (b_ro, .inl (G.2 0, 5740, .inl v_ro)), (b_se, .inl (G.2 1, 13, .inr (.inl z29))), (b_re, .inl (G.2 1, 400, .inr (.inl z30))), (b_pt, .inl (G.2 0, 200, .inl z31)), (b_ip, .inl (G.2 2, 1536, .inl z32))], rfl, ⟨k51_4, 0, z18, z19, z20, z21, z22, z23, z24, z25, z26, z27, z28, z29, z30, z31, z32, ⟨by omega, by omega⟩, ⟨by omega, by omega⟩, ⟨by omega, by omega⟩, ⟨by omega, by omega⟩, ⟨by omega, by omega⟩, ⟨by omega, by omega⟩, ⟨by omega, by omega⟩, i_17, rfl, rfl⟩, by rw [ht]; exact hP.sub [0, 1, 2, 3, 4, 5] rfl, hD.sub [0, 1, 2, 3, 4, 5] (by decide) rfl⟩, hS.F ht⟩) hS.2.2 dX12_lit_139
              ·
                have i_35 : k51_5.toInt < 64 := by have z := g5_geN (a := k51_5.toInt) (b := 64) (by rfl) (by decide) c_35; omega
                refine lv_iconst (v := 0) hx hb dX12_lit_58 (by decide) ?_
                refine lv_istore (lv' := [(6, .int 0), (4, .int k51_4), (5, .int k51_5), (0, .ref b_o), (1, .int p_1), (2, .int p_2), (3, .int p_3)]) hx hb dX12_lit_59 hl (by decide) rfl (fun ls hl => ?_)
                refine lv_iconst (v := 0) hx hb dX12_lit_61 (by decide) ?_
                refine lv_istore (lv' := [(7, .int 0), (6, .int 0), (4, .int k51_4), (5, .int k51_5), (0, .ref b_o), (1, .int p_1), (2, .int p_2), (3, .int p_3)]) hx hb dX12_lit_62 hl (by decide) rfl (fun ls hl => ?_)
                refine g5_loop (α := (Int32) × (Int32)) (fun (q : (Int32) × (Int32)) (ls : Array Slot) (H : Heap) (locs : List Loc) => match q with | (k64_7, k64_6) => lv_has ls 8 [(6, .int k64_6), (7, .int k64_7), (4, .int k51_4), (5, .int k51_5), (0, .ref b_o), (1, .int p_1), (2, .int p_2), (3, .int p_3)] ∧ va_P G.1 vwCl [(b_o, .inr (12, [.int 0, .int u_sa, .ref b_rf, .ref b_ro, .ref b_im, .ref b_ke, .int u_fd, .ref b_tp, .int u_td, .int u_fr, .int u_to, .int u_so, .long u_wo, .int u_fa, .int u_bd, .int u_nc, .ref b_nl, .int u_co, .ref b_op, .ref b_ar, .int u_le, .ref b_pi, .ref b_pa, .int u_pd, .int u_od, .ref b_ws, .ref b_hw, .int z18, .ref b_se, .ref b_re, .int z19, .long z20, .long z21, .int z22, .int z23, .int z24, .int z25, .int z26, .ref b_pt, .int z27, .int z28, .ref b_ip, .int u_ic, .ref b_ah, .ref b_be, .ref b_me, .int u_wd, .ref b_tr, .ref b_ld, .long u_st, .ref b_wn, .int u_id])), (b_ro, .inl (G.2 0, 5740, .inl v_ro)), (b_se, .inl (G.2 1, 13, .inr (.inl z29))), (b_re, .inl (G.2 1, 400, .inr (.inl z30))), (b_pt, .inl (G.2 0, 200, .inl z31)), (b_ip, .inl (G.2 2, 1536, .inl z32))] H ∧ va_D A [(b_o, .inr (12, [.int 0, .int u_sa, .ref b_rf, .ref b_ro, .ref b_im, .ref b_ke, .int u_fd, .ref b_tp, .int u_td, .int u_fr, .int u_to, .int u_so, .long u_wo, .int u_fa, .int u_bd, .int u_nc, .ref b_nl, .int u_co, .ref b_op, .ref b_ar, .int u_le, .ref b_pi, .ref b_pa, .int u_pd, .int u_od, .ref b_ws, .ref b_hw, .int z18, .ref b_se, .ref b_re, .int z19, .long z20, .long z21, .int z22, .int z23, .int z24, .int z25, .int z26, .ref b_pt, .int z27, .int z28, .ref b_ip, .int u_ic, .ref b_ah, .ref b_be, .ref b_me, .int u_wd, .ref b_tr, .ref b_ld, .long u_st, .ref b_wn, .int u_id])), (b_ro, .inl (G.2 0, 5740, .inl v_ro)), (b_se, .inl (G.2 1, 13, .inr (.inl z29))), (b_re, .inl (G.2 1, 400, .inr (.inl z30))), (b_pt, .inl (G.2 0, 200, .inl z31)), (b_ip, .inl (G.2 2, 1536, .inl z32))] ∧ va_S A s.heap H locs ∧ (0 ≤ k64_7.toInt ∧ k64_7.toInt ≤ 24) ∧ (0 ≤ k64_6.toInt ∧ k64_6.toInt ≤ 1)) (fun (q : (Int32) × (Int32)) => match q with | (k64_7, k64_6) => Int.toNat (24 - k64_7.toInt)) (0, 0) ⟨lv_sub hl [1, 0, 2, 3, 4, 5, 6, 7] rfl, hP, hD, hS, ⟨by decide, by decide⟩, ⟨by decide, by decide⟩⟩ ?_
                rintro ⟨k64_7, k64_6⟩ ls H locs ⟨hl, hP, hD, hS, i_36, i_37⟩ ih_64_38
                have hl : lv_has ls 8 [(6, .int k64_6), (7, .int k64_7), (4, .int k51_4), (5, .int k51_5), (0, .ref b_o), (1, .int p_1), (2, .int p_2), (3, .int p_3)] := hl
                have i_36 : 0 ≤ k64_7.toInt ∧ k64_7.toInt ≤ 24 := i_36
                have i_37 : 0 ≤ k64_6.toInt ∧ k64_6.toInt ≤ 1 := i_37
                have hP : va_P G.1 vwCl [(b_o, .inr (12, [.int 0, .int u_sa, .ref b_rf, .ref b_ro, .ref b_im, .ref b_ke, .int u_fd, .ref b_tp, .int u_td, .int u_fr, .int u_to, .int u_so, .long u_wo, .int u_fa, .int u_bd, .int u_nc, .ref b_nl, .int u_co, .ref b_op, .ref b_ar, .int u_le, .ref b_pi, .ref b_pa, .int u_pd, .int u_od, .ref b_ws, .ref b_hw, .int z18, .ref b_se, .ref b_re, .int z19, .long z20, .long z21, .int z22, .int z23, .int z24, .int z25, .int z26, .ref b_pt, .int z27, .int z28, .ref b_ip, .int u_ic, .ref b_ah, .ref b_be, .ref b_me, .int u_wd, .ref b_tr, .ref b_ld, .long u_st, .ref b_wn, .int u_id])), (b_ro, .inl (G.2 0, 5740, .inl v_ro)), (b_se, .inl (G.2 1, 13, .inr (.inl z29))), (b_re, .inl (G.2 1, 400, .inr (.inl z30))), (b_pt, .inl (G.2 0, 200, .inl z31)), (b_ip, .inl (G.2 2, 1536, .inl z32))] H := hP
                have hD : va_D A [(b_o, .inr (12, [.int 0, .int u_sa, .ref b_rf, .ref b_ro, .ref b_im, .ref b_ke, .int u_fd, .ref b_tp, .int u_td, .int u_fr, .int u_to, .int u_so, .long u_wo, .int u_fa, .int u_bd, .int u_nc, .ref b_nl, .int u_co, .ref b_op, .ref b_ar, .int u_le, .ref b_pi, .ref b_pa, .int u_pd, .int u_od, .ref b_ws, .ref b_hw, .int z18, .ref b_se, .ref b_re, .int z19, .long z20, .long z21, .int z22, .int z23, .int z24, .int z25, .int z26, .ref b_pt, .int z27, .int z28, .ref b_ip, .int u_ic, .ref b_ah, .ref b_be, .ref b_me, .int u_wd, .ref b_tr, .ref b_ld, .long u_st, .ref b_wn, .int u_id])), (b_ro, .inl (G.2 0, 5740, .inl v_ro)), (b_se, .inl (G.2 1, 13, .inr (.inl z29))), (b_re, .inl (G.2 1, 400, .inr (.inl z30))), (b_pt, .inl (G.2 0, 200, .inl z31)), (b_ip, .inl (G.2 2, 1536, .inl z32))] := hD
                refine lv_iload hx hb dX12_lit_64 (lv_at hl 1 rfl) ?_
                refine lv_bipush (v := 24) hx hb dX12_lit_66 (by decide) ?_
                refine lv_icmp_ge (tgt := 105) hx hb dX12_lit_68 (by decide) (fun c_39 => ?_) (fun c_39 => ?_)
                ·
                  have i_39 : k64_7.toInt ≥ 24 := by have z := g5_ge (a := k64_7.toInt) (b := 24) (by rfl) (by decide) c_39; omega
                  refine lv_iload hx hb dX12_lit_105 (lv_at hl 2 rfl) ?_
                  refine lv_iload hx hb dX12_lit_107 (lv_at hl 0 rfl) ?_
                  refine lv_if_eq (tgt := 127) hx hb dX12_lit_109 (by decide) (fun c_40 => ?_) (fun c_40 => ?_)
                  ·
                    have i_40 : k64_6.toInt = 0 := by have z := g5_eq (a := k64_6.toInt) (b := 0) (by rfl) (by decide) c_40; omega
                    refine lv_iconst (v := 0) hx hb dX12_lit_127 (by decide) ?_
                    refine lv_iadd hx hb dX12_lit_128 ?_
                    refine g5_ti (v := k51_4) (by simp) ?_
                    refine lv_istore (lv' := [(4, .int k51_4), (6, .int k64_6), (7, .int k64_7), (5, .int k51_5), (0, .ref b_o), (1, .int p_1), (2, .int p_2), (3, .int p_3)]) hx hb dX12_lit_129 hl (by decide) rfl (fun ls hl => ?_)
                    refine lv_iinc (v := (k51_5 + 1)) (lv' := [(5, .int (k51_5 + 1)), (4, .int k51_4), (6, .int k64_6), (7, .int k64_7), (0, .ref b_o), (1, .int p_1), (2, .int p_2), (3, .int p_3)]) hx hb dX12_lit_131 hl (k := 3) rfl rfl (by decide) rfl (fun ls hl => ?_)
                    have t_41 : (k51_5 + 1).toInt = k51_5.toInt + 1 := g5_iadd (a := k51_5.toInt) (b := 1) rfl (by decide) (by omega) (by omega)
                    refine lv_goto (tgt := 51) hx hb dX12_lit_134 (by decide) ?_
                    exact ih_51_34 ((k51_5 + 1), k51_4) ls H locs (show Int.toNat (64 - (k51_5 + 1).toInt) < Int.toNat (64 - k51_5.toInt) from g_up (show k51_5.toInt < (k51_5 + 1).toInt by omega) (show k51_5.toInt < 64 by omega)) ⟨lv_sub hl [1, 0, 4, 5, 6, 7] rfl, hP, hD, hS, ⟨by omega, by omega⟩⟩
                  ·
                    have n_40 : gNe (k64_6.toInt) (0) := by have z := g5_eqN (a := k64_6.toInt) (b := 0) (by rfl) (by decide) c_40; unfold gNe; omega
                    have i_40 : k64_6.toInt ≥ 1 := by have z := g5_eqN (a := k64_6.toInt) (b := 0) (by rfl) (by decide) c_40; omega
                    refine lv_iload_n hx hb dX12_lit_112 rfl (lv_at hl 7 rfl) ?_
                    refine lv_iconst (v := (-1)) hx hb dX12_lit_113 (by decide) ?_
                    refine lv_icmp_eq (tgt := 123) hx hb dX12_lit_114 (by decide) (fun c_42 => ?_) (fun c_42 => ?_)
                    ·
                      have i_42 : p_3.toInt = (-1) := by have z := g5_eq (a := p_3.toInt) (b := (-1)) (by rfl) (by decide) c_42; omega
                      refine lv_iconst (v := 1) hx hb dX12_lit_123 (by decide) ?_
                      refine lv_goto (tgt := 128) hx hb dX12_lit_124 (by decide) ?_
                      refine lv_iadd hx hb dX12_lit_128 ?_
                      refine lv_istore (lv' := [(4, .int (k51_4 + 1)), (6, .int k64_6), (7, .int k64_7), (5, .int k51_5), (0, .ref b_o), (1, .int p_1), (2, .int p_2), (3, .int p_3)]) hx hb dX12_lit_129 hl (by decide) rfl (fun ls hl => ?_)
                      refine lv_iinc (v := (k51_5 + 1)) (lv' := [(5, .int (k51_5 + 1)), (4, .int (k51_4 + 1)), (6, .int k64_6), (7, .int k64_7), (0, .ref b_o), (1, .int p_1), (2, .int p_2), (3, .int p_3)]) hx hb dX12_lit_131 hl (k := 3) rfl rfl (by decide) rfl (fun ls hl => ?_)
                      have t_43 : (k51_5 + 1).toInt = k51_5.toInt + 1 := g5_iadd (a := k51_5.toInt) (b := 1) rfl (by decide) (by omega) (by omega)
                      refine lv_goto (tgt := 51) hx hb dX12_lit_134 (by decide) ?_
                      exact ih_51_34 ((k51_5 + 1), (k51_4 + 1)) ls H locs (show Int.toNat (64 - (k51_5 + 1).toInt) < Int.toNat (64 - k51_5.toInt) from g_up (show k51_5.toInt < (k51_5 + 1).toInt by omega) (show k51_5.toInt < 64 by omega)) ⟨lv_sub hl [1, 0, 4, 5, 6, 7] rfl, hP, hD, hS, ⟨by omega, by omega⟩⟩
                    ·
                      have n_42 : gNe (p_3.toInt) ((-1)) := by have z := g5_eqN (a := p_3.toInt) (b := (-1)) (by rfl) (by decide) c_42; unfold gNe; omega
                      have i_42 : p_3.toInt ≥ 0 := by have z := g5_eqN (a := p_3.toInt) (b := (-1)) (by rfl) (by decide) c_42; omega
                      refine lv_iload_n hx hb dX12_lit_117 rfl (lv_at hl 7 rfl) ?_
                      refine lv_iload hx hb dX12_lit_118 (lv_at hl 3 rfl) ?_
                      refine lv_icmp_ne (tgt := 127) hx hb dX12_lit_120 (by decide) (fun c_44 => ?_) (fun c_44 => ?_)
                      ·
                        have n_44 : gNe (p_3.toInt) (k51_5.toInt) := by have z := g5_ne (a := p_3.toInt) (b := k51_5.toInt) (by rfl) (by rfl) c_44; unfold gNe; omega
                        refine lv_iconst (v := 0) hx hb dX12_lit_127 (by decide) ?_
                        refine lv_iadd hx hb dX12_lit_128 ?_
                        refine g5_ti (v := k51_4) (by simp) ?_
                        refine lv_istore (lv' := [(4, .int k51_4), (6, .int k64_6), (7, .int k64_7), (5, .int k51_5), (0, .ref b_o), (1, .int p_1), (2, .int p_2), (3, .int p_3)]) hx hb dX12_lit_129 hl (by decide) rfl (fun ls hl => ?_)
                        refine lv_iinc (v := (k51_5 + 1)) (lv' := [(5, .int (k51_5 + 1)), (4, .int k51_4), (6, .int k64_6), (7, .int k64_7), (0, .ref b_o), (1, .int p_1), (2, .int p_2), (3, .int p_3)]) hx hb dX12_lit_131 hl (k := 3) rfl rfl (by decide) rfl (fun ls hl => ?_)
                        have t_45 : (k51_5 + 1).toInt = k51_5.toInt + 1 := g5_iadd (a := k51_5.toInt) (b := 1) rfl (by decide) (by omega) (by omega)
                        refine lv_goto (tgt := 51) hx hb dX12_lit_134 (by decide) ?_
                        exact ih_51_34 ((k51_5 + 1), k51_4) ls H locs (show Int.toNat (64 - (k51_5 + 1).toInt) < Int.toNat (64 - k51_5.toInt) from g_up (show k51_5.toInt < (k51_5 + 1).toInt by omega) (show k51_5.toInt < 64 by omega)) ⟨lv_sub hl [1, 0, 4, 5, 6, 7] rfl, hP, hD, hS, ⟨by omega, by omega⟩⟩
                      ·
                        have i_44 : p_3.toInt = k51_5.toInt := by have z := g5_neN (a := p_3.toInt) (b := k51_5.toInt) (by rfl) (by rfl) c_44; omega
                        refine lv_iconst (v := 1) hx hb dX12_lit_123 (by decide) ?_
                        refine lv_goto (tgt := 128) hx hb dX12_lit_124 (by decide) ?_
                        refine lv_iadd hx hb dX12_lit_128 ?_
                        refine lv_istore (lv' := [(4, .int (k51_4 + 1)), (6, .int k64_6), (7, .int k64_7), (5, .int k51_5), (0, .ref b_o), (1, .int p_1), (2, .int p_2), (3, .int p_3)]) hx hb dX12_lit_129 hl (by decide) rfl (fun ls hl => ?_)
                        refine lv_iinc (v := (k51_5 + 1)) (lv' := [(5, .int (k51_5 + 1)), (4, .int (k51_4 + 1)), (6, .int k64_6), (7, .int k64_7), (0, .ref b_o), (1, .int p_1), (2, .int p_2), (3, .int p_3)]) hx hb dX12_lit_131 hl (k := 3) rfl rfl (by decide) rfl (fun ls hl => ?_)
                        have t_46 : (k51_5 + 1).toInt = k51_5.toInt + 1 := g5_iadd (a := k51_5.toInt) (b := 1) rfl (by decide) (by omega) (by omega)
                        refine lv_goto (tgt := 51) hx hb dX12_lit_134 (by decide) ?_
                        exact ih_51_34 ((k51_5 + 1), (k51_4 + 1)) ls H locs (show Int.toNat (64 - (k51_5 + 1).toInt) < Int.toNat (64 - k51_5.toInt) from g_up (show k51_5.toInt < (k51_5 + 1).toInt by omega) (show k51_5.toInt < 64 by omega)) ⟨lv_sub hl [1, 0, 4, 5, 6, 7] rfl, hP, hD, hS, ⟨by omega, by omega⟩⟩
                ·
                  have i_39 : k64_7.toInt < 24 := by have z := g5_geN (a := k64_7.toInt) (b := 24) (by rfl) (by decide) c_39; omega
                  refine lv_iload hx hb dX12_lit_71 (lv_at hl 0 rfl) ?_
                  refine lv_if_ne (tgt := 92) hx hb dX12_lit_73 (by decide) (fun c_47 => ?_) (fun c_47 => ?_)
                  ·
                    have n_47 : gNe (k64_6.toInt) (0) := by have z := g5_ne (a := k64_6.toInt) (b := 0) (by rfl) (by decide) c_47; unfold gNe; omega
                    have i_47 : k64_6.toInt ≥ 1 := by have z := g5_ne (a := k64_6.toInt) (b := 0) (by rfl) (by decide) c_47; omega
                    refine lv_iconst (v := 1) hx hb dX12_lit_92 (by decide) ?_
                    refine lv_goto (tgt := 97) hx hb dX12_lit_93 (by decide) ?_
                    refine lv_istore (lv' := [(6, .int 1), (7, .int k64_7), (4, .int k51_4), (5, .int k51_5), (0, .ref b_o), (1, .int p_1), (2, .int p_2), (3, .int p_3)]) hx hb dX12_lit_97 hl (by decide) rfl (fun ls hl => ?_)
                    refine lv_iinc (v := (k64_7 + 1)) (lv' := [(7, .int (k64_7 + 1)), (6, .int 1), (4, .int k51_4), (5, .int k51_5), (0, .ref b_o), (1, .int p_1), (2, .int p_2), (3, .int p_3)]) hx hb dX12_lit_99 hl (k := 1) rfl rfl (by decide) rfl (fun ls hl => ?_)
                    have t_48 : (k64_7 + 1).toInt = k64_7.toInt + 1 := g5_iadd (a := k64_7.toInt) (b := 1) rfl (by decide) (by omega) (by omega)
                    refine lv_goto (tgt := 64) hx hb dX12_lit_102 (by decide) ?_
                    exact ih_64_38 ((k64_7 + 1), 1) ls H locs (show Int.toNat (24 - (k64_7 + 1).toInt) < Int.toNat (24 - k64_7.toInt) from g_up (show k64_7.toInt < (k64_7 + 1).toInt by omega) (show k64_7.toInt < 24 by omega)) ⟨lv_sub hl [1, 0, 2, 3, 4, 5, 6, 7] rfl, hP, hD, hS, ⟨by omega, by omega⟩, ⟨by decide, by decide⟩⟩
                  ·
                    have i_47 : k64_6.toInt = 0 := by have z := g5_neN (a := k64_6.toInt) (b := 0) (by rfl) (by decide) c_47; omega
                    refine lv_aload_n hx hb dX12_lit_76 rfl (lv_at hl 4 rfl) ?_
                    refine va_get (D := G.1) (ci := 12) (v := .ref b_ip) (C := RX12) (T := TX12) (N := 52) hx hb hts inG_X12 hown hK hP 0 rfl rfl 41 (by decide) (hts _ fl_X12_85) (fun _ h9 => h9) rfl dX12_lit_77 ?_
                    refine lv_bipush (v := 64) hx hb dX12_lit_80 (by decide) ?_
                    refine lv_iload hx hb dX12_lit_82 (lv_at hl 1 rfl) ?_
                    refine lv_imul hx hb dX12_lit_84 ?_
                    have t_49 : (64 * k64_7).toInt = 64 * k64_7.toInt := g5_imul (a := 64) (b := k64_7.toInt) (by decide) (by rfl) (by omega) (by omega)
                    refine lv_iload hx hb dX12_lit_85 (lv_at hl 3 rfl) ?_
                    refine lv_iadd hx hb dX12_lit_87 ?_
                    have t_50 : ((64 * k64_7) + k51_5).toInt = (64 * k64_7).toInt + k51_5.toInt := g5_iadd (a := (64 * k64_7).toInt) (b := k51_5.toInt) (by rfl) (by rfl) (by omega) (by omega)
                    refine va_zald hx hb hK hP 5 2 rfl rfl (i := ((64 * k64_7) + k51_5)) (vp_in_iff.mpr ⟨by omega, by omega⟩) dX12_lit_88 ?_
                    refine lv_if_eq (tgt := 96) hx hb dX12_lit_89 (by decide) (fun c_51 => ?_) (fun c_51 => ?_)
                    ·
                      have i_51 : (z32 ((64 * k64_7) + k51_5).toNatClampNeg).toInt = 0 := by have z := g5_eq (a := (z32 ((64 * k64_7) + k51_5).toNatClampNeg).toInt) (b := 0) (by rfl) (by decide) c_51; omega
                      refine lv_iconst (v := 0) hx hb dX12_lit_96 (by decide) ?_
                      refine lv_istore (lv' := [(6, .int 0), (7, .int k64_7), (4, .int k51_4), (5, .int k51_5), (0, .ref b_o), (1, .int p_1), (2, .int p_2), (3, .int p_3)]) hx hb dX12_lit_97 hl (by decide) rfl (fun ls hl => ?_)
                      refine lv_iinc (v := (k64_7 + 1)) (lv' := [(7, .int (k64_7 + 1)), (6, .int 0), (4, .int k51_4), (5, .int k51_5), (0, .ref b_o), (1, .int p_1), (2, .int p_2), (3, .int p_3)]) hx hb dX12_lit_99 hl (k := 1) rfl rfl (by decide) rfl (fun ls hl => ?_)
                      have t_52 : (k64_7 + 1).toInt = k64_7.toInt + 1 := g5_iadd (a := k64_7.toInt) (b := 1) rfl (by decide) (by omega) (by omega)
                      refine lv_goto (tgt := 64) hx hb dX12_lit_102 (by decide) ?_
                      exact ih_64_38 ((k64_7 + 1), 0) ls H locs (show Int.toNat (24 - (k64_7 + 1).toInt) < Int.toNat (24 - k64_7.toInt) from g_up (show k64_7.toInt < (k64_7 + 1).toInt by omega) (show k64_7.toInt < 24 by omega)) ⟨lv_sub hl [1, 0, 2, 3, 4, 5, 6, 7] rfl, hP, hD, hS, ⟨by omega, by omega⟩, ⟨by decide, by decide⟩⟩
                    ·
                      have n_51 : gNe ((z32 ((64 * k64_7) + k51_5).toNatClampNeg).toInt) (0) := by have z := g5_eqN (a := (z32 ((64 * k64_7) + k51_5).toNatClampNeg).toInt) (b := 0) (by rfl) (by decide) c_51; unfold gNe; omega
                      refine lv_iconst (v := 1) hx hb dX12_lit_92 (by decide) ?_
                      refine lv_goto (tgt := 97) hx hb dX12_lit_93 (by decide) ?_
                      refine lv_istore (lv' := [(6, .int 1), (7, .int k64_7), (4, .int k51_4), (5, .int k51_5), (0, .ref b_o), (1, .int p_1), (2, .int p_2), (3, .int p_3)]) hx hb dX12_lit_97 hl (by decide) rfl (fun ls hl => ?_)
                      refine lv_iinc (v := (k64_7 + 1)) (lv' := [(7, .int (k64_7 + 1)), (6, .int 1), (4, .int k51_4), (5, .int k51_5), (0, .ref b_o), (1, .int p_1), (2, .int p_2), (3, .int p_3)]) hx hb dX12_lit_99 hl (k := 1) rfl rfl (by decide) rfl (fun ls hl => ?_)
                      have t_53 : (k64_7 + 1).toInt = k64_7.toInt + 1 := g5_iadd (a := k64_7.toInt) (b := 1) rfl (by decide) (by omega) (by omega)
                      refine lv_goto (tgt := 64) hx hb dX12_lit_102 (by decide) ?_
                      exact ih_64_38 ((k64_7 + 1), 1) ls H locs (show Int.toNat (24 - (k64_7 + 1).toInt) < Int.toNat (24 - k64_7.toInt) from g_up (show k64_7.toInt < (k64_7 + 1).toInt by omega) (show k64_7.toInt < 24 by omega)) ⟨lv_sub hl [1, 0, 2, 3, 4, 5, 6, 7] rfl, hP, hD, hS, ⟨by omega, by omega⟩, ⟨by decide, by decide⟩⟩
            ·
              exact absurd c_8 (by decide)
      ·
        have hP := g5_same hP hk1
        generalize H1 = H at hP hS ⊢
        refine lv_if_eq (tgt := 33) hx hb dX12_lit_16 (by decide) (fun c_54 => ?_) (fun c_54 => ?_)
        ·
          refine lv_iconst (v := (-1)) hx hb dX12_lit_33 (by decide) ?_
          exact W.iret (v := (-1)) hx hb hr (fun t ht hW => ⟨⟨(-1), [(b_o, .inr (12, [.int 0, .int u_sa, .ref b_rf, .ref b_ro, .ref b_im, .ref b_ke, .int u_fd, .ref b_tp, .int u_td, .int u_fr, .int u_to, .int u_so, .long u_wo, .int u_fa, .int u_bd, .int u_nc, .ref b_nl, .int u_co, .ref b_op, .ref b_ar, .int u_le, .ref b_pi, .ref b_pa, .int u_pd, .int u_od, .ref b_ws, .ref b_hw, .int u_la, .ref b_se, .ref b_re, .int u_bk, .long u_va, .long u_su, .int u_ce, .int u_ho, .int u_wy, .int u_bt, .int u_ps, .ref b_pt, .int u_tg, .int u_sn, .ref b_ip, .int u_ic, .ref b_ah, .ref b_be, .ref b_me, .int u_wd, .ref b_tr, .ref b_ld, .long u_st, .ref b_wn, .int u_id])), (b_ro, .inl (G.2 0, 5740, .inl v_ro)), (b_se, .inl (G.2 1, 13, .inr (.inl v_se))), (b_re, .inl (G.2 1, 400, .inr (.inl v_re))), (b_pt, .inl (G.2 0, 200, .inl v_pt)), (b_ip, .inl (G.2 2, 1536, .inl v_ip))], rfl, ⟨(-1), 0, u_la, u_bk, u_va, u_su, u_ce, u_ho, u_wy, u_bt, u_ps, u_tg, u_sn, v_se, v_re, v_pt, v_ip, ⟨by omega, by omega⟩, ⟨by omega, by omega⟩, ⟨by omega, by omega⟩, ⟨by omega, by omega⟩, ⟨by omega, by omega⟩, ⟨by omega, by omega⟩, ⟨by omega, by omega⟩, r_pt, rfl, rfl⟩, by rw [ht]; exact hP.sub [0, 1, 2, 3, 4, 5] rfl, hD.sub [0, 1, 2, 3, 4, 5] (by decide) rfl⟩, hS.F ht⟩) hS.2.2 dX12_lit_34
        ·
          exact absurd c_54 (by decide)
  ·
    have hP := g5_same hP hk1
    generalize H1 = H at hP hS ⊢
    refine lv_if_eq (tgt := 33) hx hb dX12_lit_9 (by decide) (fun c_55 => ?_) (fun c_55 => ?_)
    ·
      refine lv_iconst (v := (-1)) hx hb dX12_lit_33 (by decide) ?_
      exact W.iret (v := (-1)) hx hb hr (fun t ht hW => ⟨⟨(-1), [(b_o, .inr (12, [.int 0, .int u_sa, .ref b_rf, .ref b_ro, .ref b_im, .ref b_ke, .int u_fd, .ref b_tp, .int u_td, .int u_fr, .int u_to, .int u_so, .long u_wo, .int u_fa, .int u_bd, .int u_nc, .ref b_nl, .int u_co, .ref b_op, .ref b_ar, .int u_le, .ref b_pi, .ref b_pa, .int u_pd, .int u_od, .ref b_ws, .ref b_hw, .int u_la, .ref b_se, .ref b_re, .int u_bk, .long u_va, .long u_su, .int u_ce, .int u_ho, .int u_wy, .int u_bt, .int u_ps, .ref b_pt, .int u_tg, .int u_sn, .ref b_ip, .int u_ic, .ref b_ah, .ref b_be, .ref b_me, .int u_wd, .ref b_tr, .ref b_ld, .long u_st, .ref b_wn, .int u_id])), (b_ro, .inl (G.2 0, 5740, .inl v_ro)), (b_se, .inl (G.2 1, 13, .inr (.inl v_se))), (b_re, .inl (G.2 1, 400, .inr (.inl v_re))), (b_pt, .inl (G.2 0, 200, .inl v_pt)), (b_ip, .inl (G.2 2, 1536, .inl v_ip))], rfl, ⟨(-1), 0, u_la, u_bk, u_va, u_su, u_ce, u_ho, u_wy, u_bt, u_ps, u_tg, u_sn, v_se, v_re, v_pt, v_ip, ⟨by omega, by omega⟩, ⟨by omega, by omega⟩, ⟨by omega, by omega⟩, ⟨by omega, by omega⟩, ⟨by omega, by omega⟩, ⟨by omega, by omega⟩, ⟨by omega, by omega⟩, r_pt, rfl, rfl⟩, by rw [ht]; exact hP.sub [0, 1, 2, 3, 4, 5] rfl, hD.sub [0, 1, 2, 3, 4, 5] (by decide) rfl⟩, hS.F ht⟩) hS.2.2 dX12_lit_34
    ·
      exact absurd c_55 (by decide)
theorem dX12_markAll_0 : decode cX12_markAll 0 = .ok (.aload_n 0, 1) := by decide +kernel
theorem dX12_markAll_1 : decode cX12_markAll 1 = .ok (.invokevirtual 413, 3) := by decide +kernel
theorem dX12_markAll_4 : decode cX12_markAll 4 = .ok (.iconst 0, 1) := by decide +kernel
theorem dX12_markAll_5 : decode cX12_markAll 5 = .ok (.istore_n 1, 1) := by decide +kernel
theorem dX12_markAll_6 : decode cX12_markAll 6 = .ok (.iload_n 1, 1) := by decide +kernel
theorem dX12_markAll_7 : decode cX12_markAll 7 = .ok (.aload_n 0, 1) := by decide +kernel
theorem dX12_markAll_8 : decode cX12_markAll 8 = .ok (.getfield 13, 3) := by decide +kernel
theorem dX12_markAll_11 : decode cX12_markAll 11 = .ok (.iconst 1, 1) := by decide +kernel
theorem dX12_markAll_12 : decode cX12_markAll 12 = .ok (.iaload, 1) := by decide +kernel
theorem dX12_markAll_13 : decode cX12_markAll 13 = .ok (.if_icmp .ge 44, 3) := by decide +kernel
theorem dX12_markAll_16 : decode cX12_markAll 16 = .ok (.iconst 0, 1) := by decide +kernel
theorem dX12_markAll_17 : decode cX12_markAll 17 = .ok (.istore_n 2, 1) := by decide +kernel
theorem dX12_markAll_18 : decode cX12_markAll 18 = .ok (.iload_n 2, 1) := by decide +kernel
theorem dX12_markAll_19 : decode cX12_markAll 19 = .ok (.bipush 24, 2) := by decide +kernel
theorem dX12_markAll_21 : decode cX12_markAll 21 = .ok (.if_icmp .ge 30, 3) := by decide +kernel
theorem dX12_markAll_24 : decode cX12_markAll 24 = .ok (.aload_n 0, 1) := by decide +kernel
theorem dX12_markAll_25 : decode cX12_markAll 25 = .ok (.iload_n 1, 1) := by decide +kernel
theorem dX12_markAll_26 : decode cX12_markAll 26 = .ok (.iload_n 2, 1) := by decide +kernel
theorem dX12_markAll_27 : decode cX12_markAll 27 = .ok (.invokevirtual 187, 3) := by decide +kernel
theorem dX12_markAll_30 : decode cX12_markAll 30 = .ok (.iconst (-1), 1) := by decide +kernel
theorem dX12_markAll_31 : decode cX12_markAll 31 = .ok (.if_icmp .eq 14, 3) := by decide +kernel
theorem dX12_markAll_34 : decode cX12_markAll 34 = .ok (.aload_n 0, 1) := by decide +kernel
theorem dX12_markAll_35 : decode cX12_markAll 35 = .ok (.aload_n 0, 1) := by decide +kernel
theorem dX12_markAll_36 : decode cX12_markAll 36 = .ok (.iload_n 1, 1) := by decide +kernel
theorem dX12_markAll_37 : decode cX12_markAll 37 = .ok (.iload_n 2, 1) := by decide +kernel
theorem dX12_markAll_38 : decode cX12_markAll 38 = .ok (.invokevirtual 187, 3) := by decide +kernel
theorem dX12_markAll_41 : decode cX12_markAll 41 = .ok (.iload_n 2, 1) := by decide +kernel
theorem dX12_markAll_42 : decode cX12_markAll 42 = .ok (.invokevirtual 416, 3) := by decide +kernel
theorem dX12_markAll_45 : decode cX12_markAll 45 = .ok (.iinc 2 1, 3) := by decide +kernel
theorem dX12_markAll_48 : decode cX12_markAll 48 = .ok (.goto (-30), 3) := by decide +kernel
theorem dX12_markAll_51 : decode cX12_markAll 51 = .ok (.iinc 1 1, 3) := by decide +kernel
theorem dX12_markAll_54 : decode cX12_markAll 54 = .ok (.goto (-48), 3) := by decide +kernel
theorem dX12_markAll_57 : decode cX12_markAll 57 = .ok (.return_, 1) := by decide +kernel
