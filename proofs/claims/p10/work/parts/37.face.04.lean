set_option maxHeartbeats 4000000 in
set_option maxRecDepth 100000 in
theorem x_unseenN (l : Launch) (G : g5_G) (a_o a_k a_h a_g a_gn a_b a_bn a_p a_pn a_bb a_j a_as a_sk a_l a_pt a_wa a_bo a_im a_ke a_th a_ha a_wk a_r a_x a_wd a_rf a_s a_w : Nat) (sz : Nat) (e_tl : Int32) (e_fd : Int32) (e_fpl : Int32) (e_wn : Int32) (e_lr : Int32) (e_le : Int32) (e_st : Int32) (e_fo : Int32) (e_lc : Int32) (e_g : Int32) (e_b : Int32) (e_p : Int32) (e_ln : Int32) (e_se : Int32) (e_lh : Int32) (e_br : Int32) (e_we : Int32) (e_me : Int32) (e_ce : Int32) (e_wy : Int32) (e_ho : Int32) (e_ov : Int32) (p_c : Int32) (e_wa : Int64) (e_gb : Int64) (f_g : Nat → Int32) (f_b : Nat → Int32) (f_p : Nat → Int32) (f_bb : Nat → Int64) (f_as : Nat → Int32) (f_sk : Nat → Int64) (f_l : Nat → Option Nat) (f_pt : Nat → Int32) (f_bo : Nat → Int64) (h_e_tl : 0 ≤ e_tl.toInt ∧ e_tl.toInt ≤ 400) (h_e_wn : 0 ≤ e_wn.toInt ∧ e_wn.toInt ≤ 1) (h_e_g : 0 ≤ e_g.toInt ∧ e_g.toInt ≤ 6) (h_e_b : 0 ≤ e_b.toInt ∧ e_b.toInt ≤ 5) (h_e_p : 0 ≤ e_p.toInt ∧ e_p.toInt ≤ 8) (h_e_ov : 0 ≤ e_ov.toInt ∧ e_ov.toInt ≤ 1) (e_gk : gOK f_g e_g.toInt) (e_pk : gOK f_p e_p.toInt) (e_gi : inT e_gb f_g e_g.toInt) (e_f : e_fo.toInt < 0 ∨ e_lc.toInt ≤ e_fo.toInt) : Met l yX11_unseen (wsG yX11_unseen cX11_unseen 4 (some .int)) ({ frames := 15, cells := 0, slots := 0, locals := 580 }) (va_Pc [.ref a_o, .int p_c] (g5_P G [(a_o, .inr (11, [.ref a_h, .ref a_im, .ref a_ke, .ref a_k, .ref a_wa, .ref a_th, .ref a_ha, .ref a_wk, .ref a_r, .ref a_x, .int e_tl, .int e_fd, .int e_fpl, .ref a_wd, .int e_wn, .ref a_rf, .int e_lr])), (a_k, .inr (5, [.ref a_h, .ref a_j, .ref a_pt, .int e_ln, .int e_se, .int e_lh, .int e_br, .int e_we, .int e_me, .int e_ce, .int e_wy, .int e_ho, .int e_ov])), (a_h, .inr (1, [.long e_wa, .int e_le, .int e_st, .int e_fo, .int e_lc, .ref a_l, .ref a_g, .ref a_b, .ref a_s, .ref a_p, .ref a_w, .long e_gb, .ref a_bb])), (a_g, .inr (6, [.int 6, .int 5, .ref a_gn, .int e_g])), (a_gn, .inl (G.2 0, 30, .inl f_g)), (a_b, .inr (6, [.int 5, .int 24, .ref a_bn, .int e_b])), (a_bn, .inl (G.2 0, 120, .inl f_b)), (a_p, .inr (6, [.int 8, .int 5, .ref a_pn, .int e_p])), (a_pn, .inl (G.2 0, 40, .inl f_p)), (a_bb, .inl (G.2 1, 24, .inr (.inl f_bb))), (a_j, .inr (2, [.ref a_as, .ref a_sk])), (a_as, .inl (G.2 0, 8, .inl f_as)), (a_sk, .inl (G.2 1, 50, .inr (.inl f_sk))), (a_l, .inl (G.2 4, 6, .inr (.inr (.inr (.inr f_l))))), (a_pt, .inl (G.2 0, 200, .inl f_pt)), (a_wa, .inr (10, [.ref a_h, .ref a_k, .ref a_bo])), (a_bo, .inl (G.2 1, 24, .inr (.inl f_bo)))] sz)) (va_Qi (fun (r : Int32) (u : va_W) => (∃ (o_r : Int32) (o_ln : Int32) (o_se : Int32) (o_lh : Int32) (o_br : Int32) (o_we : Int32) (o_me : Int32) (o_ce : Int32) (o_wy : Int32) (o_ho : Int32) (o_ov : Int32) (o_pt : Nat → Int32) (o_as : Nat → Int32) (o_sk : Nat → Int64) (o_bo : Nat → Int64), (0 ≤ o_ov.toInt ∧ o_ov.toInt ≤ 1) ∧ (r = o_r) ∧ (u = [(a_o, .inr (11, [.ref a_h, .ref a_im, .ref a_ke, .ref a_k, .ref a_wa, .ref a_th, .ref a_ha, .ref a_wk, .ref a_r, .ref a_x, .int e_tl, .int e_fd, .int e_fpl, .ref a_wd, .int e_wn, .ref a_rf, .int e_lr])), (a_k, .inr (5, [.ref a_h, .ref a_j, .ref a_pt, .int o_ln, .int o_se, .int o_lh, .int o_br, .int o_we, .int o_me, .int o_ce, .int o_wy, .int o_ho, .int o_ov])), (a_h, .inr (1, [.long e_wa, .int e_le, .int e_st, .int e_fo, .int e_lc, .ref a_l, .ref a_g, .ref a_b, .ref a_s, .ref a_p, .ref a_w, .long e_gb, .ref a_bb])), (a_g, .inr (6, [.int 6, .int 5, .ref a_gn, .int e_g])), (a_gn, .inl (G.2 0, 30, .inl f_g)), (a_b, .inr (6, [.int 5, .int 24, .ref a_bn, .int e_b])), (a_bn, .inl (G.2 0, 120, .inl f_b)), (a_p, .inr (6, [.int 8, .int 5, .ref a_pn, .int e_p])), (a_pn, .inl (G.2 0, 40, .inl f_p)), (a_bb, .inl (G.2 1, 24, .inr (.inl f_bb))), (a_j, .inr (2, [.ref a_as, .ref a_sk])), (a_as, .inl (G.2 0, 8, .inl o_as)), (a_sk, .inl (G.2 1, 50, .inr (.inl o_sk))), (a_l, .inl (G.2 4, 6, .inr (.inr (.inr (.inr f_l))))), (a_pt, .inl (G.2 0, 200, .inl o_pt)), (a_wa, .inr (10, [.ref a_h, .ref a_k, .ref a_bo])), (a_bo, .inl (G.2 1, 24, .inr (.inl o_bo)))]))) (g5_B G (va_A [(a_o, .inr (11, [.ref a_h, .ref a_im, .ref a_ke, .ref a_k, .ref a_wa, .ref a_th, .ref a_ha, .ref a_wk, .ref a_r, .ref a_x, .int e_tl, .int e_fd, .int e_fpl, .ref a_wd, .int e_wn, .ref a_rf, .int e_lr])), (a_k, .inr (5, [.ref a_h, .ref a_j, .ref a_pt, .int e_ln, .int e_se, .int e_lh, .int e_br, .int e_we, .int e_me, .int e_ce, .int e_wy, .int e_ho, .int e_ov])), (a_h, .inr (1, [.long e_wa, .int e_le, .int e_st, .int e_fo, .int e_lc, .ref a_l, .ref a_g, .ref a_b, .ref a_s, .ref a_p, .ref a_w, .long e_gb, .ref a_bb])), (a_g, .inr (6, [.int 6, .int 5, .ref a_gn, .int e_g])), (a_gn, .inl (G.2 0, 30, .inl f_g)), (a_b, .inr (6, [.int 5, .int 24, .ref a_bn, .int e_b])), (a_bn, .inl (G.2 0, 120, .inl f_b)), (a_p, .inr (6, [.int 8, .int 5, .ref a_pn, .int e_p])), (a_pn, .inl (G.2 0, 40, .inl f_p)), (a_bb, .inl (G.2 1, 24, .inr (.inl f_bb))), (a_j, .inr (2, [.ref a_as, .ref a_sk])), (a_as, .inl (G.2 0, 8, .inl f_as)), (a_sk, .inl (G.2 1, 50, .inr (.inl f_sk))), (a_l, .inl (G.2 4, 6, .inr (.inr (.inr (.inr f_l))))), (a_pt, .inl (G.2 0, 200, .inl f_pt)), (a_wa, .inr (10, [.ref a_h, .ref a_k, .ref a_bo])), (a_bo, .inl (G.2 1, 24, .inr (.inl f_bo)))] sz)) (va_A [(a_o, .inr (11, [.ref a_h, .ref a_im, .ref a_ke, .ref a_k, .ref a_wa, .ref a_th, .ref a_ha, .ref a_wk, .ref a_r, .ref a_x, .int e_tl, .int e_fd, .int e_fpl, .ref a_wd, .int e_wn, .ref a_rf, .int e_lr])), (a_k, .inr (5, [.ref a_h, .ref a_j, .ref a_pt, .int e_ln, .int e_se, .int e_lh, .int e_br, .int e_we, .int e_me, .int e_ce, .int e_wy, .int e_ho, .int e_ov])), (a_h, .inr (1, [.long e_wa, .int e_le, .int e_st, .int e_fo, .int e_lc, .ref a_l, .ref a_g, .ref a_b, .ref a_s, .ref a_p, .ref a_w, .long e_gb, .ref a_bb])), (a_g, .inr (6, [.int 6, .int 5, .ref a_gn, .int e_g])), (a_gn, .inl (G.2 0, 30, .inl f_g)), (a_b, .inr (6, [.int 5, .int 24, .ref a_bn, .int e_b])), (a_bn, .inl (G.2 0, 120, .inl f_b)), (a_p, .inr (6, [.int 8, .int 5, .ref a_pn, .int e_p])), (a_pn, .inl (G.2 0, 40, .inl f_p)), (a_bb, .inl (G.2 1, 24, .inr (.inl f_bb))), (a_j, .inr (2, [.ref a_as, .ref a_sk])), (a_as, .inl (G.2 0, 8, .inl f_as)), (a_sk, .inl (G.2 1, 50, .inr (.inl f_sk))), (a_l, .inl (G.2 4, 6, .inr (.inr (.inr (.inr f_l))))), (a_pt, .inl (G.2 0, 200, .inl f_pt)), (a_wa, .inr (10, [.ref a_h, .ref a_k, .ref a_bo])), (a_bo, .inl (G.2 1, 24, .inr (.inl f_bo)))] sz)) 0 0 (va_A [(a_o, .inr (11, [.ref a_h, .ref a_im, .ref a_ke, .ref a_k, .ref a_wa, .ref a_th, .ref a_ha, .ref a_wk, .ref a_r, .ref a_x, .int e_tl, .int e_fd, .int e_fpl, .ref a_wd, .int e_wn, .ref a_rf, .int e_lr])), (a_k, .inr (5, [.ref a_h, .ref a_j, .ref a_pt, .int e_ln, .int e_se, .int e_lh, .int e_br, .int e_we, .int e_me, .int e_ce, .int e_wy, .int e_ho, .int e_ov])), (a_h, .inr (1, [.long e_wa, .int e_le, .int e_st, .int e_fo, .int e_lc, .ref a_l, .ref a_g, .ref a_b, .ref a_s, .ref a_p, .ref a_w, .long e_gb, .ref a_bb])), (a_g, .inr (6, [.int 6, .int 5, .ref a_gn, .int e_g])), (a_gn, .inl (G.2 0, 30, .inl f_g)), (a_b, .inr (6, [.int 5, .int 24, .ref a_bn, .int e_b])), (a_bn, .inl (G.2 0, 120, .inl f_b)), (a_p, .inr (6, [.int 8, .int 5, .ref a_pn, .int e_p])), (a_pn, .inl (G.2 0, 40, .inl f_p)), (a_bb, .inl (G.2 1, 24, .inr (.inl f_bb))), (a_j, .inr (2, [.ref a_as, .ref a_sk])), (a_as, .inl (G.2 0, 8, .inl f_as)), (a_sk, .inl (G.2 1, 50, .inr (.inl f_sk))), (a_l, .inl (G.2 4, 6, .inr (.inr (.inr (.inr f_l))))), (a_pt, .inl (G.2 0, 200, .inl f_pt)), (a_wa, .inr (10, [.ref a_h, .ref a_k, .ref a_bo])), (a_bo, .inl (G.2 1, 24, .inr (.inl f_bo)))] sz) := by
  refine Met.ofW (cc := cX11_unseen) (maxL := 4) (ret := (some .int)) (by decide) rfl ?_
  intro p e s m args below meth c s₁ B hml hv
  obtain ⟨rfl, hsz, hP, hK, hD0, hN, hT⟩ := hv
  have hx := B.exec
  have hb := B.bytes
  have hr := B.returns
  have hts : ∀ w ∈ tblG, w.before _ s = true := fun w h => atoms_spec (ws := (wsG yX11_unseen cX11_unseen 4 (some .int))) B.pre w (List.mem_cons_of_mem _ h)
  have hown : s.vm.findClass RX11 = some m.cls := findClass_of_methodNamed B.named
  have hlocks := B.notSynchronized
  subst hsz
  have hD := hD0.self (sz := s.heap.size)
  generalize hAe : va_A [(a_o, .inr (11, [.ref a_h, .ref a_im, .ref a_ke, .ref a_k, .ref a_wa, .ref a_th, .ref a_ha, .ref a_wk, .ref a_r, .ref a_x, .int e_tl, .int e_fd, .int e_fpl, .ref a_wd, .int e_wn, .ref a_rf, .int e_lr])), (a_k, .inr (5, [.ref a_h, .ref a_j, .ref a_pt, .int e_ln, .int e_se, .int e_lh, .int e_br, .int e_we, .int e_me, .int e_ce, .int e_wy, .int e_ho, .int e_ov])), (a_h, .inr (1, [.long e_wa, .int e_le, .int e_st, .int e_fo, .int e_lc, .ref a_l, .ref a_g, .ref a_b, .ref a_s, .ref a_p, .ref a_w, .long e_gb, .ref a_bb])), (a_g, .inr (6, [.int 6, .int 5, .ref a_gn, .int e_g])), (a_gn, .inl (G.2 0, 30, .inl f_g)), (a_b, .inr (6, [.int 5, .int 24, .ref a_bn, .int e_b])), (a_bn, .inl (G.2 0, 120, .inl f_b)), (a_p, .inr (6, [.int 8, .int 5, .ref a_pn, .int e_p])), (a_pn, .inl (G.2 0, 40, .inl f_p)), (a_bb, .inl (G.2 1, 24, .inr (.inl f_bb))), (a_j, .inr (2, [.ref a_as, .ref a_sk])), (a_as, .inl (G.2 0, 8, .inl f_as)), (a_sk, .inl (G.2 1, 50, .inr (.inl f_sk))), (a_l, .inl (G.2 4, 6, .inr (.inr (.inr (.inr f_l))))), (a_pt, .inl (G.2 0, 200, .inl f_pt)), (a_wa, .inr (10, [.ref a_h, .ref a_k, .ref a_bo])), (a_bo, .inl (G.2 1, 24, .inr (.inl f_bo)))] s.heap.size = A at hD hT ⊢
  have hA : ∀ q : Nat, s.heap.size ≤ q → A q := fun q h => by rw [← hAe]; exact Or.inr h
  have hS : va_S A s.heap s.heap [] := va_S.rf
  have hP : va_P G.1 vwCl [(a_o, .inr (11, [.ref a_h, .ref a_im, .ref a_ke, .ref a_k, .ref a_wa, .ref a_th, .ref a_ha, .ref a_wk, .ref a_r, .ref a_x, .int e_tl, .int e_fd, .int e_fpl, .ref a_wd, .int e_wn, .ref a_rf, .int e_lr])), (a_k, .inr (5, [.ref a_h, .ref a_j, .ref a_pt, .int e_ln, .int e_se, .int e_lh, .int e_br, .int e_we, .int e_me, .int e_ce, .int e_wy, .int e_ho, .int e_ov])), (a_h, .inr (1, [.long e_wa, .int e_le, .int e_st, .int e_fo, .int e_lc, .ref a_l, .ref a_g, .ref a_b, .ref a_s, .ref a_p, .ref a_w, .long e_gb, .ref a_bb])), (a_g, .inr (6, [.int 6, .int 5, .ref a_gn, .int e_g])), (a_gn, .inl (G.2 0, 30, .inl f_g)), (a_b, .inr (6, [.int 5, .int 24, .ref a_bn, .int e_b])), (a_bn, .inl (G.2 0, 120, .inl f_b)), (a_p, .inr (6, [.int 8, .int 5, .ref a_pn, .int e_p])), (a_pn, .inl (G.2 0, 40, .inl f_p)), (a_bb, .inl (G.2 1, 24, .inr (.inl f_bb))), (a_j, .inr (2, [.ref a_as, .ref a_sk])), (a_as, .inl (G.2 0, 8, .inl f_as)), (a_sk, .inl (G.2 1, 50, .inr (.inl f_sk))), (a_l, .inl (G.2 4, 6, .inr (.inr (.inr (.inr f_l))))), (a_pt, .inl (G.2 0, 200, .inl f_pt)), (a_wa, .inr (10, [.ref a_h, .ref a_k, .ref a_bo])), (a_bo, .inl (G.2 1, 24, .inr (.inl f_bo)))] s.heap := hP
  have hl := lv_entry ([.ref a_o, .int p_c]) (n := 4) (Nat.le_of_ble_eq_true rfl)
  rw [lg_entry_eq]
  generalize (lg_sl ([.ref a_o, .int p_c]) ++ List.replicate (4 - (lg_sl ([.ref a_o, .int p_c])).length) Slot.unset).toArray = ls at hl ⊢
  have hl : lv_has ls 4 [(0, .ref a_o), (1, .int p_c)] := hl
  refine lv_iload_n hx hb dX11_unseen_0 rfl (lv_at hl 1 rfl) ?_
  have hPc := hP.sub (ws' := []) [] rfl
  have hDc := hD.sub (ws' := []) [] (by decide) rfl
  have hFc := va_free (wc := []) hD hS hA [] rfl
  refine va_calli (va_runS (As := [.int p_c]) (rest := []) ⟨hx, hb, hml, hown, hts⟩ (x_isCell l G s.heap.size p_c) (va_cwS 1 hts gS_X11_97 rfl rfl rfl hs_X11_isCell ⟨Nat.le_of_ble_eq_true rfl, Nat.le_of_ble_eq_true rfl⟩) (g5_preS hPc hK hDc hN hT hS hFc) rfl rfl hl.1 rfl (lv_room (Nat.le_of_ble_eq_true rfl)) dX11_unseen_1 ⟨Nat.le_of_ble_eq_true rfl, Nat.le_of_ble_eq_true rfl⟩) hS (fun q _ h => hFc q h) hFc (fun r u t H1 locs ht hvm hw hB hz1 hk1 hS => ?_)
  obtain ⟨hP1, hD1⟩ := hB
  rw [ht] at hP1
  rcases hw with ⟨i_1, rfl, rfl⟩ | ⟨rfl, rfl⟩
  ·
    have i_1 : 0 ≤ p_c.toInt ∧ p_c.toInt ≤ 63 := i_1
    have hP := g5_same hP hk1
    generalize H1 = H at hP hS ⊢
    refine lv_if_ne (tgt := 9) hx hb dX11_unseen_4 (by decide) (fun c_2 => ?_) (fun c_2 => ?_)
    ·
      refine lv_aload_n hx hb dX11_unseen_9 rfl (lv_at hl 0 rfl) ?_
      refine va_get (D := G.1) (ci := 11) (v := .ref a_wa) (C := RX11) (T := TX11) (N := 17) hx hb hts inG_X11 hown hK hP 0 rfl rfl 4 (by decide) (hts _ fl_X11_38) (fun _ h9 => h9) rfl dX11_unseen_10 ?_
      have hPc := hP.sub (ws' := [(a_k, .inr (5, [.ref a_h, .ref a_j, .ref a_pt, .int e_ln, .int e_se, .int e_lh, .int e_br, .int e_we, .int e_me, .int e_ce, .int e_wy, .int e_ho, .int e_ov])), (a_h, .inr (1, [.long e_wa, .int e_le, .int e_st, .int e_fo, .int e_lc, .ref a_l, .ref a_g, .ref a_b, .ref a_s, .ref a_p, .ref a_w, .long e_gb, .ref a_bb])), (a_g, .inr (6, [.int 6, .int 5, .ref a_gn, .int e_g])), (a_gn, .inl (G.2 0, 30, .inl f_g)), (a_b, .inr (6, [.int 5, .int 24, .ref a_bn, .int e_b])), (a_bn, .inl (G.2 0, 120, .inl f_b)), (a_p, .inr (6, [.int 8, .int 5, .ref a_pn, .int e_p])), (a_pn, .inl (G.2 0, 40, .inl f_p)), (a_bb, .inl (G.2 1, 24, .inr (.inl f_bb))), (a_j, .inr (2, [.ref a_as, .ref a_sk])), (a_as, .inl (G.2 0, 8, .inl f_as)), (a_sk, .inl (G.2 1, 50, .inr (.inl f_sk))), (a_l, .inl (G.2 4, 6, .inr (.inr (.inr (.inr f_l))))), (a_pt, .inl (G.2 0, 200, .inl f_pt)), (a_wa, .inr (10, [.ref a_h, .ref a_k, .ref a_bo])), (a_bo, .inl (G.2 1, 24, .inr (.inl f_bo)))]) [1, 2, 3, 4, 5, 6, 7, 8, 9, 10, 11, 12, 13, 14, 15, 16] rfl
      have hDc := hD.sub (ws' := [(a_k, .inr (5, [.ref a_h, .ref a_j, .ref a_pt, .int e_ln, .int e_se, .int e_lh, .int e_br, .int e_we, .int e_me, .int e_ce, .int e_wy, .int e_ho, .int e_ov])), (a_h, .inr (1, [.long e_wa, .int e_le, .int e_st, .int e_fo, .int e_lc, .ref a_l, .ref a_g, .ref a_b, .ref a_s, .ref a_p, .ref a_w, .long e_gb, .ref a_bb])), (a_g, .inr (6, [.int 6, .int 5, .ref a_gn, .int e_g])), (a_gn, .inl (G.2 0, 30, .inl f_g)), (a_b, .inr (6, [.int 5, .int 24, .ref a_bn, .int e_b])), (a_bn, .inl (G.2 0, 120, .inl f_b)), (a_p, .inr (6, [.int 8, .int 5, .ref a_pn, .int e_p])), (a_pn, .inl (G.2 0, 40, .inl f_p)), (a_bb, .inl (G.2 1, 24, .inr (.inl f_bb))), (a_j, .inr (2, [.ref a_as, .ref a_sk])), (a_as, .inl (G.2 0, 8, .inl f_as)), (a_sk, .inl (G.2 1, 50, .inr (.inl f_sk))), (a_l, .inl (G.2 4, 6, .inr (.inr (.inr (.inr f_l))))), (a_pt, .inl (G.2 0, 200, .inl f_pt)), (a_wa, .inr (10, [.ref a_h, .ref a_k, .ref a_bo])), (a_bo, .inl (G.2 1, 24, .inr (.inl f_bo)))]) [1, 2, 3, 4, 5, 6, 7, 8, 9, 10, 11, 12, 13, 14, 15, 16] (by decide) rfl
      have hFc := va_free (wc := [(a_k, .inr (5, [.ref a_h, .ref a_j, .ref a_pt, .int e_ln, .int e_se, .int e_lh, .int e_br, .int e_we, .int e_me, .int e_ce, .int e_wy, .int e_ho, .int e_ov])), (a_h, .inr (1, [.long e_wa, .int e_le, .int e_st, .int e_fo, .int e_lc, .ref a_l, .ref a_g, .ref a_b, .ref a_s, .ref a_p, .ref a_w, .long e_gb, .ref a_bb])), (a_g, .inr (6, [.int 6, .int 5, .ref a_gn, .int e_g])), (a_gn, .inl (G.2 0, 30, .inl f_g)), (a_b, .inr (6, [.int 5, .int 24, .ref a_bn, .int e_b])), (a_bn, .inl (G.2 0, 120, .inl f_b)), (a_p, .inr (6, [.int 8, .int 5, .ref a_pn, .int e_p])), (a_pn, .inl (G.2 0, 40, .inl f_p)), (a_bb, .inl (G.2 1, 24, .inr (.inl f_bb))), (a_j, .inr (2, [.ref a_as, .ref a_sk])), (a_as, .inl (G.2 0, 8, .inl f_as)), (a_sk, .inl (G.2 1, 50, .inr (.inl f_sk))), (a_l, .inl (G.2 4, 6, .inr (.inr (.inr (.inr f_l))))), (a_pt, .inl (G.2 0, 200, .inl f_pt)), (a_wa, .inr (10, [.ref a_h, .ref a_k, .ref a_bo])), (a_bo, .inl (G.2 1, 24, .inr (.inl f_bo)))]) hD hS hA [1, 2, 3, 4, 5, 6, 7, 8, 9, 10, 11, 12, 13, 14, 15, 16] rfl
      refine va_callv (va_runV (As := []) (rest := []) ⟨hx, hb, hml, hown, hts⟩ (w_lookAroundN l G a_k a_h a_g a_gn a_b a_bn a_p a_pn a_bb a_j a_as a_sk a_l a_pt a_wa a_bo a_s a_w H.size e_le e_st e_fo e_lc e_g e_b e_p e_ln e_se e_lh e_br e_we e_me e_ce e_wy e_ho e_ov e_wa e_gb f_g f_b f_p f_bb f_as f_sk f_l f_pt f_bo ⟨by omega, by omega⟩ ⟨by omega, by omega⟩ ⟨by omega, by omega⟩ ⟨by omega, by omega⟩ (e_gk) (e_pk) (e_gi) (e_f)) (cwV 0 hts gV_X11_254 rfl rfl rfl hv_X10_lookAround ⟨Nat.le_of_ble_eq_true rfl, Nat.le_of_ble_eq_true rfl⟩) (g5_preV hPc hK hDc hN hT hS hFc (ci := 10) (q0 := 14) rfl rfl) rfl rfl hl.1 rfl (lv_room (Nat.le_of_ble_eq_true rfl)) dX11_unseen_13 ⟨Nat.le_of_ble_eq_true rfl, Nat.le_of_ble_eq_true rfl⟩) hS (fun q _ h => hFc q h) hFc (fun u t H1 locs ht hvm hw hB hz1 hk1 hS => ?_)
      obtain ⟨hP1, hD1⟩ := hB
      rw [ht] at hP1
      obtain ⟨z4, z5, z6, z7, z8, z9, z10, z11, z12, z13, z14, z15, z16, z17, i_3, rfl⟩ := hw
      have i_3 : 0 ≤ z13.toInt ∧ z13.toInt ≤ 1 := i_3
      obtain ⟨hP, hD⟩ := va_join (wr := [(a_o, .inr (11, [.ref a_h, .ref a_im, .ref a_ke, .ref a_k, .ref a_wa, .ref a_th, .ref a_ha, .ref a_wk, .ref a_r, .ref a_x, .int e_tl, .int e_fd, .int e_fpl, .ref a_wd, .int e_wn, .ref a_rf, .int e_lr]))]) (w1 := [(a_k, .inr (5, [.ref a_h, .ref a_j, .ref a_pt, .int z4, .int z5, .int z6, .int z7, .int z8, .int z9, .int z10, .int z11, .int z12, .int z13])), (a_h, .inr (1, [.long e_wa, .int e_le, .int e_st, .int e_fo, .int e_lc, .ref a_l, .ref a_g, .ref a_b, .ref a_s, .ref a_p, .ref a_w, .long e_gb, .ref a_bb])), (a_g, .inr (6, [.int 6, .int 5, .ref a_gn, .int e_g])), (a_gn, .inl (G.2 0, 30, .inl f_g)), (a_b, .inr (6, [.int 5, .int 24, .ref a_bn, .int e_b])), (a_bn, .inl (G.2 0, 120, .inl f_b)), (a_p, .inr (6, [.int 8, .int 5, .ref a_pn, .int e_p])), (a_pn, .inl (G.2 0, 40, .inl f_p)), (a_bb, .inl (G.2 1, 24, .inr (.inl f_bb))), (a_j, .inr (2, [.ref a_as, .ref a_sk])), (a_as, .inl (G.2 0, 8, .inl z15)), (a_sk, .inl (G.2 1, 50, .inr (.inl z16))), (a_l, .inl (G.2 4, 6, .inr (.inr (.inr (.inr f_l))))), (a_pt, .inl (G.2 0, 200, .inl z14)), (a_wa, .inr (10, [.ref a_h, .ref a_k, .ref a_bo])), (a_bo, .inl (G.2 1, 24, .inr (.inl z17)))]) hP hD [1, 2, 3, 4, 5, 6, 7, 8, 9, 10, 11, 12, 13, 14, 15, 16] [0] rfl rfl (by decide) (by decide) hk1 hFc hP1 hD1
      generalize H1 = H at hP hS ⊢
      have hP : va_P G.1 vwCl [(a_o, .inr (11, [.ref a_h, .ref a_im, .ref a_ke, .ref a_k, .ref a_wa, .ref a_th, .ref a_ha, .ref a_wk, .ref a_r, .ref a_x, .int e_tl, .int e_fd, .int e_fpl, .ref a_wd, .int e_wn, .ref a_rf, .int e_lr])), (a_k, .inr (5, [.ref a_h, .ref a_j, .ref a_pt, .int z4, .int z5, .int z6, .int z7, .int z8, .int z9, .int z10, .int z11, .int z12, .int z13])), (a_h, .inr (1, [.long e_wa, .int e_le, .int e_st, .int e_fo, .int e_lc, .ref a_l, .ref a_g, .ref a_b, .ref a_s, .ref a_p, .ref a_w, .long e_gb, .ref a_bb])), (a_g, .inr (6, [.int 6, .int 5, .ref a_gn, .int e_g])), (a_gn, .inl (G.2 0, 30, .inl f_g)), (a_b, .inr (6, [.int 5, .int 24, .ref a_bn, .int e_b])), (a_bn, .inl (G.2 0, 120, .inl f_b)), (a_p, .inr (6, [.int 8, .int 5, .ref a_pn, .int e_p])), (a_pn, .inl (G.2 0, 40, .inl f_p)), (a_bb, .inl (G.2 1, 24, .inr (.inl f_bb))), (a_j, .inr (2, [.ref a_as, .ref a_sk])), (a_as, .inl (G.2 0, 8, .inl z15)), (a_sk, .inl (G.2 1, 50, .inr (.inl z16))), (a_l, .inl (G.2 4, 6, .inr (.inr (.inr (.inr f_l))))), (a_pt, .inl (G.2 0, 200, .inl z14)), (a_wa, .inr (10, [.ref a_h, .ref a_k, .ref a_bo])), (a_bo, .inl (G.2 1, 24, .inr (.inl z17)))] H := hP
      have hD : va_D A [(a_o, .inr (11, [.ref a_h, .ref a_im, .ref a_ke, .ref a_k, .ref a_wa, .ref a_th, .ref a_ha, .ref a_wk, .ref a_r, .ref a_x, .int e_tl, .int e_fd, .int e_fpl, .ref a_wd, .int e_wn, .ref a_rf, .int e_lr])), (a_k, .inr (5, [.ref a_h, .ref a_j, .ref a_pt, .int z4, .int z5, .int z6, .int z7, .int z8, .int z9, .int z10, .int z11, .int z12, .int z13])), (a_h, .inr (1, [.long e_wa, .int e_le, .int e_st, .int e_fo, .int e_lc, .ref a_l, .ref a_g, .ref a_b, .ref a_s, .ref a_p, .ref a_w, .long e_gb, .ref a_bb])), (a_g, .inr (6, [.int 6, .int 5, .ref a_gn, .int e_g])), (a_gn, .inl (G.2 0, 30, .inl f_g)), (a_b, .inr (6, [.int 5, .int 24, .ref a_bn, .int e_b])), (a_bn, .inl (G.2 0, 120, .inl f_b)), (a_p, .inr (6, [.int 8, .int 5, .ref a_pn, .int e_p])), (a_pn, .inl (G.2 0, 40, .inl f_p)), (a_bb, .inl (G.2 1, 24, .inr (.inl f_bb))), (a_j, .inr (2, [.ref a_as, .ref a_sk])), (a_as, .inl (G.2 0, 8, .inl z15)), (a_sk, .inl (G.2 1, 50, .inr (.inl z16))), (a_l, .inl (G.2 4, 6, .inr (.inr (.inr (.inr f_l))))), (a_pt, .inl (G.2 0, 200, .inl z14)), (a_wa, .inr (10, [.ref a_h, .ref a_k, .ref a_bo])), (a_bo, .inl (G.2 1, 24, .inr (.inl z17)))] := hD
      refine lv_iconst (v := 0) hx hb dX11_unseen_16 (by decide) ?_
      refine lv_istore_n (lv' := [(2, .int 0), (0, .ref a_o), (1, .int p_c)]) hx hb dX11_unseen_17 rfl hl (by decide) rfl (fun ls hl => ?_)
      refine lv_iconst (v := 0) hx hb dX11_unseen_18 (by decide) ?_
      refine lv_istore_n (lv' := [(3, .int 0), (2, .int 0), (0, .ref a_o), (1, .int p_c)]) hx hb dX11_unseen_19 rfl hl (by decide) rfl (fun ls hl => ?_)
      refine g5_loop (α := (Int32) × (Int32)) (fun (q : (Int32) × (Int32)) (ls : Array Slot) (H : Heap) (locs : List Loc) => match q with | (k_i, k_n) => lv_has ls 4 [(2, .int k_n), (3, .int k_i), (0, .ref a_o), (1, .int p_c)] ∧ va_P G.1 vwCl [(a_o, .inr (11, [.ref a_h, .ref a_im, .ref a_ke, .ref a_k, .ref a_wa, .ref a_th, .ref a_ha, .ref a_wk, .ref a_r, .ref a_x, .int e_tl, .int e_fd, .int e_fpl, .ref a_wd, .int e_wn, .ref a_rf, .int e_lr])), (a_k, .inr (5, [.ref a_h, .ref a_j, .ref a_pt, .int z4, .int z5, .int z6, .int z7, .int z8, .int z9, .int z10, .int z11, .int z12, .int z13])), (a_h, .inr (1, [.long e_wa, .int e_le, .int e_st, .int e_fo, .int e_lc, .ref a_l, .ref a_g, .ref a_b, .ref a_s, .ref a_p, .ref a_w, .long e_gb, .ref a_bb])), (a_g, .inr (6, [.int 6, .int 5, .ref a_gn, .int e_g])), (a_gn, .inl (G.2 0, 30, .inl f_g)), (a_b, .inr (6, [.int 5, .int 24, .ref a_bn, .int e_b])), (a_bn, .inl (G.2 0, 120, .inl f_b)), (a_p, .inr (6, [.int 8, .int 5, .ref a_pn, .int e_p])), (a_pn, .inl (G.2 0, 40, .inl f_p)), (a_bb, .inl (G.2 1, 24, .inr (.inl f_bb))), (a_j, .inr (2, [.ref a_as, .ref a_sk])), (a_as, .inl (G.2 0, 8, .inl z15)), (a_sk, .inl (G.2 1, 50, .inr (.inl z16))), (a_l, .inl (G.2 4, 6, .inr (.inr (.inr (.inr f_l))))), (a_pt, .inl (G.2 0, 200, .inl z14)), (a_wa, .inr (10, [.ref a_h, .ref a_k, .ref a_bo])), (a_bo, .inl (G.2 1, 24, .inr (.inl z17)))] H ∧ va_D A [(a_o, .inr (11, [.ref a_h, .ref a_im, .ref a_ke, .ref a_k, .ref a_wa, .ref a_th, .ref a_ha, .ref a_wk, .ref a_r, .ref a_x, .int e_tl, .int e_fd, .int e_fpl, .ref a_wd, .int e_wn, .ref a_rf, .int e_lr])), (a_k, .inr (5, [.ref a_h, .ref a_j, .ref a_pt, .int z4, .int z5, .int z6, .int z7, .int z8, .int z9, .int z10, .int z11, .int z12, .int z13])), (a_h, .inr (1, [.long e_wa, .int e_le, .int e_st, .int e_fo, .int e_lc, .ref a_l, .ref a_g, .ref a_b, .ref a_s, .ref a_p, .ref a_w, .long e_gb, .ref a_bb])), (a_g, .inr (6, [.int 6, .int 5, .ref a_gn, .int e_g])), (a_gn, .inl (G.2 0, 30, .inl f_g)), (a_b, .inr (6, [.int 5, .int 24, .ref a_bn, .int e_b])), (a_bn, .inl (G.2 0, 120, .inl f_b)), (a_p, .inr (6, [.int 8, .int 5, .ref a_pn, .int e_p])), (a_pn, .inl (G.2 0, 40, .inl f_p)), (a_bb, .inl (G.2 1, 24, .inr (.inl f_bb))), (a_j, .inr (2, [.ref a_as, .ref a_sk])), (a_as, .inl (G.2 0, 8, .inl z15)), (a_sk, .inl (G.2 1, 50, .inr (.inl z16))), (a_l, .inl (G.2 4, 6, .inr (.inr (.inr (.inr f_l))))), (a_pt, .inl (G.2 0, 200, .inl z14)), (a_wa, .inr (10, [.ref a_h, .ref a_k, .ref a_bo])), (a_bo, .inl (G.2 1, 24, .inr (.inl z17)))] ∧ va_S A s.heap H locs ∧ (0 ≤ k_i.toInt ∧ k_i.toInt ≤ 24)) (fun (q : (Int32) × (Int32)) => match q with | (k_i, k_n) => Int.toNat (24 - k_i.toInt)) (0, 0) ⟨lv_sub hl [1, 0, 2, 3] rfl, hP, hD, hS, ⟨by decide, by decide⟩⟩ ?_
      rintro ⟨k_i, k_n⟩ ls H locs ⟨hl, hP, hD, hS, i_18⟩ ih_20_19
      have hl : lv_has ls 4 [(2, .int k_n), (3, .int k_i), (0, .ref a_o), (1, .int p_c)] := hl
      have i_18 : 0 ≤ k_i.toInt ∧ k_i.toInt ≤ 24 := i_18
      have hP : va_P G.1 vwCl [(a_o, .inr (11, [.ref a_h, .ref a_im, .ref a_ke, .ref a_k, .ref a_wa, .ref a_th, .ref a_ha, .ref a_wk, .ref a_r, .ref a_x, .int e_tl, .int e_fd, .int e_fpl, .ref a_wd, .int e_wn, .ref a_rf, .int e_lr])), (a_k, .inr (5, [.ref a_h, .ref a_j, .ref a_pt, .int z4, .int z5, .int z6, .int z7, .int z8, .int z9, .int z10, .int z11, .int z12, .int z13])), (a_h, .inr (1, [.long e_wa, .int e_le, .int e_st, .int e_fo, .int e_lc, .ref a_l, .ref a_g, .ref a_b, .ref a_s, .ref a_p, .ref a_w, .long e_gb, .ref a_bb])), (a_g, .inr (6, [.int 6, .int 5, .ref a_gn, .int e_g])), (a_gn, .inl (G.2 0, 30, .inl f_g)), (a_b, .inr (6, [.int 5, .int 24, .ref a_bn, .int e_b])), (a_bn, .inl (G.2 0, 120, .inl f_b)), (a_p, .inr (6, [.int 8, .int 5, .ref a_pn, .int e_p])), (a_pn, .inl (G.2 0, 40, .inl f_p)), (a_bb, .inl (G.2 1, 24, .inr (.inl f_bb))), (a_j, .inr (2, [.ref a_as, .ref a_sk])), (a_as, .inl (G.2 0, 8, .inl z15)), (a_sk, .inl (G.2 1, 50, .inr (.inl z16))), (a_l, .inl (G.2 4, 6, .inr (.inr (.inr (.inr f_l))))), (a_pt, .inl (G.2 0, 200, .inl z14)), (a_wa, .inr (10, [.ref a_h, .ref a_k, .ref a_bo])), (a_bo, .inl (G.2 1, 24, .inr (.inl z17)))] H := hP
      have hD : va_D A [(a_o, .inr (11, [.ref a_h, .ref a_im, .ref a_ke, .ref a_k, .ref a_wa, .ref a_th, .ref a_ha, .ref a_wk, .ref a_r, .ref a_x, .int e_tl, .int e_fd, .int e_fpl, .ref a_wd, .int e_wn, .ref a_rf, .int e_lr])), (a_k, .inr (5, [.ref a_h, .ref a_j, .ref a_pt, .int z4, .int z5, .int z6, .int z7, .int z8, .int z9, .int z10, .int z11, .int z12, .int z13])), (a_h, .inr (1, [.long e_wa, .int e_le, .int e_st, .int e_fo, .int e_lc, .ref a_l, .ref a_g, .ref a_b, .ref a_s, .ref a_p, .ref a_w, .long e_gb, .ref a_bb])), (a_g, .inr (6, [.int 6, .int 5, .ref a_gn, .int e_g])), (a_gn, .inl (G.2 0, 30, .inl f_g)), (a_b, .inr (6, [.int 5, .int 24, .ref a_bn, .int e_b])), (a_bn, .inl (G.2 0, 120, .inl f_b)), (a_p, .inr (6, [.int 8, .int 5, .ref a_pn, .int e_p])), (a_pn, .inl (G.2 0, 40, .inl f_p)), (a_bb, .inl (G.2 1, 24, .inr (.inl f_bb))), (a_j, .inr (2, [.ref a_as, .ref a_sk])), (a_as, .inl (G.2 0, 8, .inl z15)), (a_sk, .inl (G.2 1, 50, .inr (.inl z16))), (a_l, .inl (G.2 4, 6, .inr (.inr (.inr (.inr f_l))))), (a_pt, .inl (G.2 0, 200, .inl z14)), (a_wa, .inr (10, [.ref a_h, .ref a_k, .ref a_bo])), (a_bo, .inl (G.2 1, 24, .inr (.inl z17)))] := hD
      refine lv_iload_n hx hb dX11_unseen_20 rfl (lv_at hl 1 rfl) ?_
      refine lv_bipush (v := 24) hx hb dX11_unseen_21 (by decide) ?_
      refine lv_icmp_ge (tgt := 51) hx hb dX11_unseen_23 (by decide) (fun c_20 => ?_) (fun c_20 => ?_)
      ·
        have i_20 : k_i.toInt ≥ 24 := by have z := g5_ge (a := k_i.toInt) (b := 24) (by rfl) (by decide) c_20; omega
        refine lv_iload_n hx hb dX11_unseen_51 rfl (lv_at hl 0 rfl) ?_
        exact W.iret (v := k_n) hx hb hr (fun t ht hW => ⟨⟨k_n, [(a_o, .inr (11, [.ref a_h, .ref a_im, .ref a_ke, .ref a_k, .ref a_wa, .ref a_th, .ref a_ha, .ref a_wk, .ref a_r, .ref a_x, .int e_tl, .int e_fd, .int e_fpl, .ref a_wd, .int e_wn, .ref a_rf, .int e_lr])), (a_k, .inr (5, [.ref a_h, .ref a_j, .ref a_pt, .int z4, .int z5, .int z6, .int z7, .int z8, .int z9, .int z10, .int z11, .int z12, .int z13])), (a_h, .inr (1, [.long e_wa, .int e_le, .int e_st, .int e_fo, .int e_lc, .ref a_l, .ref a_g, .ref a_b, .ref a_s, .ref a_p, .ref a_w, .long e_gb, .ref a_bb])), (a_g, .inr (6, [.int 6, .int 5, .ref a_gn, .int e_g])), (a_gn, .inl (G.2 0, 30, .inl f_g)), (a_b, .inr (6, [.int 5, .int 24, .ref a_bn, .int e_b])), (a_bn, .inl (G.2 0, 120, .inl f_b)), (a_p, .inr (6, [.int 8, .int 5, .ref a_pn, .int e_p])), (a_pn, .inl (G.2 0, 40, .inl f_p)), (a_bb, .inl (G.2 1, 24, .inr (.inl f_bb))), (a_j, .inr (2, [.ref a_as, .ref a_sk])), (a_as, .inl (G.2 0, 8, .inl z15)), (a_sk, .inl (G.2 1, 50, .inr (.inl z16))), (a_l, .inl (G.2 4, 6, .inr (.inr (.inr (.inr f_l))))), (a_pt, .inl (G.2 0, 200, .inl z14)), (a_wa, .inr (10, [.ref a_h, .ref a_k, .ref a_bo])), (a_bo, .inl (G.2 1, 24, .inr (.inl z17)))], rfl, ⟨k_n, z4, z5, z6, z7, z8, z9, z10, z11, z12, z13, z14, z15, z16, z17, ⟨by omega, by omega⟩, rfl, rfl⟩, by rw [ht]; exact hP.sub [0, 1, 2, 3, 4, 5, 6, 7, 8, 9, 10, 11, 12, 13, 14, 15, 16] rfl, hD.sub [0, 1, 2, 3, 4, 5, 6, 7, 8, 9, 10, 11, 12, 13, 14, 15, 16] (by decide) rfl⟩, hS.F ht⟩) hS.2.2 dX11_unseen_52
      ·
        have i_20 : k_i.toInt < 24 := by have z := g5_geN (a := k_i.toInt) (b := 24) (by rfl) (by decide) c_20; omega
        refine lv_aload_n hx hb dX11_unseen_26 rfl (lv_at hl 2 rfl) ?_
        refine va_get (D := G.1) (ci := 11) (v := .ref a_wa) (C := RX11) (T := TX11) (N := 17) hx hb hts inG_X11 hown hK hP 0 rfl rfl 4 (by decide) (hts _ fl_X11_38) (fun _ h9 => h9) rfl dX11_unseen_27 ?_
        refine va_get (D := G.1) (ci := 10) (v := .ref a_bo) (C := RX10) (T := TX10) (N := 3) hx hb hts inG_X10 hown hK hP 15 rfl rfl 2 (by decide) (hts _ fl_X11_257) (fun _ h9 => h9) rfl dX11_unseen_30 ?_
        refine lv_iload_n hx hb dX11_unseen_33 rfl (lv_at hl 1 rfl) ?_
        refine va_lald hx hb hK hP 16 1 rfl rfl (i := k_i) (vp_in_iff.mpr ⟨by omega, by omega⟩) dX11_unseen_34 ?_
        refine lv_iload_n hx hb dX11_unseen_35 rfl (lv_at hl 3 rfl) ?_
        have hPc := hP.sub (ws' := []) [] rfl
        have hDc := hD.sub (ws' := []) [] (by decide) rfl
        have hFc := va_free (wc := []) hD hS hA [] rfl
        refine va_calli (va_runS (As := [.long (z17 k_i.toNatClampNeg), .int p_c]) (rest := []) ⟨hx, hb, hml, hown, hts⟩ (k_isOn l G H.size p_c (z17 k_i.toNatClampNeg) ⟨by omega, by omega⟩) (va_cwS 2 hts gS_X11_115 rfl rfl rfl hs_X11_isOn ⟨Nat.le_of_ble_eq_true rfl, Nat.le_of_ble_eq_true rfl⟩) (g5_preS hPc hK hDc hN hT hS hFc) rfl rfl hl.1 rfl (lv_room (Nat.le_of_ble_eq_true rfl)) dX11_unseen_36 ⟨Nat.le_of_ble_eq_true rfl, Nat.le_of_ble_eq_true rfl⟩) hS (fun q _ h => hFc q h) hFc (fun r u t H1 locs ht hvm hw hB hz1 hk1 hS => ?_)
        obtain ⟨hP1, hD1⟩ := hB
        rw [ht] at hP1
        rcases hw with ⟨i_21, rfl, rfl⟩ | ⟨i_22, rfl, rfl⟩
        ·
          have i_21 : onB (z17 k_i.toNatClampNeg) p_c.toInt = false := i_21
          have hP := g5_same hP hk1
          generalize H1 = H at hP hS ⊢
          refine lv_if_ne (tgt := 45) hx hb dX11_unseen_39 (by decide) (fun c_23 => ?_) (fun c_23 => ?_)
          ·
            exact absurd c_23 (by decide)
          ·
            refine lv_iinc (v := (k_n + 1)) (lv' := [(2, .int (k_n + 1)), (3, .int k_i), (0, .ref a_o), (1, .int p_c)]) hx hb dX11_unseen_42 hl (k := 0) rfl rfl (by decide) rfl (fun ls hl => ?_)
            refine lv_iinc (v := (k_i + 1)) (lv' := [(3, .int (k_i + 1)), (2, .int (k_n + 1)), (0, .ref a_o), (1, .int p_c)]) hx hb dX11_unseen_45 hl (k := 1) rfl rfl (by decide) rfl (fun ls hl => ?_)
            have t_24 : (k_i + 1).toInt = k_i.toInt + 1 := g5_iadd (a := k_i.toInt) (b := 1) rfl (by decide) (by omega) (by omega)
            refine lv_goto (tgt := 20) hx hb dX11_unseen_48 (by decide) ?_
            exact ih_20_19 ((k_i + 1), (k_n + 1)) ls H locs (show Int.toNat (24 - (k_i + 1).toInt) < Int.toNat (24 - k_i.toInt) from g_up (show k_i.toInt < (k_i + 1).toInt by omega) (show k_i.toInt < 24 by omega)) ⟨lv_sub hl [1, 0, 2, 3] rfl, hP, hD, hS, ⟨by omega, by omega⟩⟩
        ·
          have i_22 : onB (z17 k_i.toNatClampNeg) p_c.toInt = true := i_22
          have hP := g5_same hP hk1
          generalize H1 = H at hP hS ⊢
          refine lv_if_ne (tgt := 45) hx hb dX11_unseen_39 (by decide) (fun c_25 => ?_) (fun c_25 => ?_)
          ·
            refine lv_iinc (v := (k_i + 1)) (lv' := [(3, .int (k_i + 1)), (2, .int k_n), (0, .ref a_o), (1, .int p_c)]) hx hb dX11_unseen_45 hl (k := 1) rfl rfl (by decide) rfl (fun ls hl => ?_)
            have t_26 : (k_i + 1).toInt = k_i.toInt + 1 := g5_iadd (a := k_i.toInt) (b := 1) rfl (by decide) (by omega) (by omega)
            refine lv_goto (tgt := 20) hx hb dX11_unseen_48 (by decide) ?_
            exact ih_20_19 ((k_i + 1), k_n) ls H locs (show Int.toNat (24 - (k_i + 1).toInt) < Int.toNat (24 - k_i.toInt) from g_up (show k_i.toInt < (k_i + 1).toInt by omega) (show k_i.toInt < 24 by omega)) ⟨lv_sub hl [1, 0, 2, 3] rfl, hP, hD, hS, ⟨by omega, by omega⟩⟩
          ·
            exact absurd c_25 (by decide)
    ·
      exact absurd c_2 (by decide)
  ·
    have hP := g5_same hP hk1
    generalize H1 = H at hP hS ⊢
    refine lv_if_ne (tgt := 9) hx hb dX11_unseen_4 (by decide) (fun c_27 => ?_) (fun c_27 => ?_)
    ·
      exact absurd c_27 (by decide)
    ·
      refine lv_iconst (v := (-1)) hx hb dX11_unseen_7 (by decide) ?_
      exact W.iret (v := (-1)) hx hb hr (fun t ht hW => ⟨⟨(-1), [(a_o, .inr (11, [.ref a_h, .ref a_im, .ref a_ke, .ref a_k, .ref a_wa, .ref a_th, .ref a_ha, .ref a_wk, .ref a_r, .ref a_x, .int e_tl, .int e_fd, .int e_fpl, .ref a_wd, .int e_wn, .ref a_rf, .int e_lr])), (a_k, .inr (5, [.ref a_h, .ref a_j, .ref a_pt, .int e_ln, .int e_se, .int e_lh, .int e_br, .int e_we, .int e_me, .int e_ce, .int e_wy, .int e_ho, .int e_ov])), (a_h, .inr (1, [.long e_wa, .int e_le, .int e_st, .int e_fo, .int e_lc, .ref a_l, .ref a_g, .ref a_b, .ref a_s, .ref a_p, .ref a_w, .long e_gb, .ref a_bb])), (a_g, .inr (6, [.int 6, .int 5, .ref a_gn, .int e_g])), (a_gn, .inl (G.2 0, 30, .inl f_g)), (a_b, .inr (6, [.int 5, .int 24, .ref a_bn, .int e_b])), (a_bn, .inl (G.2 0, 120, .inl f_b)), (a_p, .inr (6, [.int 8, .int 5, .ref a_pn, .int e_p])), (a_pn, .inl (G.2 0, 40, .inl f_p)), (a_bb, .inl (G.2 1, 24, .inr (.inl f_bb))), (a_j, .inr (2, [.ref a_as, .ref a_sk])), (a_as, .inl (G.2 0, 8, .inl f_as)), (a_sk, .inl (G.2 1, 50, .inr (.inl f_sk))), (a_l, .inl (G.2 4, 6, .inr (.inr (.inr (.inr f_l))))), (a_pt, .inl (G.2 0, 200, .inl f_pt)), (a_wa, .inr (10, [.ref a_h, .ref a_k, .ref a_bo])), (a_bo, .inl (G.2 1, 24, .inr (.inl f_bo)))], rfl, ⟨(-1), e_ln, e_se, e_lh, e_br, e_we, e_me, e_ce, e_wy, e_ho, e_ov, f_pt, f_as, f_sk, f_bo, ⟨by omega, by omega⟩, rfl, rfl⟩, by rw [ht]; exact hP.sub [0, 1, 2, 3, 4, 5, 6, 7, 8, 9, 10, 11, 12, 13, 14, 15, 16] rfl, hD.sub [0, 1, 2, 3, 4, 5, 6, 7, 8, 9, 10, 11, 12, 13, 14, 15, 16] (by decide) rfl⟩, hS.F ht⟩) hS.2.2 dX11_unseen_8
theorem dX11_wander_0 : decode cX11_wander 0 = .ok (.iload_n 1, 1) := by decide +kernel
theorem dX11_wander_1 : decode cX11_wander 1 = .ok (.ifCond .lt 16, 3) := by decide +kernel
theorem dX11_wander_4 : decode cX11_wander 4 = .ok (.iload_n 1, 1) := by decide +kernel
theorem dX11_wander_5 : decode cX11_wander 5 = .ok (.ldc 181, 2) := by decide +kernel
theorem dX11_wander_7 : decode cX11_wander 7 = .ok (.if_icmp .gt 10, 3) := by decide +kernel
theorem dX11_wander_10 : decode cX11_wander 10 = .ok (.iload_n 2, 1) := by decide +kernel
theorem dX11_wander_11 : decode cX11_wander 11 = .ok (.invokestatic 97, 3) := by decide +kernel
theorem dX11_wander_14 : decode cX11_wander 14 = .ok (.ifCond .ne 9, 3) := by decide +kernel
theorem dX11_wander_17 : decode cX11_wander 17 = .ok (.aload_n 0, 1) := by decide +kernel
theorem dX11_wander_18 : decode cX11_wander 18 = .ok (.iconst (-1), 1) := by decide +kernel
theorem dX11_wander_19 : decode cX11_wander 19 = .ok (.invokevirtual 104, 3) := by decide +kernel
theorem dX11_wander_22 : decode cX11_wander 22 = .ok (.ireturn, 1) := by decide +kernel
theorem dX11_wander_23 : decode cX11_wander 23 = .ok (.aload_n 0, 1) := by decide +kernel
theorem dX11_wander_24 : decode cX11_wander 24 = .ok (.getfield 12, 3) := by decide +kernel
theorem dX11_wander_27 : decode cX11_wander 27 = .ok (.getfield 111, 3) := by decide +kernel
theorem dX11_wander_30 : decode cX11_wander 30 = .ok (.iload_n 2, 1) := by decide +kernel
theorem dX11_wander_31 : decode cX11_wander 31 = .ok (.invokestatic 115, 3) := by decide +kernel
theorem dX11_wander_34 : decode cX11_wander 34 = .ok (.ifCond .eq 10, 3) := by decide +kernel
theorem dX11_wander_37 : decode cX11_wander 37 = .ok (.aload_n 0, 1) := by decide +kernel
theorem dX11_wander_38 : decode cX11_wander 38 = .ok (.bipush (-3), 2) := by decide +kernel
theorem dX11_wander_40 : decode cX11_wander 40 = .ok (.invokevirtual 104, 3) := by decide +kernel
theorem dX11_wander_43 : decode cX11_wander 43 = .ok (.ireturn, 1) := by decide +kernel
theorem dX11_wander_44 : decode cX11_wander 44 = .ok (.aload_n 0, 1) := by decide +kernel
theorem dX11_wander_45 : decode cX11_wander 45 = .ok (.getfield 38, 3) := by decide +kernel
theorem dX11_wander_48 : decode cX11_wander 48 = .ok (.invokevirtual 254, 3) := by decide +kernel
theorem dX11_wander_51 : decode cX11_wander 51 = .ok (.aload_n 0, 1) := by decide +kernel
theorem dX11_wander_52 : decode cX11_wander 52 = .ok (.iconst 1, 1) := by decide +kernel
theorem dX11_wander_53 : decode cX11_wander 53 = .ok (.putfield 87, 3) := by decide +kernel
theorem dX11_wander_56 : decode cX11_wander 56 = .ok (.iload_n 1, 1) := by decide +kernel
theorem dX11_wander_57 : decode cX11_wander 57 = .ok (.i2l, 1) := by decide +kernel
theorem dX11_wander_58 : decode cX11_wander 58 = .ok (.lstore_n 3, 1) := by decide +kernel
theorem dX11_wander_59 : decode cX11_wander 59 = .ok (.iload_n 2, 1) := by decide +kernel
theorem dX11_wander_60 : decode cX11_wander 60 = .ok (.istore 5, 2) := by decide +kernel
theorem dX11_wander_62 : decode cX11_wander 62 = .ok (.iconst 0, 1) := by decide +kernel
theorem dX11_wander_63 : decode cX11_wander 63 = .ok (.istore 6, 2) := by decide +kernel
theorem dX11_wander_65 : decode cX11_wander 65 = .ok (.iconst 0, 1) := by decide +kernel
theorem dX11_wander_66 : decode cX11_wander 66 = .ok (.istore 7, 2) := by decide +kernel
theorem dX11_wander_68 : decode cX11_wander 68 = .ok (.iload 7, 2) := by decide +kernel
theorem dX11_wander_70 : decode cX11_wander 70 = .ok (.bipush 24, 2) := by decide +kernel
theorem dX11_wander_72 : decode cX11_wander 72 = .ok (.if_icmp .ge 101, 3) := by decide +kernel
theorem dX11_wander_75 : decode cX11_wander 75 = .ok (.iload 7, 2) := by decide +kernel
theorem dX11_wander_77 : decode cX11_wander 77 = .ok (.ifCond .le 60, 3) := by decide +kernel
theorem dX11_wander_80 : decode cX11_wander 80 = .ok (.lload_n 3, 1) := by decide +kernel
theorem dX11_wander_81 : decode cX11_wander 81 = .ok (.ldc2_w 340, 3) := by decide +kernel
theorem dX11_wander_84 : decode cX11_wander 84 = .ok (.lmul, 1) := by decide +kernel
theorem dX11_wander_85 : decode cX11_wander 85 = .ok (.ldc2_w 342, 3) := by decide +kernel
theorem dX11_wander_88 : decode cX11_wander 88 = .ok (.ladd, 1) := by decide +kernel
theorem dX11_wander_89 : decode cX11_wander 89 = .ok (.ldc2_w 344, 3) := by decide +kernel
theorem dX11_wander_92 : decode cX11_wander 92 = .ok (.lrem, 1) := by decide +kernel
theorem dX11_wander_93 : decode cX11_wander 93 = .ok (.lstore_n 3, 1) := by decide +kernel
theorem dX11_wander_94 : decode cX11_wander 94 = .ok (.iload 5, 2) := by decide +kernel
theorem dX11_wander_96 : decode cX11_wander 96 = .ok (.lload_n 3, 1) := by decide +kernel
theorem dX11_wander_97 : decode cX11_wander 97 = .ok (.ldc2_w 346, 3) := by decide +kernel
theorem dX11_wander_100 : decode cX11_wander 100 = .ok (.lrem, 1) := by decide +kernel
theorem dX11_wander_101 : decode cX11_wander 101 = .ok (.l2i, 1) := by decide +kernel
theorem dX11_wander_102 : decode cX11_wander 102 = .ok (.invokestatic 348, 3) := by decide +kernel
theorem dX11_wander_105 : decode cX11_wander 105 = .ok (.istore 8, 2) := by decide +kernel
theorem dX11_wander_107 : decode cX11_wander 107 = .ok (.iload 8, 2) := by decide +kernel
theorem dX11_wander_109 : decode cX11_wander 109 = .ok (.iconst (-1), 1) := by decide +kernel
theorem dX11_wander_110 : decode cX11_wander 110 = .ok (.if_icmp .eq 18, 3) := by decide +kernel
theorem dX11_wander_113 : decode cX11_wander 113 = .ok (.aload_n 0, 1) := by decide +kernel
theorem dX11_wander_114 : decode cX11_wander 114 = .ok (.getfield 12, 3) := by decide +kernel
theorem dX11_wander_117 : decode cX11_wander 117 = .ok (.getfield 111, 3) := by decide +kernel
theorem dX11_wander_120 : decode cX11_wander 120 = .ok (.iload 8, 2) := by decide +kernel
theorem dX11_wander_122 : decode cX11_wander 122 = .ok (.invokestatic 115, 3) := by decide +kernel
theorem dX11_wander_125 : decode cX11_wander 125 = .ok (.ifCond .eq 8, 3) := by decide +kernel
theorem dX11_wander_128 : decode cX11_wander 128 = .ok (.iload 5, 2) := by decide +kernel
theorem dX11_wander_130 : decode cX11_wander 130 = .ok (.goto 5, 3) := by decide +kernel
theorem dX11_wander_133 : decode cX11_wander 133 = .ok (.iload 8, 2) := by decide +kernel
theorem dX11_wander_135 : decode cX11_wander 135 = .ok (.istore 5, 2) := by decide +kernel
theorem dX11_wander_137 : decode cX11_wander 137 = .ok (.aload_n 0, 1) := by decide +kernel
theorem dX11_wander_138 : decode cX11_wander 138 = .ok (.getfield 84, 3) := by decide +kernel
theorem dX11_wander_141 : decode cX11_wander 141 = .ok (.iload 7, 2) := by decide +kernel
theorem dX11_wander_143 : decode cX11_wander 143 = .ok (.iload 5, 2) := by decide +kernel
theorem dX11_wander_145 : decode cX11_wander 145 = .ok (.iastore, 1) := by decide +kernel
theorem dX11_wander_146 : decode cX11_wander 146 = .ok (.aload_n 0, 1) := by decide +kernel
theorem dX11_wander_147 : decode cX11_wander 147 = .ok (.getfield 38, 3) := by decide +kernel
theorem dX11_wander_150 : decode cX11_wander 150 = .ok (.getfield 257, 3) := by decide +kernel
theorem dX11_wander_153 : decode cX11_wander 153 = .ok (.iload 7, 2) := by decide +kernel
theorem dX11_wander_155 : decode cX11_wander 155 = .ok (.laload, 1) := by decide +kernel
theorem dX11_wander_156 : decode cX11_wander 156 = .ok (.iload 5, 2) := by decide +kernel
theorem dX11_wander_158 : decode cX11_wander 158 = .ok (.invokestatic 115, 3) := by decide +kernel
theorem dX11_wander_161 : decode cX11_wander 161 = .ok (.ifCond .eq 6, 3) := by decide +kernel
theorem dX11_wander_164 : decode cX11_wander 164 = .ok (.iinc 6 1, 3) := by decide +kernel
theorem dX11_wander_167 : decode cX11_wander 167 = .ok (.iinc 7 1, 3) := by decide +kernel
theorem dX11_wander_170 : decode cX11_wander 170 = .ok (.goto (-102), 3) := by decide +kernel
theorem dX11_wander_173 : decode cX11_wander 173 = .ok (.aload_n 0, 1) := by decide +kernel
theorem dX11_wander_174 : decode cX11_wander 174 = .ok (.iload 6, 2) := by decide +kernel
theorem dX11_wander_176 : decode cX11_wander 176 = .ok (.invokevirtual 121, 3) := by decide +kernel
theorem dX11_wander_179 : decode cX11_wander 179 = .ok (.ireturn, 1) := by decide +kernel
theorem kl_X11_340 : Cond.constantLong RX11 340 1103 ∈ tblG := tg 1147 (by decide +kernel) (by decide +kernel)
theorem kl_X11_342 : Cond.constantLong RX11 342 12345 ∈ tblG := tg 1148 (by decide +kernel) (by decide +kernel)
theorem kl_X11_344 : Cond.constantLong RX11 344 1000003 ∈ tblG := tg 1149 (by decide +kernel) (by decide +kernel)
theorem kl_X11_346 : Cond.constantLong RX11 346 5 ∈ tblG := tg 1150 (by decide +kernel) (by decide +kernel)
theorem ml_X11_348 : Cond.methodLink RX11 348 yX11_beside ∈ tblG := tg 1151 (by decide +kernel) (by decide +kernel)
theorem gS_X11_348 : GoodIn tblG (va_wsS RX11 348 yX11_beside (wsG yX11_beside cX11_beside 2 (some .int))) := tgS ml_X11_348 st_X11_beside ini_X11 gW_X11_beside
