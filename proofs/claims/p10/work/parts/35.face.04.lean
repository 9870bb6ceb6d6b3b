set_option maxHeartbeats 4000000 in
set_option maxRecDepth 100000 in
theorem x_stay (l : Launch) (G : g5_G) (a_o a_rf a_h a_b a_bn a_bb a_im a_ke a_k a_wa a_th a_ha a_wk a_r a_x a_wd a_l a_g a_s a_p a_w : Nat) (sz : Nat) (e_tl : Int32) (e_fd : Int32) (e_fpl : Int32) (e_wn : Int32) (e_lr : Int32) (e_le : Int32) (e_st : Int32) (e_fo : Int32) (e_lc : Int32) (e_b : Int32) (p_b : Int32) (p_f : Int32) (p_t : Int32) (p_c : Int32) (e_wa : Int64) (e_gb : Int64) (f_rf : Nat → Int32) (f_b : Nat → Int32) (f_bb : Nat → Int64) (h_e_tl : 0 ≤ e_tl.toInt ∧ e_tl.toInt ≤ 400) (h_e_wn : 0 ≤ e_wn.toInt ∧ e_wn.toInt ≤ 1) (h_e_b : 0 ≤ e_b.toInt ∧ e_b.toInt ≤ 5) : Met l yX11_stay (wsG yX11_stay cX11_stay 5 (some .int)) ({ frames := 3, cells := 0, slots := 0, locals := 73 }) (va_Pc [.ref a_o, .int p_b, .int p_f, .int p_t, .int p_c] (g5_P G [(a_o, .inr (11, [.ref a_h, .ref a_im, .ref a_ke, .ref a_k, .ref a_wa, .ref a_th, .ref a_ha, .ref a_wk, .ref a_r, .ref a_x, .int e_tl, .int e_fd, .int e_fpl, .ref a_wd, .int e_wn, .ref a_rf, .int e_lr])), (a_rf, .inl (G.2 0, 5, .inl f_rf)), (a_h, .inr (1, [.long e_wa, .int e_le, .int e_st, .int e_fo, .int e_lc, .ref a_l, .ref a_g, .ref a_b, .ref a_s, .ref a_p, .ref a_w, .long e_gb, .ref a_bb])), (a_b, .inr (6, [.int 5, .int 24, .ref a_bn, .int e_b])), (a_bn, .inl (G.2 0, 120, .inl f_b)), (a_bb, .inl (G.2 1, 24, .inr (.inl f_bb)))] sz)) (va_Qi (fun (r : Int32) (u : va_W) => (∃ (o_r : Int32) (o_lr : Int32) (o_rf : Nat → Int32) (o_f : Nat → Int32) (o_bb : Nat → Int64), (r = o_r) ∧ (u = [(a_o, .inr (11, [.ref a_h, .ref a_im, .ref a_ke, .ref a_k, .ref a_wa, .ref a_th, .ref a_ha, .ref a_wk, .ref a_r, .ref a_x, .int e_tl, .int e_fd, .int e_fpl, .ref a_wd, .int e_wn, .ref a_rf, .int o_lr])), (a_rf, .inl (G.2 0, 5, .inl o_rf)), (a_h, .inr (1, [.long e_wa, .int e_le, .int e_st, .int e_fo, .int e_lc, .ref a_l, .ref a_g, .ref a_b, .ref a_s, .ref a_p, .ref a_w, .long e_gb, .ref a_bb])), (a_b, .inr (6, [.int 5, .int 24, .ref a_bn, .int e_b])), (a_bn, .inl (G.2 0, 120, .inl o_f)), (a_bb, .inl (G.2 1, 24, .inr (.inl o_bb)))]))) (g5_B G (va_A [(a_o, .inr (11, [.ref a_h, .ref a_im, .ref a_ke, .ref a_k, .ref a_wa, .ref a_th, .ref a_ha, .ref a_wk, .ref a_r, .ref a_x, .int e_tl, .int e_fd, .int e_fpl, .ref a_wd, .int e_wn, .ref a_rf, .int e_lr])), (a_rf, .inl (G.2 0, 5, .inl f_rf)), (a_h, .inr (1, [.long e_wa, .int e_le, .int e_st, .int e_fo, .int e_lc, .ref a_l, .ref a_g, .ref a_b, .ref a_s, .ref a_p, .ref a_w, .long e_gb, .ref a_bb])), (a_b, .inr (6, [.int 5, .int 24, .ref a_bn, .int e_b])), (a_bn, .inl (G.2 0, 120, .inl f_b)), (a_bb, .inl (G.2 1, 24, .inr (.inl f_bb)))] sz)) (va_A [(a_o, .inr (11, [.ref a_h, .ref a_im, .ref a_ke, .ref a_k, .ref a_wa, .ref a_th, .ref a_ha, .ref a_wk, .ref a_r, .ref a_x, .int e_tl, .int e_fd, .int e_fpl, .ref a_wd, .int e_wn, .ref a_rf, .int e_lr])), (a_rf, .inl (G.2 0, 5, .inl f_rf)), (a_h, .inr (1, [.long e_wa, .int e_le, .int e_st, .int e_fo, .int e_lc, .ref a_l, .ref a_g, .ref a_b, .ref a_s, .ref a_p, .ref a_w, .long e_gb, .ref a_bb])), (a_b, .inr (6, [.int 5, .int 24, .ref a_bn, .int e_b])), (a_bn, .inl (G.2 0, 120, .inl f_b)), (a_bb, .inl (G.2 1, 24, .inr (.inl f_bb)))] sz)) 0 0 (va_A [(a_o, .inr (11, [.ref a_h, .ref a_im, .ref a_ke, .ref a_k, .ref a_wa, .ref a_th, .ref a_ha, .ref a_wk, .ref a_r, .ref a_x, .int e_tl, .int e_fd, .int e_fpl, .ref a_wd, .int e_wn, .ref a_rf, .int e_lr])), (a_rf, .inl (G.2 0, 5, .inl f_rf)), (a_h, .inr (1, [.long e_wa, .int e_le, .int e_st, .int e_fo, .int e_lc, .ref a_l, .ref a_g, .ref a_b, .ref a_s, .ref a_p, .ref a_w, .long e_gb, .ref a_bb])), (a_b, .inr (6, [.int 5, .int 24, .ref a_bn, .int e_b])), (a_bn, .inl (G.2 0, 120, .inl f_b)), (a_bb, .inl (G.2 1, 24, .inr (.inl f_bb)))] sz) := by
  refine Met.ofW (cc := cX11_stay) (maxL := 5) (ret := (some .int)) (by decide) rfl ?_
  intro p e s m args below meth c s₁ B hml hv
  obtain ⟨rfl, hsz, hP, hK, hD0, hN, hT⟩ := hv
  have hx := B.exec
  have hb := B.bytes
  have hr := B.returns
  have hts : ∀ w ∈ tblG, w.before _ s = true := fun w h => atoms_spec (ws := (wsG yX11_stay cX11_stay 5 (some .int))) B.pre w (List.mem_cons_of_mem _ h)
  have hown : s.vm.findClass RX11 = some m.cls := findClass_of_methodNamed B.named
  have hlocks := B.notSynchronized
  subst hsz
  have hD := hD0.self (sz := s.heap.size)
  generalize hAe : va_A [(a_o, .inr (11, [.ref a_h, .ref a_im, .ref a_ke, .ref a_k, .ref a_wa, .ref a_th, .ref a_ha, .ref a_wk, .ref a_r, .ref a_x, .int e_tl, .int e_fd, .int e_fpl, .ref a_wd, .int e_wn, .ref a_rf, .int e_lr])), (a_rf, .inl (G.2 0, 5, .inl f_rf)), (a_h, .inr (1, [.long e_wa, .int e_le, .int e_st, .int e_fo, .int e_lc, .ref a_l, .ref a_g, .ref a_b, .ref a_s, .ref a_p, .ref a_w, .long e_gb, .ref a_bb])), (a_b, .inr (6, [.int 5, .int 24, .ref a_bn, .int e_b])), (a_bn, .inl (G.2 0, 120, .inl f_b)), (a_bb, .inl (G.2 1, 24, .inr (.inl f_bb)))] s.heap.size = A at hD hT ⊢
  have hA : ∀ q : Nat, s.heap.size ≤ q → A q := fun q h => by rw [← hAe]; exact Or.inr h
  have hS : va_S A s.heap s.heap [] := va_S.rf
  have hP : va_P G.1 vwCl [(a_o, .inr (11, [.ref a_h, .ref a_im, .ref a_ke, .ref a_k, .ref a_wa, .ref a_th, .ref a_ha, .ref a_wk, .ref a_r, .ref a_x, .int e_tl, .int e_fd, .int e_fpl, .ref a_wd, .int e_wn, .ref a_rf, .int e_lr])), (a_rf, .inl (G.2 0, 5, .inl f_rf)), (a_h, .inr (1, [.long e_wa, .int e_le, .int e_st, .int e_fo, .int e_lc, .ref a_l, .ref a_g, .ref a_b, .ref a_s, .ref a_p, .ref a_w, .long e_gb, .ref a_bb])), (a_b, .inr (6, [.int 5, .int 24, .ref a_bn, .int e_b])), (a_bn, .inl (G.2 0, 120, .inl f_b)), (a_bb, .inl (G.2 1, 24, .inr (.inl f_bb)))] s.heap := hP
  have hl := lv_entry ([.ref a_o, .int p_b, .int p_f, .int p_t, .int p_c]) (n := 5) (Nat.le_of_ble_eq_true rfl)
  rw [lg_entry_eq]
  generalize (lg_sl ([.ref a_o, .int p_b, .int p_f, .int p_t, .int p_c]) ++ List.replicate (5 - (lg_sl ([.ref a_o, .int p_b, .int p_f, .int p_t, .int p_c])).length) Slot.unset).toArray = ls at hl ⊢
  have hl : lv_has ls 5 [(0, .ref a_o), (1, .int p_b), (2, .int p_f), (3, .int p_t), (4, .int p_c)] := hl
  refine lv_iload_n hx hb dX11_stay_0 rfl (lv_at hl 2 rfl) ?_
  refine lv_iload_n hx hb dX11_stay_1 rfl (lv_at hl 3 rfl) ?_
  refine lv_iload hx hb dX11_stay_2 (lv_at hl 4 rfl) ?_
  have hPc := hP.sub (ws' := []) [] rfl
  have hDc := hD.sub (ws' := []) [] (by decide) rfl
  have hFc := va_free (wc := []) hD hS hA [] rfl
  refine va_calli (va_runS (As := [.int p_f, .int p_t, .int p_c]) (rest := []) ⟨hx, hb, hml, hown, hts⟩ (x_isStay l G s.heap.size p_f p_t p_c) (va_cwS 3 hts gS_X11_170 rfl rfl rfl hs_X11_isStay ⟨Nat.le_of_ble_eq_true rfl, Nat.le_of_ble_eq_true rfl⟩) (g5_preS hPc hK hDc hN hT hS hFc) rfl rfl hl.1 rfl (lv_room (Nat.le_of_ble_eq_true rfl)) dX11_stay_4 ⟨Nat.le_of_ble_eq_true rfl, Nat.le_of_ble_eq_true rfl⟩) hS (fun q _ h => hFc q h) hFc (fun r u t H1 locs ht hvm hw hB hz1 hk1 hS => ?_)
  obtain ⟨hP1, hD1⟩ := hB
  rw [ht] at hP1
  rcases hw with ⟨i_1, i_2, i_3, i_4, rfl, rfl⟩ | ⟨rfl, rfl⟩
  ·
    have i_1 : 0 ≤ p_f.toInt ∧ p_f.toInt ≤ 23 := i_1
    have i_2 : 0 ≤ p_t.toInt ∧ p_t.toInt ≤ 23 := i_2
    have i_3 : -1 ≤ p_c.toInt ∧ p_c.toInt ≤ 63 := i_3
    have i_4 : p_f.toInt ≤ p_t.toInt := i_4
    have hP := g5_same hP hk1
    generalize H1 = H at hP hS ⊢
    refine lv_if_ne (tgt := 16) hx hb dX11_stay_7 (by decide) (fun c_5 => ?_) (fun c_5 => ?_)
    ·
      refine lv_aload_n hx hb dX11_stay_16 rfl (lv_at hl 0 rfl) ?_
      refine va_get (D := G.1) (ci := 11) (v := .ref a_h) (C := RX11) (T := TX11) (N := 17) hx hb hts inG_X11 hown hK hP 0 rfl rfl 0 (by decide) (hts _ fl_X11_12) (fun _ h9 => h9) rfl dX11_stay_17 ?_
      refine va_get (D := G.1) (ci := 1) (v := .ref a_b) (C := RX1) (T := TX1) (N := 13) hx hb hts inG_X1 hown hK hP 2 rfl rfl 7 (by decide) (hts _ fl_X11_167) (fun _ h9 => h9) rfl dX11_stay_20 ?_
      refine lv_iload_n hx hb dX11_stay_23 rfl (lv_at hl 1 rfl) ?_
      have hPc := hP.sub (ws' := [(a_b, .inr (6, [.int 5, .int 24, .ref a_bn, .int e_b]))]) [3] rfl
      have hDc := hD.sub (ws' := [(a_b, .inr (6, [.int 5, .int 24, .ref a_bn, .int e_b]))]) [3] (by decide) rfl
      have hFc := va_free (wc := [(a_b, .inr (6, [.int 5, .int 24, .ref a_bn, .int e_b]))]) hD hS hA [3] rfl
      refine va_calli (va_runV (As := [.int p_b]) (rest := []) ⟨hx, hb, hml, hown, hts⟩ (t_has_B l G a_b a_bn H.size e_b p_b ⟨by omega, by omega⟩) (cwV 1 hts gV_X11_160 rfl rfl rfl hv_X6_has ⟨Nat.le_of_ble_eq_true rfl, Nat.le_of_ble_eq_true rfl⟩) (g5_preV hPc hK hDc hN hT hS hFc (ci := 6) (q0 := 0) rfl rfl) rfl rfl hl.1 rfl (lv_room (Nat.le_of_ble_eq_true rfl)) dX11_stay_24 ⟨Nat.le_of_ble_eq_true rfl, Nat.le_of_ble_eq_true rfl⟩) hS (fun q _ h => hFc q h) hFc (fun r u t H1 locs ht hvm hw hB hz1 hk1 hS => ?_)
      obtain ⟨hP1, hD1⟩ := hB
      rw [ht] at hP1
      rcases hw with ⟨i_6, rfl, rfl⟩ | ⟨i_7, rfl, rfl⟩
      ·
        have i_6 : 0 ≤ p_b.toInt ∧ p_b.toInt < e_b.toInt := i_6
        obtain ⟨hP, hD⟩ := va_join (wr := [(a_o, .inr (11, [.ref a_h, .ref a_im, .ref a_ke, .ref a_k, .ref a_wa, .ref a_th, .ref a_ha, .ref a_wk, .ref a_r, .ref a_x, .int e_tl, .int e_fd, .int e_fpl, .ref a_wd, .int e_wn, .ref a_rf, .int e_lr])), (a_rf, .inl (G.2 0, 5, .inl f_rf)), (a_h, .inr (1, [.long e_wa, .int e_le, .int e_st, .int e_fo, .int e_lc, .ref a_l, .ref a_g, .ref a_b, .ref a_s, .ref a_p, .ref a_w, .long e_gb, .ref a_bb])), (a_bn, .inl (G.2 0, 120, .inl f_b)), (a_bb, .inl (G.2 1, 24, .inr (.inl f_bb)))]) (w1 := [(a_b, .inr (6, [.int 5, .int 24, .ref a_bn, .int e_b]))]) hP hD [3] [0, 1, 2, 4, 5] rfl rfl (by decide) (by decide) hk1 hFc hP1 hD1
        generalize H1 = H at hP hS ⊢
        have hP : va_P G.1 vwCl [(a_o, .inr (11, [.ref a_h, .ref a_im, .ref a_ke, .ref a_k, .ref a_wa, .ref a_th, .ref a_ha, .ref a_wk, .ref a_r, .ref a_x, .int e_tl, .int e_fd, .int e_fpl, .ref a_wd, .int e_wn, .ref a_rf, .int e_lr])), (a_rf, .inl (G.2 0, 5, .inl f_rf)), (a_h, .inr (1, [.long e_wa, .int e_le, .int e_st, .int e_fo, .int e_lc, .ref a_l, .ref a_g, .ref a_b, .ref a_s, .ref a_p, .ref a_w, .long e_gb, .ref a_bb])), (a_bn, .inl (G.2 0, 120, .inl f_b)), (a_bb, .inl (G.2 1, 24, .inr (.inl f_bb))), (a_b, .inr (6, [.int 5, .int 24, .ref a_bn, .int e_b]))] H := hP
        have hD : va_D A [(a_o, .inr (11, [.ref a_h, .ref a_im, .ref a_ke, .ref a_k, .ref a_wa, .ref a_th, .ref a_ha, .ref a_wk, .ref a_r, .ref a_x, .int e_tl, .int e_fd, .int e_fpl, .ref a_wd, .int e_wn, .ref a_rf, .int e_lr])), (a_rf, .inl (G.2 0, 5, .inl f_rf)), (a_h, .inr (1, [.long e_wa, .int e_le, .int e_st, .int e_fo, .int e_lc, .ref a_l, .ref a_g, .ref a_b, .ref a_s, .ref a_p, .ref a_w, .long e_gb, .ref a_bb])), (a_bn, .inl (G.2 0, 120, .inl f_b)), (a_bb, .inl (G.2 1, 24, .inr (.inl f_bb))), (a_b, .inr (6, [.int 5, .int 24, .ref a_bn, .int e_b]))] := hD
        refine lv_if_ne (tgt := 37) hx hb dX11_stay_27 (by decide) (fun c_8 => ?_) (fun c_8 => ?_)
        ·
          refine lv_aload_n hx hb dX11_stay_37 rfl (lv_at hl 0 rfl) ?_
          refine va_get (D := G.1) (ci := 11) (v := .ref a_h) (C := RX11) (T := TX11) (N := 17) hx hb hts inG_X11 hown hK hP 0 rfl rfl 0 (by decide) (hts _ fl_X11_12) (fun _ h9 => h9) rfl dX11_stay_38 ?_
          refine lv_iload hx hb dX11_stay_41 (lv_at hl 4 rfl) ?_
          have hPc := hP.sub (ws' := [(a_h, .inr (1, [.long e_wa, .int e_le, .int e_st, .int e_fo, .int e_lc, .ref a_l, .ref a_g, .ref a_b, .ref a_s, .ref a_p, .ref a_w, .long e_gb, .ref a_bb]))]) [2] rfl
          have hDc := hD.sub (ws' := [(a_h, .inr (1, [.long e_wa, .int e_le, .int e_st, .int e_fo, .int e_lc, .ref a_l, .ref a_g, .ref a_b, .ref a_s, .ref a_p, .ref a_w, .long e_gb, .ref a_bb]))]) [2] (by decide) rfl
          have hFc := va_free (wc := [(a_h, .inr (1, [.long e_wa, .int e_le, .int e_st, .int e_fo, .int e_lc, .ref a_l, .ref a_g, .ref a_b, .ref a_s, .ref a_p, .ref a_w, .long e_gb, .ref a_bb]))]) hD hS hA [2] rfl
          refine va_calli (va_runV (As := [.int p_c]) (rest := []) ⟨hx, hb, hml, hown, hts⟩ (h_isWalled l G a_h a_l a_g a_b a_s a_p a_w a_bb H.size e_le e_st e_fo e_lc p_c e_wa e_gb ⟨by omega, by omega⟩) (cwV 1 hts gV_X11_174 rfl rfl rfl hv_X1_isWalled ⟨Nat.le_of_ble_eq_true rfl, Nat.le_of_ble_eq_true rfl⟩) (g5_preV hPc hK hDc hN hT hS hFc (ci := 1) (q0 := 0) rfl rfl) rfl rfl hl.1 rfl (lv_room (Nat.le_of_ble_eq_true rfl)) dX11_stay_43 ⟨Nat.le_of_ble_eq_true rfl, Nat.le_of_ble_eq_true rfl⟩) hS (fun q _ h => hFc q h) hFc (fun r u t H1 locs ht hvm hw hB hz1 hk1 hS => ?_)
          obtain ⟨hP1, hD1⟩ := hB
          rw [ht] at hP1
          rcases hw with ⟨i_9, rfl, rfl⟩ | ⟨i_10, rfl, rfl⟩
          ·
            have i_9 : 0 ≤ p_c.toInt ∧ onB e_wa p_c.toInt = true := i_9
            obtain ⟨hP, hD⟩ := va_join (wr := [(a_o, .inr (11, [.ref a_h, .ref a_im, .ref a_ke, .ref a_k, .ref a_wa, .ref a_th, .ref a_ha, .ref a_wk, .ref a_r, .ref a_x, .int e_tl, .int e_fd, .int e_fpl, .ref a_wd, .int e_wn, .ref a_rf, .int e_lr])), (a_rf, .inl (G.2 0, 5, .inl f_rf)), (a_bn, .inl (G.2 0, 120, .inl f_b)), (a_bb, .inl (G.2 1, 24, .inr (.inl f_bb))), (a_b, .inr (6, [.int 5, .int 24, .ref a_bn, .int e_b]))]) (w1 := [(a_h, .inr (1, [.long e_wa, .int e_le, .int e_st, .int e_fo, .int e_lc, .ref a_l, .ref a_g, .ref a_b, .ref a_s, .ref a_p, .ref a_w, .long e_gb, .ref a_bb]))]) hP hD [2] [0, 1, 3, 4, 5] rfl rfl (by decide) (by decide) hk1 hFc hP1 hD1
            generalize H1 = H at hP hS ⊢
            have hP : va_P G.1 vwCl [(a_o, .inr (11, [.ref a_h, .ref a_im, .ref a_ke, .ref a_k, .ref a_wa, .ref a_th, .ref a_ha, .ref a_wk, .ref a_r, .ref a_x, .int e_tl, .int e_fd, .int e_fpl, .ref a_wd, .int e_wn, .ref a_rf, .int e_lr])), (a_rf, .inl (G.2 0, 5, .inl f_rf)), (a_bn, .inl (G.2 0, 120, .inl f_b)), (a_bb, .inl (G.2 1, 24, .inr (.inl f_bb))), (a_b, .inr (6, [.int 5, .int 24, .ref a_bn, .int e_b])), (a_h, .inr (1, [.long e_wa, .int e_le, .int e_st, .int e_fo, .int e_lc, .ref a_l, .ref a_g, .ref a_b, .ref a_s, .ref a_p, .ref a_w, .long e_gb, .ref a_bb]))] H := hP
            have hD : va_D A [(a_o, .inr (11, [.ref a_h, .ref a_im, .ref a_ke, .ref a_k, .ref a_wa, .ref a_th, .ref a_ha, .ref a_wk, .ref a_r, .ref a_x, .int e_tl, .int e_fd, .int e_fpl, .ref a_wd, .int e_wn, .ref a_rf, .int e_lr])), (a_rf, .inl (G.2 0, 5, .inl f_rf)), (a_bn, .inl (G.2 0, 120, .inl f_b)), (a_bb, .inl (G.2 1, 24, .inr (.inl f_bb))), (a_b, .inr (6, [.int 5, .int 24, .ref a_bn, .int e_b])), (a_h, .inr (1, [.long e_wa, .int e_le, .int e_st, .int e_fo, .int e_lc, .ref a_l, .ref a_g, .ref a_b, .ref a_s, .ref a_p, .ref a_w, .long e_gb, .ref a_bb]))] := hD
            refine lv_if_eq (tgt := 56) hx hb dX11_stay_46 (by decide) (fun c_11 => ?_) (fun c_11 => ?_)
            ·
              exact absurd c_11 (by decide)
            ·
              refine lv_aload_n hx hb dX11_stay_49 rfl (lv_at hl 0 rfl) ?_
              refine lv_bipush (v := (-3)) hx hb dX11_stay_50 (by decide) ?_
              have hPc := hP.sub (ws' := [(a_o, .inr (11, [.ref a_h, .ref a_im, .ref a_ke, .ref a_k, .ref a_wa, .ref a_th, .ref a_ha, .ref a_wk, .ref a_r, .ref a_x, .int e_tl, .int e_fd, .int e_fpl, .ref a_wd, .int e_wn, .ref a_rf, .int e_lr])), (a_rf, .inl (G.2 0, 5, .inl f_rf))]) [0, 1] rfl
              have hDc := hD.sub (ws' := [(a_o, .inr (11, [.ref a_h, .ref a_im, .ref a_ke, .ref a_k, .ref a_wa, .ref a_th, .ref a_ha, .ref a_wk, .ref a_r, .ref a_x, .int e_tl, .int e_fd, .int e_fpl, .ref a_wd, .int e_wn, .ref a_rf, .int e_lr])), (a_rf, .inl (G.2 0, 5, .inl f_rf))]) [0, 1] (by decide) rfl
              have hFc := va_free (wc := [(a_o, .inr (11, [.ref a_h, .ref a_im, .ref a_ke, .ref a_k, .ref a_wa, .ref a_th, .ref a_ha, .ref a_wk, .ref a_r, .ref a_x, .int e_tl, .int e_fd, .int e_fpl, .ref a_wd, .int e_wn, .ref a_rf, .int e_lr])), (a_rf, .inl (G.2 0, 5, .inl f_rf))]) hD hS hA [0, 1] rfl
              refine va_calli (va_runV (As := [.int (-3)]) (rest := []) ⟨hx, hb, hml, hown, hts⟩ (x_refuse3 l G a_o a_rf a_h a_im a_ke a_k a_wa a_th a_ha a_wk a_r a_x a_wd H.size e_tl e_fd e_fpl e_wn e_lr f_rf ⟨by omega, by omega⟩ ⟨by omega, by omega⟩) (cwV 1 hts gV_X11_104 rfl rfl rfl hv_X11_refuse ⟨Nat.le_of_ble_eq_true rfl, Nat.le_of_ble_eq_true rfl⟩) (g5_preV hPc hK hDc hN hT hS hFc (ci := 11) (q0 := 0) rfl rfl) rfl rfl hl.1 rfl (lv_room (Nat.le_of_ble_eq_true rfl)) dX11_stay_52 ⟨Nat.le_of_ble_eq_true rfl, Nat.le_of_ble_eq_true rfl⟩) hS (fun q _ h => hFc q h) hFc (fun r u t H1 locs ht hvm hw hB hz1 hk1 hS => ?_)
              obtain ⟨hP1, hD1⟩ := hB
              rw [ht] at hP1
              obtain ⟨z12, rfl, rfl⟩ := hw
              obtain ⟨hP, hD⟩ := va_join (wr := [(a_bn, .inl (G.2 0, 120, .inl f_b)), (a_bb, .inl (G.2 1, 24, .inr (.inl f_bb))), (a_b, .inr (6, [.int 5, .int 24, .ref a_bn, .int e_b])), (a_h, .inr (1, [.long e_wa, .int e_le, .int e_st, .int e_fo, .int e_lc, .ref a_l, .ref a_g, .ref a_b, .ref a_s, .ref a_p, .ref a_w, .long e_gb, .ref a_bb]))]) (w1 := [(a_o, .inr (11, [.ref a_h, .ref a_im, .ref a_ke, .ref a_k, .ref a_wa, .ref a_th, .ref a_ha, .ref a_wk, .ref a_r, .ref a_x, .int e_tl, .int e_fd, .int e_fpl, .ref a_wd, .int e_wn, .ref a_rf, .int (-3)])), (a_rf, .inl (G.2 0, 5, .inl z12))]) hP hD [0, 1] [2, 3, 4, 5] rfl rfl (by decide) (by decide) hk1 hFc hP1 hD1
              generalize H1 = H at hP hS ⊢
              have hP : va_P G.1 vwCl [(a_bn, .inl (G.2 0, 120, .inl f_b)), (a_bb, .inl (G.2 1, 24, .inr (.inl f_bb))), (a_b, .inr (6, [.int 5, .int 24, .ref a_bn, .int e_b])), (a_h, .inr (1, [.long e_wa, .int e_le, .int e_st, .int e_fo, .int e_lc, .ref a_l, .ref a_g, .ref a_b, .ref a_s, .ref a_p, .ref a_w, .long e_gb, .ref a_bb])), (a_o, .inr (11, [.ref a_h, .ref a_im, .ref a_ke, .ref a_k, .ref a_wa, .ref a_th, .ref a_ha, .ref a_wk, .ref a_r, .ref a_x, .int e_tl, .int e_fd, .int e_fpl, .ref a_wd, .int e_wn, .ref a_rf, .int (-3)])), (a_rf, .inl (G.2 0, 5, .inl z12))] H := hP
              have hD : va_D A [(a_bn, .inl (G.2 0, 120, .inl f_b)), (a_bb, .inl (G.2 1, 24, .inr (.inl f_bb))), (a_b, .inr (6, [.int 5, .int 24, .ref a_bn, .int e_b])), (a_h, .inr (1, [.long e_wa, .int e_le, .int e_st, .int e_fo, .int e_lc, .ref a_l, .ref a_g, .ref a_b, .ref a_s, .ref a_p, .ref a_w, .long e_gb, .ref a_bb])), (a_o, .inr (11, [.ref a_h, .ref a_im, .ref a_ke, .ref a_k, .ref a_wa, .ref a_th, .ref a_ha, .ref a_wk, .ref a_r, .ref a_x, .int e_tl, .int e_fd, .int e_fpl, .ref a_wd, .int e_wn, .ref a_rf, .int (-3)])), (a_rf, .inl (G.2 0, 5, .inl z12))] := hD
              exact W.iret (v := (-3)) hx hb hr (fun t ht hW => ⟨⟨(-3), [(a_o, .inr (11, [.ref a_h, .ref a_im, .ref a_ke, .ref a_k, .ref a_wa, .ref a_th, .ref a_ha, .ref a_wk, .ref a_r, .ref a_x, .int e_tl, .int e_fd, .int e_fpl, .ref a_wd, .int e_wn, .ref a_rf, .int (-3)])), (a_rf, .inl (G.2 0, 5, .inl z12)), (a_h, .inr (1, [.long e_wa, .int e_le, .int e_st, .int e_fo, .int e_lc, .ref a_l, .ref a_g, .ref a_b, .ref a_s, .ref a_p, .ref a_w, .long e_gb, .ref a_bb])), (a_b, .inr (6, [.int 5, .int 24, .ref a_bn, .int e_b])), (a_bn, .inl (G.2 0, 120, .inl f_b)), (a_bb, .inl (G.2 1, 24, .inr (.inl f_bb)))], rfl, ⟨(-3), (-3), z12, f_b, f_bb, rfl, rfl⟩, by rw [ht]; exact hP.sub [4, 5, 3, 2, 0, 1] rfl, hD.sub [4, 5, 3, 2, 0, 1] (by decide) rfl⟩, hS.F ht⟩) hS.2.2 dX11_stay_55
          ·
            have i_10 : p_c.toInt = -1 ∨ onB e_wa p_c.toInt = false := i_10
            obtain ⟨hP, hD⟩ := va_join (wr := [(a_o, .inr (11, [.ref a_h, .ref a_im, .ref a_ke, .ref a_k, .ref a_wa, .ref a_th, .ref a_ha, .ref a_wk, .ref a_r, .ref a_x, .int e_tl, .int e_fd, .int e_fpl, .ref a_wd, .int e_wn, .ref a_rf, .int e_lr])), (a_rf, .inl (G.2 0, 5, .inl f_rf)), (a_bn, .inl (G.2 0, 120, .inl f_b)), (a_bb, .inl (G.2 1, 24, .inr (.inl f_bb))), (a_b, .inr (6, [.int 5, .int 24, .ref a_bn, .int e_b]))]) (w1 := [(a_h, .inr (1, [.long e_wa, .int e_le, .int e_st, .int e_fo, .int e_lc, .ref a_l, .ref a_g, .ref a_b, .ref a_s, .ref a_p, .ref a_w, .long e_gb, .ref a_bb]))]) hP hD [2] [0, 1, 3, 4, 5] rfl rfl (by decide) (by decide) hk1 hFc hP1 hD1
            generalize H1 = H at hP hS ⊢
            have hP : va_P G.1 vwCl [(a_o, .inr (11, [.ref a_h, .ref a_im, .ref a_ke, .ref a_k, .ref a_wa, .ref a_th, .ref a_ha, .ref a_wk, .ref a_r, .ref a_x, .int e_tl, .int e_fd, .int e_fpl, .ref a_wd, .int e_wn, .ref a_rf, .int e_lr])), (a_rf, .inl (G.2 0, 5, .inl f_rf)), (a_bn, .inl (G.2 0, 120, .inl f_b)), (a_bb, .inl (G.2 1, 24, .inr (.inl f_bb))), (a_b, .inr (6, [.int 5, .int 24, .ref a_bn, .int e_b])), (a_h, .inr (1, [.long e_wa, .int e_le, .int e_st, .int e_fo, .int e_lc, .ref a_l, .ref a_g, .ref a_b, .ref a_s, .ref a_p, .ref a_w, .long e_gb, .ref a_bb]))] H := hP
            have hD : va_D A [(a_o, .inr (11, [.ref a_h, .ref a_im, .ref a_ke, .ref a_k, .ref a_wa, .ref a_th, .ref a_ha, .ref a_wk, .ref a_r, .ref a_x, .int e_tl, .int e_fd, .int e_fpl, .ref a_wd, .int e_wn, .ref a_rf, .int e_lr])), (a_rf, .inl (G.2 0, 5, .inl f_rf)), (a_bn, .inl (G.2 0, 120, .inl f_b)), (a_bb, .inl (G.2 1, 24, .inr (.inl f_bb))), (a_b, .inr (6, [.int 5, .int 24, .ref a_bn, .int e_b])), (a_h, .inr (1, [.long e_wa, .int e_le, .int e_st, .int e_fo, .int e_lc, .ref a_l, .ref a_g, .ref a_b, .ref a_s, .ref a_p, .ref a_w, .long e_gb, .ref a_bb]))] := hD
            refine lv_if_eq (tgt := 56) hx hb dX11_stay_46 (by decide) (fun c_13 => ?_) (fun c_13 => ?_)
            ·
              refine lv_aload_n hx hb dX11_stay_56 rfl (lv_at hl 0 rfl) ?_
              refine va_get (D := G.1) (ci := 11) (v := .ref a_h) (C := RX11) (T := TX11) (N := 17) hx hb hts inG_X11 hown hK hP 0 rfl rfl 0 (by decide) (hts _ fl_X11_12) (fun _ h9 => h9) rfl dX11_stay_57 ?_
              refine lv_iload_n hx hb dX11_stay_60 rfl (lv_at hl 1 rfl) ?_
              refine lv_iload_n hx hb dX11_stay_61 rfl (lv_at hl 2 rfl) ?_
              refine lv_iload_n hx hb dX11_stay_62 rfl (lv_at hl 3 rfl) ?_
              refine lv_iload hx hb dX11_stay_63 (lv_at hl 4 rfl) ?_
              have hPc := hP.sub (ws' := [(a_h, .inr (1, [.long e_wa, .int e_le, .int e_st, .int e_fo, .int e_lc, .ref a_l, .ref a_g, .ref a_b, .ref a_s, .ref a_p, .ref a_w, .long e_gb, .ref a_bb])), (a_b, .inr (6, [.int 5, .int 24, .ref a_bn, .int e_b])), (a_bn, .inl (G.2 0, 120, .inl f_b)), (a_bb, .inl (G.2 1, 24, .inr (.inl f_bb)))]) [5, 4, 2, 3] rfl
              have hDc := hD.sub (ws' := [(a_h, .inr (1, [.long e_wa, .int e_le, .int e_st, .int e_fo, .int e_lc, .ref a_l, .ref a_g, .ref a_b, .ref a_s, .ref a_p, .ref a_w, .long e_gb, .ref a_bb])), (a_b, .inr (6, [.int 5, .int 24, .ref a_bn, .int e_b])), (a_bn, .inl (G.2 0, 120, .inl f_b)), (a_bb, .inl (G.2 1, 24, .inr (.inl f_bb)))]) [5, 4, 2, 3] (by decide) rfl
              have hFc := va_free (wc := [(a_h, .inr (1, [.long e_wa, .int e_le, .int e_st, .int e_fo, .int e_lc, .ref a_l, .ref a_g, .ref a_b, .ref a_s, .ref a_p, .ref a_w, .long e_gb, .ref a_bb])), (a_b, .inr (6, [.int 5, .int 24, .ref a_bn, .int e_b])), (a_bn, .inl (G.2 0, 120, .inl f_b)), (a_bb, .inl (G.2 1, 24, .inr (.inl f_bb)))]) hD hS hA [5, 4, 2, 3] rfl
              refine va_callv (va_runV (As := [.int p_b, .int p_f, .int p_t, .int p_c]) (rest := []) ⟨hx, hb, hml, hown, hts⟩ (h_putN l G a_h a_b a_bn a_bb a_l a_g a_s a_p a_w H.size e_le e_st e_fo e_lc e_b p_b p_f p_t p_c e_wa e_gb f_b f_bb ⟨by omega, by omega⟩ ⟨by omega, by omega⟩ ⟨by omega, by omega⟩) (cwV 4 hts gV_X11_177 rfl rfl rfl hv_X1_put ⟨Nat.le_of_ble_eq_true rfl, Nat.le_of_ble_eq_true rfl⟩) (g5_preV hPc hK hDc hN hT hS hFc (ci := 1) (q0 := 0) rfl rfl) rfl rfl hl.1 rfl (lv_room (Nat.le_of_ble_eq_true rfl)) dX11_stay_65 ⟨Nat.le_of_ble_eq_true rfl, Nat.le_of_ble_eq_true rfl⟩) hS (fun q _ h => hFc q h) hFc (fun u t H1 locs ht hvm hw hB hz1 hk1 hS => ?_)
              obtain ⟨hP1, hD1⟩ := hB
              rw [ht] at hP1
              obtain ⟨z14, z15, rfl⟩ := hw
              obtain ⟨hP, hD⟩ := va_join (wr := [(a_o, .inr (11, [.ref a_h, .ref a_im, .ref a_ke, .ref a_k, .ref a_wa, .ref a_th, .ref a_ha, .ref a_wk, .ref a_r, .ref a_x, .int e_tl, .int e_fd, .int e_fpl, .ref a_wd, .int e_wn, .ref a_rf, .int e_lr])), (a_rf, .inl (G.2 0, 5, .inl f_rf))]) (w1 := [(a_h, .inr (1, [.long e_wa, .int e_le, .int e_st, .int e_fo, .int e_lc, .ref a_l, .ref a_g, .ref a_b, .ref a_s, .ref a_p, .ref a_w, .long e_gb, .ref a_bb])), (a_b, .inr (6, [.int 5, .int 24, .ref a_bn, .int e_b])), (a_bn, .inl (G.2 0, 120, .inl z14)), (a_bb, .inl (G.2 1, 24, .inr (.inl z15)))]) hP hD [5, 4, 2, 3] [0, 1] rfl rfl (by decide) (by decide) hk1 hFc hP1 hD1
              generalize H1 = H at hP hS ⊢
              have hP : va_P G.1 vwCl [(a_o, .inr (11, [.ref a_h, .ref a_im, .ref a_ke, .ref a_k, .ref a_wa, .ref a_th, .ref a_ha, .ref a_wk, .ref a_r, .ref a_x, .int e_tl, .int e_fd, .int e_fpl, .ref a_wd, .int e_wn, .ref a_rf, .int e_lr])), (a_rf, .inl (G.2 0, 5, .inl f_rf)), (a_h, .inr (1, [.long e_wa, .int e_le, .int e_st, .int e_fo, .int e_lc, .ref a_l, .ref a_g, .ref a_b, .ref a_s, .ref a_p, .ref a_w, .long e_gb, .ref a_bb])), (a_b, .inr (6, [.int 5, .int 24, .ref a_bn, .int e_b])), (a_bn, .inl (G.2 0, 120, .inl z14)), (a_bb, .inl (G.2 1, 24, .inr (.inl z15)))] H := hP
              have hD : va_D A [(a_o, .inr (11, [.ref a_h, .ref a_im, .ref a_ke, .ref a_k, .ref a_wa, .ref a_th, .ref a_ha, .ref a_wk, .ref a_r, .ref a_x, .int e_tl, .int e_fd, .int e_fpl, .ref a_wd, .int e_wn, .ref a_rf, .int e_lr])), (a_rf, .inl (G.2 0, 5, .inl f_rf)), (a_h, .inr (1, [.long e_wa, .int e_le, .int e_st, .int e_fo, .int e_lc, .ref a_l, .ref a_g, .ref a_b, .ref a_s, .ref a_p, .ref a_w, .long e_gb, .ref a_bb])), (a_b, .inr (6, [.int 5, .int 24, .ref a_bn, .int e_b])), (a_bn, .inl (G.2 0, 120, .inl z14)), (a_bb, .inl (G.2 1, 24, .inr (.inl z15)))] := hD
              refine lv_aload_n hx hb dX11_stay_68 rfl (lv_at hl 0 rfl) ?_
              refine lv_iconst (v := 0) hx hb dX11_stay_69 (by decide) ?_
              have hPc := hP.sub (ws' := [(a_o, .inr (11, [.ref a_h, .ref a_im, .ref a_ke, .ref a_k, .ref a_wa, .ref a_th, .ref a_ha, .ref a_wk, .ref a_r, .ref a_x, .int e_tl, .int e_fd, .int e_fpl, .ref a_wd, .int e_wn, .ref a_rf, .int e_lr]))]) [0] rfl
              have hDc := hD.sub (ws' := [(a_o, .inr (11, [.ref a_h, .ref a_im, .ref a_ke, .ref a_k, .ref a_wa, .ref a_th, .ref a_ha, .ref a_wk, .ref a_r, .ref a_x, .int e_tl, .int e_fd, .int e_fpl, .ref a_wd, .int e_wn, .ref a_rf, .int e_lr]))]) [0] (by decide) rfl
              have hFc := va_free (wc := [(a_o, .inr (11, [.ref a_h, .ref a_im, .ref a_ke, .ref a_k, .ref a_wa, .ref a_th, .ref a_ha, .ref a_wk, .ref a_r, .ref a_x, .int e_tl, .int e_fd, .int e_fpl, .ref a_wd, .int e_wn, .ref a_rf, .int e_lr]))]) hD hS hA [0] rfl
              refine va_calli (va_runV (As := [.int 0]) (rest := []) ⟨hx, hb, hml, hown, hts⟩ (x_done l G a_o a_h a_im a_ke a_k a_wa a_th a_ha a_wk a_r a_x a_wd a_rf H.size e_tl e_fd e_fpl e_wn e_lr 0 ⟨by omega, by omega⟩ ⟨by omega, by omega⟩) (cwV 1 hts gV_X11_121 rfl rfl rfl hv_X11_done ⟨Nat.le_of_ble_eq_true rfl, Nat.le_of_ble_eq_true rfl⟩) (g5_preV hPc hK hDc hN hT hS hFc (ci := 11) (q0 := 0) rfl rfl) rfl rfl hl.1 rfl (lv_room (Nat.le_of_ble_eq_true rfl)) dX11_stay_70 ⟨Nat.le_of_ble_eq_true rfl, Nat.le_of_ble_eq_true rfl⟩) hS (fun q _ h => hFc q h) hFc (fun r u t H1 locs ht hvm hw hB hz1 hk1 hS => ?_)
              obtain ⟨hP1, hD1⟩ := hB
              rw [ht] at hP1
              obtain ⟨rfl, rfl⟩ := hw
              obtain ⟨hP, hD⟩ := va_join (wr := [(a_rf, .inl (G.2 0, 5, .inl f_rf)), (a_h, .inr (1, [.long e_wa, .int e_le, .int e_st, .int e_fo, .int e_lc, .ref a_l, .ref a_g, .ref a_b, .ref a_s, .ref a_p, .ref a_w, .long e_gb, .ref a_bb])), (a_b, .inr (6, [.int 5, .int 24, .ref a_bn, .int e_b])), (a_bn, .inl (G.2 0, 120, .inl z14)), (a_bb, .inl (G.2 1, 24, .inr (.inl z15)))]) (w1 := [(a_o, .inr (11, [.ref a_h, .ref a_im, .ref a_ke, .ref a_k, .ref a_wa, .ref a_th, .ref a_ha, .ref a_wk, .ref a_r, .ref a_x, .int e_tl, .int e_fd, .int e_fpl, .ref a_wd, .int e_wn, .ref a_rf, .int 0]))]) hP hD [0] [1, 2, 3, 4, 5] rfl rfl (by decide) (by decide) hk1 hFc hP1 hD1
              generalize H1 = H at hP hS ⊢
              have hP : va_P G.1 vwCl [(a_rf, .inl (G.2 0, 5, .inl f_rf)), (a_h, .inr (1, [.long e_wa, .int e_le, .int e_st, .int e_fo, .int e_lc, .ref a_l, .ref a_g, .ref a_b, .ref a_s, .ref a_p, .ref a_w, .long e_gb, .ref a_bb])), (a_b, .inr (6, [.int 5, .int 24, .ref a_bn, .int e_b])), (a_bn, .inl (G.2 0, 120, .inl z14)), (a_bb, .inl (G.2 1, 24, .inr (.inl z15))), (a_o, .inr (11, [.ref a_h, .ref a_im, .ref a_ke, .ref a_k, .ref a_wa, .ref a_th, .ref a_ha, .ref a_wk, .ref a_r, .ref a_x, .int e_tl, .int e_fd, .int e_fpl, .ref a_wd, .int e_wn, .ref a_rf, .int 0]))] H := hP
              have hD : va_D A [(a_rf, .inl (G.2 0, 5, .inl f_rf)), (a_h, .inr (1, [.long e_wa, .int e_le, .int e_st, .int e_fo, .int e_lc, .ref a_l, .ref a_g, .ref a_b, .ref a_s, .ref a_p, .ref a_w, .long e_gb, .ref a_bb])), (a_b, .inr (6, [.int 5, .int 24, .ref a_bn, .int e_b])), (a_bn, .inl (G.2 0, 120, .inl z14)), (a_bb, .inl (G.2 1, 24, .inr (.inl z15))), (a_o, .inr (11, [.ref a_h, .ref a_im, .ref a_ke, .ref a_k, .ref a_wa, .ref a_th, .ref a_ha, .ref a_wk, .ref a_r, .ref a_x, .int e_tl, .int e_fd, .int e_fpl, .ref a_wd, .int e_wn, .ref a_rf, .int 0]))] := hD
              exact W.iret (v := 0) hx hb hr (fun t ht hW => ⟨⟨0, [(a_o, .inr (11, [.ref a_h, .ref a_im, .ref a_ke, .ref a_k, .ref a_wa, .ref a_th, .ref a_ha, .ref a_wk, .ref a_r, .ref a_x, .int e_tl, .int e_fd, .int e_fpl, .ref a_wd, .int e_wn, .ref a_rf, .int 0])), (a_rf, .inl (G.2 0, 5, .inl f_rf)), (a_h, .inr (1, [.long e_wa, .int e_le, .int e_st, .int e_fo, .int e_lc, .ref a_l, .ref a_g, .ref a_b, .ref a_s, .ref a_p, .ref a_w, .long e_gb, .ref a_bb])), (a_b, .inr (6, [.int 5, .int 24, .ref a_bn, .int e_b])), (a_bn, .inl (G.2 0, 120, .inl z14)), (a_bb, .inl (G.2 1, 24, .inr (.inl z15)))], rfl, ⟨0, 0, f_rf, z14, z15, rfl, rfl⟩, by rw [ht]; exact hP.sub [5, 0, 1, 2, 3, 4] rfl, hD.sub [5, 0, 1, 2, 3, 4] (by decide) rfl⟩, hS.F ht⟩) hS.2.2 dX11_stay_73
            ·
              exact absurd c_13 (by decide)
        ·
          exact absurd c_8 (by decide)
      ·
        have i_7 : p_b.toInt < 0 ∨ e_b.toInt ≤ p_b.toInt := i_7
        obtain ⟨hP, hD⟩ := va_join (wr := [(a_o, .inr (11, [.ref a_h, .ref a_im, .ref a_ke, .ref a_k, .ref a_wa, .ref a_th, .ref a_ha, .ref a_wk, .ref a_r, .ref a_x, .int e_tl, .int e_fd, .int e_fpl, .ref a_wd, .int e_wn, .ref a_rf, .int e_lr])), (a_rf, .inl (G.2 0, 5, .inl f_rf)), (a_h, .inr (1, [.long e_wa, .int e_le, .int e_st, .int e_fo, .int e_lc, .ref a_l, .ref a_g, .ref a_b, .ref a_s, .ref a_p, .ref a_w, .long e_gb, .ref a_bb])), (a_bn, .inl (G.2 0, 120, .inl f_b)), (a_bb, .inl (G.2 1, 24, .inr (.inl f_bb)))]) (w1 := [(a_b, .inr (6, [.int 5, .int 24, .ref a_bn, .int e_b]))]) hP hD [3] [0, 1, 2, 4, 5] rfl rfl (by decide) (by decide) hk1 hFc hP1 hD1
        generalize H1 = H at hP hS ⊢
        have hP : va_P G.1 vwCl [(a_o, .inr (11, [.ref a_h, .ref a_im, .ref a_ke, .ref a_k, .ref a_wa, .ref a_th, .ref a_ha, .ref a_wk, .ref a_r, .ref a_x, .int e_tl, .int e_fd, .int e_fpl, .ref a_wd, .int e_wn, .ref a_rf, .int e_lr])), (a_rf, .inl (G.2 0, 5, .inl f_rf)), (a_h, .inr (1, [.long e_wa, .int e_le, .int e_st, .int e_fo, .int e_lc, .ref a_l, .ref a_g, .ref a_b, .ref a_s, .ref a_p, .ref a_w, .long e_gb, .ref a_bb])), (a_bn, .inl (G.2 0, 120, .inl f_b)), (a_bb, .inl (G.2 1, 24, .inr (.inl f_bb))), (a_b, .inr (6, [.int 5, .int 24, .ref a_bn, .int e_b]))] H := hP
        have hD : va_D A [(a_o, .inr (11, [.ref a_h, .ref a_im, .ref a_ke, .ref a_k, .ref a_wa, .ref a_th, .ref a_ha, .ref a_wk, .ref a_r, .ref a_x, .int e_tl, .int e_fd, .int e_fpl, .ref a_wd, .int e_wn, .ref a_rf, .int e_lr])), (a_rf, .inl (G.2 0, 5, .inl f_rf)), (a_h, .inr (1, [.long e_wa, .int e_le, .int e_st, .int e_fo, .int e_lc, .ref a_l, .ref a_g, .ref a_b, .ref a_s, .ref a_p, .ref a_w, .long e_gb, .ref a_bb])), (a_bn, .inl (G.2 0, 120, .inl f_b)), (a_bb, .inl (G.2 1, 24, .inr (.inl f_bb))), (a_b, .inr (6, [.int 5, .int 24, .ref a_bn, .int e_b]))] := hD
        refine lv_if_ne (tgt := 37) hx hb dX11_stay_27 (by decide) (fun c_16 => ?_) (fun c_16 => ?_)
        ·
          exact absurd c_16 (by decide)
        ·
          refine lv_aload_n hx hb dX11_stay_30 rfl (lv_at hl 0 rfl) ?_
          refine lv_bipush (v := (-2)) hx hb dX11_stay_31 (by decide) ?_
          have hPc := hP.sub (ws' := [(a_o, .inr (11, [.ref a_h, .ref a_im, .ref a_ke, .ref a_k, .ref a_wa, .ref a_th, .ref a_ha, .ref a_wk, .ref a_r, .ref a_x, .int e_tl, .int e_fd, .int e_fpl, .ref a_wd, .int e_wn, .ref a_rf, .int e_lr])), (a_rf, .inl (G.2 0, 5, .inl f_rf))]) [0, 1] rfl
          have hDc := hD.sub (ws' := [(a_o, .inr (11, [.ref a_h, .ref a_im, .ref a_ke, .ref a_k, .ref a_wa, .ref a_th, .ref a_ha, .ref a_wk, .ref a_r, .ref a_x, .int e_tl, .int e_fd, .int e_fpl, .ref a_wd, .int e_wn, .ref a_rf, .int e_lr])), (a_rf, .inl (G.2 0, 5, .inl f_rf))]) [0, 1] (by decide) rfl
          have hFc := va_free (wc := [(a_o, .inr (11, [.ref a_h, .ref a_im, .ref a_ke, .ref a_k, .ref a_wa, .ref a_th, .ref a_ha, .ref a_wk, .ref a_r, .ref a_x, .int e_tl, .int e_fd, .int e_fpl, .ref a_wd, .int e_wn, .ref a_rf, .int e_lr])), (a_rf, .inl (G.2 0, 5, .inl f_rf))]) hD hS hA [0, 1] rfl
          refine va_calli (va_runV (As := [.int (-2)]) (rest := []) ⟨hx, hb, hml, hown, hts⟩ (x_refuse2 l G a_o a_rf a_h a_im a_ke a_k a_wa a_th a_ha a_wk a_r a_x a_wd H.size e_tl e_fd e_fpl e_wn e_lr f_rf ⟨by omega, by omega⟩ ⟨by omega, by omega⟩) (cwV 1 hts gV_X11_104 rfl rfl rfl hv_X11_refuse ⟨Nat.le_of_ble_eq_true rfl, Nat.le_of_ble_eq_true rfl⟩) (g5_preV hPc hK hDc hN hT hS hFc (ci := 11) (q0 := 0) rfl rfl) rfl rfl hl.1 rfl (lv_room (Nat.le_of_ble_eq_true rfl)) dX11_stay_33 ⟨Nat.le_of_ble_eq_true rfl, Nat.le_of_ble_eq_true rfl⟩) hS (fun q _ h => hFc q h) hFc (fun r u t H1 locs ht hvm hw hB hz1 hk1 hS => ?_)
          obtain ⟨hP1, hD1⟩ := hB
          rw [ht] at hP1
          obtain ⟨z17, rfl, rfl⟩ := hw
          obtain ⟨hP, hD⟩ := va_join (wr := [(a_h, .inr (1, [.long e_wa, .int e_le, .int e_st, .int e_fo, .int e_lc, .ref a_l, .ref a_g, .ref a_b, .ref a_s, .ref a_p, .ref a_w, .long e_gb, .ref a_bb])), (a_bn, .inl (G.2 0, 120, .inl f_b)), (a_bb, .inl (G.2 1, 24, .inr (.inl f_bb))), (a_b, .inr (6, [.int 5, .int 24, .ref a_bn, .int e_b]))]) (w1 := [(a_o, .inr (11, [.ref a_h, .ref a_im, .ref a_ke, .ref a_k, .ref a_wa, .ref a_th, .ref a_ha, .ref a_wk, .ref a_r, .ref a_x, .int e_tl, .int e_fd, .int e_fpl, .ref a_wd, .int e_wn, .ref a_rf, .int (-2)])), (a_rf, .inl (G.2 0, 5, .inl z17))]) hP hD [0, 1] [2, 3, 4, 5] rfl rfl (by decide) (by decide) hk1 hFc hP1 hD1
          generalize H1 = H at hP hS ⊢
          have hP : va_P G.1 vwCl [(a_h, .inr (1, [.long e_wa, .int e_le, .int e_st, .int e_fo, .int e_lc, .ref a_l, .ref a_g, .ref a_b, .ref a_s, .ref a_p, .ref a_w, .long e_gb, .ref a_bb])), (a_bn, .inl (G.2 0, 120, .inl f_b)), (a_bb, .inl (G.2 1, 24, .inr (.inl f_bb))), (a_b, .inr (6, [.int 5, .int 24, .ref a_bn, .int e_b])), (a_o, .inr (11, [.ref a_h, .ref a_im, .ref a_ke, .ref a_k, .ref a_wa, .ref a_th, .ref a_ha, .ref a_wk, .ref a_r, .ref a_x, .int e_tl, .int e_fd, .int e_fpl, .ref a_wd, .int e_wn, .ref a_rf, .int (-2)])), (a_rf, .inl (G.2 0, 5, .inl z17))] H := hP
          have hD : va_D A [(a_h, .inr (1, [.long e_wa, .int e_le, .int e_st, .int e_fo, .int e_lc, .ref a_l, .ref a_g, .ref a_b, .ref a_s, .ref a_p, .ref a_w, .long e_gb, .ref a_bb])), (a_bn, .inl (G.2 0, 120, .inl f_b)), (a_bb, .inl (G.2 1, 24, .inr (.inl f_bb))), (a_b, .inr (6, [.int 5, .int 24, .ref a_bn, .int e_b])), (a_o, .inr (11, [.ref a_h, .ref a_im, .ref a_ke, .ref a_k, .ref a_wa, .ref a_th, .ref a_ha, .ref a_wk, .ref a_r, .ref a_x, .int e_tl, .int e_fd, .int e_fpl, .ref a_wd, .int e_wn, .ref a_rf, .int (-2)])), (a_rf, .inl (G.2 0, 5, .inl z17))] := hD
          exact W.iret (v := (-2)) hx hb hr (fun t ht hW => ⟨⟨(-2), [(a_o, .inr (11, [.ref a_h, .ref a_im, .ref a_ke, .ref a_k, .ref a_wa, .ref a_th, .ref a_ha, .ref a_wk, .ref a_r, .ref a_x, .int e_tl, .int e_fd, .int e_fpl, .ref a_wd, .int e_wn, .ref a_rf, .int (-2)])), (a_rf, .inl (G.2 0, 5, .inl z17)), (a_h, .inr (1, [.long e_wa, .int e_le, .int e_st, .int e_fo, .int e_lc, .ref a_l, .ref a_g, .ref a_b, .ref a_s, .ref a_p, .ref a_w, .long e_gb, .ref a_bb])), (a_b, .inr (6, [.int 5, .int 24, .ref a_bn, .int e_b])), (a_bn, .inl (G.2 0, 120, .inl f_b)), (a_bb, .inl (G.2 1, 24, .inr (.inl f_bb)))], rfl, ⟨(-2), (-2), z17, f_b, f_bb, rfl, rfl⟩, by rw [ht]; exact hP.sub [4, 5, 0, 3, 1, 2] rfl, hD.sub [4, 5, 0, 3, 1, 2] (by decide) rfl⟩, hS.F ht⟩) hS.2.2 dX11_stay_36
    ·
      exact absurd c_5 (by decide)
  ·
    have hP := g5_same hP hk1
    generalize H1 = H at hP hS ⊢
    refine lv_if_ne (tgt := 16) hx hb dX11_stay_7 (by decide) (fun c_18 => ?_) (fun c_18 => ?_)
    ·
      exact absurd c_18 (by decide)
    ·
      refine lv_aload_n hx hb dX11_stay_10 rfl (lv_at hl 0 rfl) ?_
      refine lv_iconst (v := (-1)) hx hb dX11_stay_11 (by decide) ?_
      have hPc := hP.sub (ws' := [(a_o, .inr (11, [.ref a_h, .ref a_im, .ref a_ke, .ref a_k, .ref a_wa, .ref a_th, .ref a_ha, .ref a_wk, .ref a_r, .ref a_x, .int e_tl, .int e_fd, .int e_fpl, .ref a_wd, .int e_wn, .ref a_rf, .int e_lr])), (a_rf, .inl (G.2 0, 5, .inl f_rf))]) [0, 1] rfl
      have hDc := hD.sub (ws' := [(a_o, .inr (11, [.ref a_h, .ref a_im, .ref a_ke, .ref a_k, .ref a_wa, .ref a_th, .ref a_ha, .ref a_wk, .ref a_r, .ref a_x, .int e_tl, .int e_fd, .int e_fpl, .ref a_wd, .int e_wn, .ref a_rf, .int e_lr])), (a_rf, .inl (G.2 0, 5, .inl f_rf))]) [0, 1] (by decide) rfl
      have hFc := va_free (wc := [(a_o, .inr (11, [.ref a_h, .ref a_im, .ref a_ke, .ref a_k, .ref a_wa, .ref a_th, .ref a_ha, .ref a_wk, .ref a_r, .ref a_x, .int e_tl, .int e_fd, .int e_fpl, .ref a_wd, .int e_wn, .ref a_rf, .int e_lr])), (a_rf, .inl (G.2 0, 5, .inl f_rf))]) hD hS hA [0, 1] rfl
      refine va_calli (va_runV (As := [.int (-1)]) (rest := []) ⟨hx, hb, hml, hown, hts⟩ (x_refuse1 l G a_o a_rf a_h a_im a_ke a_k a_wa a_th a_ha a_wk a_r a_x a_wd H.size e_tl e_fd e_fpl e_wn e_lr f_rf ⟨by omega, by omega⟩ ⟨by omega, by omega⟩) (cwV 1 hts gV_X11_104 rfl rfl rfl hv_X11_refuse ⟨Nat.le_of_ble_eq_true rfl, Nat.le_of_ble_eq_true rfl⟩) (g5_preV hPc hK hDc hN hT hS hFc (ci := 11) (q0 := 0) rfl rfl) rfl rfl hl.1 rfl (lv_room (Nat.le_of_ble_eq_true rfl)) dX11_stay_12 ⟨Nat.le_of_ble_eq_true rfl, Nat.le_of_ble_eq_true rfl⟩) hS (fun q _ h => hFc q h) hFc (fun r u t H1 locs ht hvm hw hB hz1 hk1 hS => ?_)
      obtain ⟨hP1, hD1⟩ := hB
      rw [ht] at hP1
      obtain ⟨z19, rfl, rfl⟩ := hw
      obtain ⟨hP, hD⟩ := va_join (wr := [(a_h, .inr (1, [.long e_wa, .int e_le, .int e_st, .int e_fo, .int e_lc, .ref a_l, .ref a_g, .ref a_b, .ref a_s, .ref a_p, .ref a_w, .long e_gb, .ref a_bb])), (a_b, .inr (6, [.int 5, .int 24, .ref a_bn, .int e_b])), (a_bn, .inl (G.2 0, 120, .inl f_b)), (a_bb, .inl (G.2 1, 24, .inr (.inl f_bb)))]) (w1 := [(a_o, .inr (11, [.ref a_h, .ref a_im, .ref a_ke, .ref a_k, .ref a_wa, .ref a_th, .ref a_ha, .ref a_wk, .ref a_r, .ref a_x, .int e_tl, .int e_fd, .int e_fpl, .ref a_wd, .int e_wn, .ref a_rf, .int (-1)])), (a_rf, .inl (G.2 0, 5, .inl z19))]) hP hD [0, 1] [2, 3, 4, 5] rfl rfl (by decide) (by decide) hk1 hFc hP1 hD1
      generalize H1 = H at hP hS ⊢
      have hP : va_P G.1 vwCl [(a_h, .inr (1, [.long e_wa, .int e_le, .int e_st, .int e_fo, .int e_lc, .ref a_l, .ref a_g, .ref a_b, .ref a_s, .ref a_p, .ref a_w, .long e_gb, .ref a_bb])), (a_b, .inr (6, [.int 5, .int 24, .ref a_bn, .int e_b])), (a_bn, .inl (G.2 0, 120, .inl f_b)), (a_bb, .inl (G.2 1, 24, .inr (.inl f_bb))), (a_o, .inr (11, [.ref a_h, .ref a_im, .ref a_ke, .ref a_k, .ref a_wa, .ref a_th, .ref a_ha, .ref a_wk, .ref a_r, .ref a_x, .int e_tl, .int e_fd, .int e_fpl, .ref a_wd, .int e_wn, .ref a_rf, .int (-1)])), (a_rf, .inl (G.2 0, 5, .inl z19))] H := hP
      have hD : va_D A [(a_h, .inr (1, [.long e_wa, .int e_le, .int e_st, .int e_fo, .int e_lc, .ref a_l, .ref a_g, .ref a_b, .ref a_s, .ref a_p, .ref a_w, .long e_gb, .ref a_bb])), (a_b, .inr (6, [.int 5, .int 24, .ref a_bn, .int e_b])), (a_bn, .inl (G.2 0, 120, .inl f_b)), (a_bb, .inl (G.2 1, 24, .inr (.inl f_bb))), (a_o, .inr (11, [.ref a_h, .ref a_im, .ref a_ke, .ref a_k, .ref a_wa, .ref a_th, .ref a_ha, .ref a_wk, .ref a_r, .ref a_x, .int e_tl, .int e_fd, .int e_fpl, .ref a_wd, .int e_wn, .ref a_rf, .int (-1)])), (a_rf, .inl (G.2 0, 5, .inl z19))] := hD
      exact W.iret (v := (-1)) hx hb hr (fun t ht hW => ⟨⟨(-1), [(a_o, .inr (11, [.ref a_h, .ref a_im, .ref a_ke, .ref a_k, .ref a_wa, .ref a_th, .ref a_ha, .ref a_wk, .ref a_r, .ref a_x, .int e_tl, .int e_fd, .int e_fpl, .ref a_wd, .int e_wn, .ref a_rf, .int (-1)])), (a_rf, .inl (G.2 0, 5, .inl z19)), (a_h, .inr (1, [.long e_wa, .int e_le, .int e_st, .int e_fo, .int e_lc, .ref a_l, .ref a_g, .ref a_b, .ref a_s, .ref a_p, .ref a_w, .long e_gb, .ref a_bb])), (a_b, .inr (6, [.int 5, .int 24, .ref a_bn, .int e_b])), (a_bn, .inl (G.2 0, 120, .inl f_b)), (a_bb, .inl (G.2 1, 24, .inr (.inl f_bb)))], rfl, ⟨(-1), (-1), z19, f_b, f_bb, rfl, rfl⟩, by rw [ht]; exact hP.sub [4, 5, 0, 1, 2, 3] rfl, hD.sub [4, 5, 0, 1, 2, 3] (by decide) rfl⟩, hS.F ht⟩) hS.2.2 dX11_stay_15
theorem dX11_where_0 : decode cX11_where 0 = .ok (.aload_n 0, 1) := by decide +kernel
theorem dX11_where_1 : decode cX11_where 1 = .ok (.getfield 12, 3) := by decide +kernel
theorem dX11_where_4 : decode cX11_where 4 = .ok (.getfield 167, 3) := by decide +kernel
theorem dX11_where_7 : decode cX11_where 7 = .ok (.iload_n 1, 1) := by decide +kernel
theorem dX11_where_8 : decode cX11_where 8 = .ok (.iload_n 2, 1) := by decide +kernel
theorem dX11_where_9 : decode cX11_where 9 = .ok (.invokevirtual 163, 3) := by decide +kernel
theorem dX11_where_12 : decode cX11_where 12 = .ok (.ireturn, 1) := by decide +kernel
set_option maxHeartbeats 4000000 in
set_option maxRecDepth 100000 in
theorem x_where (l : Launch) (G : g5_G) (a_o a_h a_b a_bn a_im a_ke a_k a_wa a_th a_ha a_wk a_r a_x a_wd a_rf a_l a_g a_s a_p a_w a_bb : Nat) (sz : Nat) (e_tl : Int32) (e_fd : Int32) (e_fpl : Int32) (e_wn : Int32) (e_lr : Int32) (e_le : Int32) (e_st : Int32) (e_fo : Int32) (e_lc : Int32) (e_b : Int32) (p_b : Int32) (p_h : Int32) (e_wa : Int64) (e_gb : Int64) (f_b : Nat → Int32) (h_e_tl : 0 ≤ e_tl.toInt ∧ e_tl.toInt ≤ 400) (h_e_wn : 0 ≤ e_wn.toInt ∧ e_wn.toInt ≤ 1) (h_e_b : 0 ≤ e_b.toInt ∧ e_b.toInt ≤ 5) : Met l yX11_where (wsG yX11_where cX11_where 3 (some .int)) ({ frames := 1, cells := 0, slots := 0, locals := 22 }) (va_Pc [.ref a_o, .int p_b, .int p_h] (g5_P G [(a_o, .inr (11, [.ref a_h, .ref a_im, .ref a_ke, .ref a_k, .ref a_wa, .ref a_th, .ref a_ha, .ref a_wk, .ref a_r, .ref a_x, .int e_tl, .int e_fd, .int e_fpl, .ref a_wd, .int e_wn, .ref a_rf, .int e_lr])), (a_h, .inr (1, [.long e_wa, .int e_le, .int e_st, .int e_fo, .int e_lc, .ref a_l, .ref a_g, .ref a_b, .ref a_s, .ref a_p, .ref a_w, .long e_gb, .ref a_bb])), (a_b, .inr (6, [.int 5, .int 24, .ref a_bn, .int e_b])), (a_bn, .inl (G.2 0, 120, .inl f_b))] sz)) (va_Qi (fun (r : Int32) (u : va_W) => (∃ (o_r : Int32), (r = o_r) ∧ (u = [(a_o, .inr (11, [.ref a_h, .ref a_im, .ref a_ke, .ref a_k, .ref a_wa, .ref a_th, .ref a_ha, .ref a_wk, .ref a_r, .ref a_x, .int e_tl, .int e_fd, .int e_fpl, .ref a_wd, .int e_wn, .ref a_rf, .int e_lr])), (a_h, .inr (1, [.long e_wa, .int e_le, .int e_st, .int e_fo, .int e_lc, .ref a_l, .ref a_g, .ref a_b, .ref a_s, .ref a_p, .ref a_w, .long e_gb, .ref a_bb])), (a_b, .inr (6, [.int 5, .int 24, .ref a_bn, .int e_b])), (a_bn, .inl (G.2 0, 120, .inl f_b))]))) (g5_B G (va_A [(a_o, .inr (11, [.ref a_h, .ref a_im, .ref a_ke, .ref a_k, .ref a_wa, .ref a_th, .ref a_ha, .ref a_wk, .ref a_r, .ref a_x, .int e_tl, .int e_fd, .int e_fpl, .ref a_wd, .int e_wn, .ref a_rf, .int e_lr])), (a_h, .inr (1, [.long e_wa, .int e_le, .int e_st, .int e_fo, .int e_lc, .ref a_l, .ref a_g, .ref a_b, .ref a_s, .ref a_p, .ref a_w, .long e_gb, .ref a_bb])), (a_b, .inr (6, [.int 5, .int 24, .ref a_bn, .int e_b])), (a_bn, .inl (G.2 0, 120, .inl f_b))] sz)) (va_A [(a_o, .inr (11, [.ref a_h, .ref a_im, .ref a_ke, .ref a_k, .ref a_wa, .ref a_th, .ref a_ha, .ref a_wk, .ref a_r, .ref a_x, .int e_tl, .int e_fd, .int e_fpl, .ref a_wd, .int e_wn, .ref a_rf, .int e_lr])), (a_h, .inr (1, [.long e_wa, .int e_le, .int e_st, .int e_fo, .int e_lc, .ref a_l, .ref a_g, .ref a_b, .ref a_s, .ref a_p, .ref a_w, .long e_gb, .ref a_bb])), (a_b, .inr (6, [.int 5, .int 24, .ref a_bn, .int e_b])), (a_bn, .inl (G.2 0, 120, .inl f_b))] sz)) 0 0 (va_A [(a_o, .inr (11, [.ref a_h, .ref a_im, .ref a_ke, .ref a_k, .ref a_wa, .ref a_th, .ref a_ha, .ref a_wk, .ref a_r, .ref a_x, .int e_tl, .int e_fd, .int e_fpl, .ref a_wd, .int e_wn, .ref a_rf, .int e_lr])), (a_h, .inr (1, [.long e_wa, .int e_le, .int e_st, .int e_fo, .int e_lc, .ref a_l, .ref a_g, .ref a_b, .ref a_s, .ref a_p, .ref a_w, .long e_gb, .ref a_bb])), (a_b, .inr (6, [.int 5, .int 24, .ref a_bn, .int e_b])), (a_bn, .inl (G.2 0, 120, .inl f_b))] sz) := by
  refine Met.ofW (cc := cX11_where) (maxL := 3) (ret := (some .int)) (by decide) rfl ?_
  intro p e s m args below meth c s₁ B hml hv
  obtain ⟨rfl, hsz, hP, hK, hD0, hN, hT⟩ := hv
  have hx := B.exec
  have hb := B.bytes
  have hr := B.returns
  have hts : ∀ w ∈ tblG, w.before _ s = true := fun w h => atoms_spec (ws := (wsG yX11_where cX11_where 3 (some .int))) B.pre w (List.mem_cons_of_mem _ h)
  have hown : s.vm.findClass RX11 = some m.cls := findClass_of_methodNamed B.named
  have hlocks := B.notSynchronized
  subst hsz
  have hD := hD0.self (sz := s.heap.size)
  generalize hAe : va_A [(a_o, .inr (11, [.ref a_h, .ref a_im, .ref a_ke, .ref a_k, .ref a_wa, .ref a_th, .ref a_ha, .ref a_wk, .ref a_r, .ref a_x, .int e_tl, .int e_fd, .int e_fpl, .ref a_wd, .int e_wn, .ref a_rf, .int e_lr])), (a_h, .inr (1, [.long e_wa, .int e_le, .int e_st, .int e_fo, .int e_lc, .ref a_l, .ref a_g, .ref a_b, .ref a_s, .ref a_p, .ref a_w, .long e_gb, .ref a_bb])), (a_b, .inr (6, [.int 5, .int 24, .ref a_bn, .int e_b])), (a_bn, .inl (G.2 0, 120, .inl f_b))] s.heap.size = A at hD hT ⊢
  have hA : ∀ q : Nat, s.heap.size ≤ q → A q := fun q h => by rw [← hAe]; exact Or.inr h
  have hS : va_S A s.heap s.heap [] := va_S.rf
  have hP : va_P G.1 vwCl [(a_o, .inr (11, [.ref a_h, .ref a_im, .ref a_ke, .ref a_k, .ref a_wa, .ref a_th, .ref a_ha, .ref a_wk, .ref a_r, .ref a_x, .int e_tl, .int e_fd, .int e_fpl, .ref a_wd, .int e_wn, .ref a_rf, .int e_lr])), (a_h, .inr (1, [.long e_wa, .int e_le, .int e_st, .int e_fo, .int e_lc, .ref a_l, .ref a_g, .ref a_b, .ref a_s, .ref a_p, .ref a_w, .long e_gb, .ref a_bb])), (a_b, .inr (6, [.int 5, .int 24, .ref a_bn, .int e_b])), (a_bn, .inl (G.2 0, 120, .inl f_b))] s.heap := hP
  have hl := lv_entry ([.ref a_o, .int p_b, .int p_h]) (n := 3) (Nat.le_of_ble_eq_true rfl)
  rw [lg_entry_eq]
  generalize (lg_sl ([.ref a_o, .int p_b, .int p_h]) ++ List.replicate (3 - (lg_sl ([.ref a_o, .int p_b, .int p_h])).length) Slot.unset).toArray = ls at hl ⊢
  have hl : lv_has ls 3 [(0, .ref a_o), (1, .int p_b), (2, .int p_h)] := hl
  refine lv_aload_n hx hb dX11_where_0 rfl (lv_at hl 0 rfl) ?_
  refine va_get (D := G.1) (ci := 11) (v := .ref a_h) (C := RX11) (T := TX11) (N := 17) hx hb hts inG_X11 hown hK hP 0 rfl rfl 0 (by decide) (hts _ fl_X11_12) (fun _ h9 => h9) rfl dX11_where_1 ?_
  refine va_get (D := G.1) (ci := 1) (v := .ref a_b) (C := RX1) (T := TX1) (N := 13) hx hb hts inG_X1 hown hK hP 1 rfl rfl 7 (by decide) (hts _ fl_X11_167) (fun _ h9 => h9) rfl dX11_where_4 ?_
  refine lv_iload_n hx hb dX11_where_7 rfl (lv_at hl 1 rfl) ?_
  refine lv_iload_n hx hb dX11_where_8 rfl (lv_at hl 2 rfl) ?_
  have hPc := hP.sub (ws' := [(a_b, .inr (6, [.int 5, .int 24, .ref a_bn, .int e_b])), (a_bn, .inl (G.2 0, 120, .inl f_b))]) [2, 3] rfl
  have hDc := hD.sub (ws' := [(a_b, .inr (6, [.int 5, .int 24, .ref a_bn, .int e_b])), (a_bn, .inl (G.2 0, 120, .inl f_b))]) [2, 3] (by decide) rfl
  have hFc := va_free (wc := [(a_b, .inr (6, [.int 5, .int 24, .ref a_bn, .int e_b])), (a_bn, .inl (G.2 0, 120, .inl f_b))]) hD hS hA [2, 3] rfl
  refine va_calli (va_runV (As := [.int p_b, .int p_h]) (rest := []) ⟨hx, hb, hml, hown, hts⟩ (t_get_B l G a_b a_bn s.heap.size e_b p_b p_h f_b ⟨by omega, by omega⟩) (cwV 2 hts gV_X11_163 rfl rfl rfl hv_X6_get ⟨Nat.le_of_ble_eq_true rfl, Nat.le_of_ble_eq_true rfl⟩) (g5_preV hPc hK hDc hN hT hS hFc (ci := 6) (q0 := 0) rfl rfl) rfl rfl hl.1 rfl (lv_room (Nat.le_of_ble_eq_true rfl)) dX11_where_9 ⟨Nat.le_of_ble_eq_true rfl, Nat.le_of_ble_eq_true rfl⟩) hS (fun q _ h => hFc q h) hFc (fun r u t H1 locs ht hvm hw hB hz1 hk1 hS => ?_)
  obtain ⟨hP1, hD1⟩ := hB
  rw [ht] at hP1
  obtain ⟨z2, i_1, y3, rfl⟩ := hw
  have i_1 : z2 = tget f_b e_b.toInt 24 p_b.toInt p_h.toInt := i_1
  obtain ⟨hP, hD⟩ := va_join (wr := [(a_o, .inr (11, [.ref a_h, .ref a_im, .ref a_ke, .ref a_k, .ref a_wa, .ref a_th, .ref a_ha, .ref a_wk, .ref a_r, .ref a_x, .int e_tl, .int e_fd, .int e_fpl, .ref a_wd, .int e_wn, .ref a_rf, .int e_lr])), (a_h, .inr (1, [.long e_wa, .int e_le, .int e_st, .int e_fo, .int e_lc, .ref a_l, .ref a_g, .ref a_b, .ref a_s, .ref a_p, .ref a_w, .long e_gb, .ref a_bb]))]) (w1 := [(a_b, .inr (6, [.int 5, .int 24, .ref a_bn, .int e_b])), (a_bn, .inl (G.2 0, 120, .inl f_b))]) hP hD [2, 3] [0, 1] rfl rfl (by decide) (by decide) hk1 hFc hP1 hD1
  generalize H1 = H at hP hS ⊢
  have hP : va_P G.1 vwCl [(a_o, .inr (11, [.ref a_h, .ref a_im, .ref a_ke, .ref a_k, .ref a_wa, .ref a_th, .ref a_ha, .ref a_wk, .ref a_r, .ref a_x, .int e_tl, .int e_fd, .int e_fpl, .ref a_wd, .int e_wn, .ref a_rf, .int e_lr])), (a_h, .inr (1, [.long e_wa, .int e_le, .int e_st, .int e_fo, .int e_lc, .ref a_l, .ref a_g, .ref a_b, .ref a_s, .ref a_p, .ref a_w, .long e_gb, .ref a_bb])), (a_b, .inr (6, [.int 5, .int 24, .ref a_bn, .int e_b])), (a_bn, .inl (G.2 0, 120, .inl f_b))] H := hP
  have hD : va_D A [(a_o, .inr (11, [.ref a_h, .ref a_im, .ref a_ke, .ref a_k, .ref a_wa, .ref a_th, .ref a_ha, .ref a_wk, .ref a_r, .ref a_x, .int e_tl, .int e_fd, .int e_fpl, .ref a_wd, .int e_wn, .ref a_rf, .int e_lr])), (a_h, .inr (1, [.long e_wa, .int e_le, .int e_st, .int e_fo, .int e_lc, .ref a_l, .ref a_g, .ref a_b, .ref a_s, .ref a_p, .ref a_w, .long e_gb, .ref a_bb])), (a_b, .inr (6, [.int 5, .int 24, .ref a_bn, .int e_b])), (a_bn, .inl (G.2 0, 120, .inl f_b))] := hD
  refine g5_ti (v := z2) y3 ?_
  exact W.iret (v := z2) hx hb hr (fun t ht hW => ⟨⟨z2, [(a_o, .inr (11, [.ref a_h, .ref a_im, .ref a_ke, .ref a_k, .ref a_wa, .ref a_th, .ref a_ha, .ref a_wk, .ref a_r, .ref a_x, .int e_tl, .int e_fd, .int e_fpl, .ref a_wd, .int e_wn, .ref a_rf, .int e_lr])), (a_h, .inr (1, [.long e_wa, .int e_le, .int e_st, .int e_fo, .int e_lc, .ref a_l, .ref a_g, .ref a_b, .ref a_s, .ref a_p, .ref a_w, .long e_gb, .ref a_bb])), (a_b, .inr (6, [.int 5, .int 24, .ref a_bn, .int e_b])), (a_bn, .inl (G.2 0, 120, .inl f_b))], rfl, ⟨z2, rfl, rfl⟩, by rw [ht]; exact hP.sub [0, 1, 2, 3] rfl, hD.sub [0, 1, 2, 3] (by decide) rfl⟩, hS.F ht⟩) hS.2.2 dX11_where_12
theorem dX11_least_0 : decode cX11_least 0 = .ok (.iload_n 1, 1) := by decide +kernel
theorem dX11_least_1 : decode cX11_least 1 = .ok (.ifCond .lt 9, 3) := by decide +kernel
theorem dX11_least_4 : decode cX11_least 4 = .ok (.iload_n 1, 1) := by decide +kernel
theorem dX11_least_5 : decode cX11_least 5 = .ok (.ldc 181, 2) := by decide +kernel
theorem dX11_least_7 : decode cX11_least 7 = .ok (.if_icmp .le 9, 3) := by decide +kernel
theorem dX11_least_10 : decode cX11_least 10 = .ok (.aload_n 0, 1) := by decide +kernel
theorem dX11_least_11 : decode cX11_least 11 = .ok (.iconst (-1), 1) := by decide +kernel
theorem dX11_least_12 : decode cX11_least 12 = .ok (.invokevirtual 104, 3) := by decide +kernel
theorem dX11_least_15 : decode cX11_least 15 = .ok (.ireturn, 1) := by decide +kernel
theorem dX11_least_16 : decode cX11_least 16 = .ok (.aload_n 0, 1) := by decide +kernel
theorem dX11_least_17 : decode cX11_least 17 = .ok (.getfield 12, 3) := by decide +kernel
theorem dX11_least_20 : decode cX11_least 20 = .ok (.getfield 182, 3) := by decide +kernel
theorem dX11_least_23 : decode cX11_least 23 = .ok (.istore_n 2, 1) := by decide +kernel
theorem dX11_least_24 : decode cX11_least 24 = .ok (.aload_n 0, 1) := by decide +kernel
theorem dX11_least_25 : decode cX11_least 25 = .ok (.getfield 12, 3) := by decide +kernel
theorem dX11_least_28 : decode cX11_least 28 = .ok (.iload_n 1, 1) := by decide +kernel
theorem dX11_least_29 : decode cX11_least 29 = .ok (.putfield 182, 3) := by decide +kernel
theorem dX11_least_32 : decode cX11_least 32 = .ok (.aload_n 0, 1) := by decide +kernel
theorem dX11_least_33 : decode cX11_least 33 = .ok (.iload_n 2, 1) := by decide +kernel
theorem dX11_least_34 : decode cX11_least 34 = .ok (.invokevirtual 121, 3) := by decide +kernel
theorem dX11_least_37 : decode cX11_least 37 = .ok (.ireturn, 1) := by decide +kernel
theorem ki_X11_181 : Cond.constant RX11 181 1000000 ∈ tblG := tg 612 (by decide +kernel) (by decide +kernel)
theorem fl_X11_182 : Cond.fieldLink RX11 182 "LateGlass$House" "least" "I" ∈ tblG := tg 159 (by decide +kernel) (by decide +kernel)
set_option maxHeartbeats 4000000 in
set_option maxRecDepth 100000 in
theorem x_least (l : Launch) (G : g5_G) (a_o a_rf a_h a_im a_ke a_k a_wa a_th a_ha a_wk a_r a_x a_wd a_l a_g a_b a_s a_p a_w a_bb : Nat) (sz : Nat) (e_tl : Int32) (e_fd : Int32) (e_fpl : Int32) (e_wn : Int32) (e_lr : Int32) (e_le : Int32) (e_st : Int32) (e_fo : Int32) (e_lc : Int32) (p_v : Int32) (e_wa : Int64) (e_gb : Int64) (f_rf : Nat → Int32) (h_e_tl : 0 ≤ e_tl.toInt ∧ e_tl.toInt ≤ 400) (h_e_wn : 0 ≤ e_wn.toInt ∧ e_wn.toInt ≤ 1) : Met l yX11_least (wsG yX11_least cX11_least 3 (some .int)) ({ frames := 1, cells := 0, slots := 0, locals := 22 }) (va_Pc [.ref a_o, .int p_v] (g5_P G [(a_o, .inr (11, [.ref a_h, .ref a_im, .ref a_ke, .ref a_k, .ref a_wa, .ref a_th, .ref a_ha, .ref a_wk, .ref a_r, .ref a_x, .int e_tl, .int e_fd, .int e_fpl, .ref a_wd, .int e_wn, .ref a_rf, .int e_lr])), (a_rf, .inl (G.2 0, 5, .inl f_rf)), (a_h, .inr (1, [.long e_wa, .int e_le, .int e_st, .int e_fo, .int e_lc, .ref a_l, .ref a_g, .ref a_b, .ref a_s, .ref a_p, .ref a_w, .long e_gb, .ref a_bb]))] sz)) (va_Qi (fun (r : Int32) (u : va_W) => ((0 ≤ p_v.toInt ∧ p_v.toInt ≤ 1000000) ∧ (r = e_le) ∧ (u = [(a_o, .inr (11, [.ref a_h, .ref a_im, .ref a_ke, .ref a_k, .ref a_wa, .ref a_th, .ref a_ha, .ref a_wk, .ref a_r, .ref a_x, .int e_tl, .int e_fd, .int e_fpl, .ref a_wd, .int e_wn, .ref a_rf, .int 0])), (a_rf, .inl (G.2 0, 5, .inl f_rf)), (a_h, .inr (1, [.long e_wa, .int p_v, .int e_st, .int e_fo, .int e_lc, .ref a_l, .ref a_g, .ref a_b, .ref a_s, .ref a_p, .ref a_w, .long e_gb, .ref a_bb]))])) ∨ (∃ (o_rf : Nat → Int32), (p_v.toInt < 0 ∨ 1000000 < p_v.toInt) ∧ (r = (-1)) ∧ (u = [(a_o, .inr (11, [.ref a_h, .ref a_im, .ref a_ke, .ref a_k, .ref a_wa, .ref a_th, .ref a_ha, .ref a_wk, .ref a_r, .ref a_x, .int e_tl, .int e_fd, .int e_fpl, .ref a_wd, .int e_wn, .ref a_rf, .int (-1)])), (a_rf, .inl (G.2 0, 5, .inl o_rf)), (a_h, .inr (1, [.long e_wa, .int e_le, .int e_st, .int e_fo, .int e_lc, .ref a_l, .ref a_g, .ref a_b, .ref a_s, .ref a_p, .ref a_w, .long e_gb, .ref a_bb]))]))) (g5_B G (va_A [(a_o, .inr (11, [.ref a_h, .ref a_im, .ref a_ke, .ref a_k, .ref a_wa, .ref a_th, .ref a_ha, .ref a_wk, .ref a_r, .ref a_x, .int e_tl, .int e_fd, .int e_fpl, .ref a_wd, .int e_wn, .ref a_rf, .int e_lr])), (a_rf, .inl (G.2 0, 5, .inl f_rf)), (a_h, .inr (1, [.long e_wa, .int e_le, .int e_st, .int e_fo, .int e_lc, .ref a_l, .ref a_g, .ref a_b, .ref a_s, .ref a_p, .ref a_w, .long e_gb, .ref a_bb]))] sz)) (va_A [(a_o, .inr (11, [.ref a_h, .ref a_im, .ref a_ke, .ref a_k, .ref a_wa, .ref a_th, .ref a_ha, .ref a_wk, .ref a_r, .ref a_x, .int e_tl, .int e_fd, .int e_fpl, .ref a_wd, .int e_wn, .ref a_rf, .int e_lr])), (a_rf, .inl (G.2 0, 5, .inl f_rf)), (a_h, .inr (1, [.long e_wa, .int e_le, .int e_st, .int e_fo, .int e_lc, .ref a_l, .ref a_g, .ref a_b, .ref a_s, .ref a_p, .ref a_w, .long e_gb, .ref a_bb]))] sz)) 0 0 (va_A [(a_o, .inr (11, [.ref a_h, .ref a_im, .ref a_ke, .ref a_k, .ref a_wa, .ref a_th, .ref a_ha, .ref a_wk, .ref a_r, .ref a_x, .int e_tl, .int e_fd, .int e_fpl, .ref a_wd, .int e_wn, .ref a_rf, .int e_lr])), (a_rf, .inl (G.2 0, 5, .inl f_rf)), (a_h, .inr (1, [.long e_wa, .int e_le, .int e_st, .int e_fo, .int e_lc, .ref a_l, .ref a_g, .ref a_b, .ref a_s, .ref a_p, .ref a_w, .long e_gb, .ref a_bb]))] sz) := by
  refine Met.ofW (cc := cX11_least) (maxL := 3) (ret := (some .int)) (by decide) rfl ?_
  intro p e s m args below meth c s₁ B hml hv
  obtain ⟨rfl, hsz, hP, hK, hD0, hN, hT⟩ := hv
  have hx := B.exec
  have hb := B.bytes
  have hr := B.returns
  have hts : ∀ w ∈ tblG, w.before _ s = true := fun w h => atoms_spec (ws := (wsG yX11_least cX11_least 3 (some .int))) B.pre w (List.mem_cons_of_mem _ h)
  have hown : s.vm.findClass RX11 = some m.cls := findClass_of_methodNamed B.named
  have hlocks := B.notSynchronized
  subst hsz
  have hD := hD0.self (sz := s.heap.size)
  generalize hAe : va_A [(a_o, .inr (11, [.ref a_h, .ref a_im, .ref a_ke, .ref a_k, .ref a_wa, .ref a_th, .ref a_ha, .ref a_wk, .ref a_r, .ref a_x, .int e_tl, .int e_fd, .int e_fpl, .ref a_wd, .int e_wn, .ref a_rf, .int e_lr])), (a_rf, .inl (G.2 0, 5, .inl f_rf)), (a_h, .inr (1, [.long e_wa, .int e_le, .int e_st, .int e_fo, .int e_lc, .ref a_l, .ref a_g, .ref a_b, .ref a_s, .ref a_p, .ref a_w, .long e_gb, .ref a_bb]))] s.heap.size = A at hD hT ⊢
  have hA : ∀ q : Nat, s.heap.size ≤ q → A q := fun q h => by rw [← hAe]; exact Or.inr h
  have hS : va_S A s.heap s.heap [] := va_S.rf
  have hP : va_P G.1 vwCl [(a_o, .inr (11, [.ref a_h, .ref a_im, .ref a_ke, .ref a_k, .ref a_wa, .ref a_th, .ref a_ha, .ref a_wk, .ref a_r, .ref a_x, .int e_tl, .int e_fd, .int e_fpl, .ref a_wd, .int e_wn, .ref a_rf, .int e_lr])), (a_rf, .inl (G.2 0, 5, .inl f_rf)), (a_h, .inr (1, [.long e_wa, .int e_le, .int e_st, .int e_fo, .int e_lc, .ref a_l, .ref a_g, .ref a_b, .ref a_s, .ref a_p, .ref a_w, .long e_gb, .ref a_bb]))] s.heap := hP
  have hl := lv_entry ([.ref a_o, .int p_v]) (n := 3) (Nat.le_of_ble_eq_true rfl)
  rw [lg_entry_eq]
  generalize (lg_sl ([.ref a_o, .int p_v]) ++ List.replicate (3 - (lg_sl ([.ref a_o, .int p_v])).length) Slot.unset).toArray = ls at hl ⊢
  have hl : lv_has ls 3 [(0, .ref a_o), (1, .int p_v)] := hl
  refine lv_iload_n hx hb dX11_least_0 rfl (lv_at hl 1 rfl) ?_
  refine lv_if_lt (tgt := 10) hx hb dX11_least_1 (by decide) (fun c_1 => ?_) (fun c_1 => ?_)
  ·
    have i_1 : p_v.toInt < 0 := by have z := g5_lt (a := p_v.toInt) (b := 0) (by rfl) (by decide) c_1; omega
    refine lv_aload_n hx hb dX11_least_10 rfl (lv_at hl 0 rfl) ?_
    refine lv_iconst (v := (-1)) hx hb dX11_least_11 (by decide) ?_
    have hPc := hP.sub (ws' := [(a_o, .inr (11, [.ref a_h, .ref a_im, .ref a_ke, .ref a_k, .ref a_wa, .ref a_th, .ref a_ha, .ref a_wk, .ref a_r, .ref a_x, .int e_tl, .int e_fd, .int e_fpl, .ref a_wd, .int e_wn, .ref a_rf, .int e_lr])), (a_rf, .inl (G.2 0, 5, .inl f_rf))]) [0, 1] rfl
    have hDc := hD.sub (ws' := [(a_o, .inr (11, [.ref a_h, .ref a_im, .ref a_ke, .ref a_k, .ref a_wa, .ref a_th, .ref a_ha, .ref a_wk, .ref a_r, .ref a_x, .int e_tl, .int e_fd, .int e_fpl, .ref a_wd, .int e_wn, .ref a_rf, .int e_lr])), (a_rf, .inl (G.2 0, 5, .inl f_rf))]) [0, 1] (by decide) rfl
    have hFc := va_free (wc := [(a_o, .inr (11, [.ref a_h, .ref a_im, .ref a_ke, .ref a_k, .ref a_wa, .ref a_th, .ref a_ha, .ref a_wk, .ref a_r, .ref a_x, .int e_tl, .int e_fd, .int e_fpl, .ref a_wd, .int e_wn, .ref a_rf, .int e_lr])), (a_rf, .inl (G.2 0, 5, .inl f_rf))]) hD hS hA [0, 1] rfl
    refine va_calli (va_runV (As := [.int (-1)]) (rest := []) ⟨hx, hb, hml, hown, hts⟩ (x_refuse1 l G a_o a_rf a_h a_im a_ke a_k a_wa a_th a_ha a_wk a_r a_x a_wd s.heap.size e_tl e_fd e_fpl e_wn e_lr f_rf ⟨by omega, by omega⟩ ⟨by omega, by omega⟩) (cwV 1 hts gV_X11_104 rfl rfl rfl hv_X11_refuse ⟨Nat.le_of_ble_eq_true rfl, Nat.le_of_ble_eq_true rfl⟩) (g5_preV hPc hK hDc hN hT hS hFc (ci := 11) (q0 := 0) rfl rfl) rfl rfl hl.1 rfl (lv_room (Nat.le_of_ble_eq_true rfl)) dX11_least_12 ⟨Nat.le_of_ble_eq_true rfl, Nat.le_of_ble_eq_true rfl⟩) hS (fun q _ h => hFc q h) hFc (fun r u t H1 locs ht hvm hw hB hz1 hk1 hS => ?_)
    obtain ⟨hP1, hD1⟩ := hB
    rw [ht] at hP1
    obtain ⟨z2, rfl, rfl⟩ := hw
    obtain ⟨hP, hD⟩ := va_join (wr := [(a_h, .inr (1, [.long e_wa, .int e_le, .int e_st, .int e_fo, .int e_lc, .ref a_l, .ref a_g, .ref a_b, .ref a_s, .ref a_p, .ref a_w, .long e_gb, .ref a_bb]))]) (w1 := [(a_o, .inr (11, [.ref a_h, .ref a_im, .ref a_ke, .ref a_k, .ref a_wa, .ref a_th, .ref a_ha, .ref a_wk, .ref a_r, .ref a_x, .int e_tl, .int e_fd, .int e_fpl, .ref a_wd, .int e_wn, .ref a_rf, .int (-1)])), (a_rf, .inl (G.2 0, 5, .inl z2))]) hP hD [0, 1] [2] rfl rfl (by decide) (by decide) hk1 hFc hP1 hD1
    generalize H1 = H at hP hS ⊢
    have hP : va_P G.1 vwCl [(a_h, .inr (1, [.long e_wa, .int e_le, .int e_st, .int e_fo, .int e_lc, .ref a_l, .ref a_g, .ref a_b, .ref a_s, .ref a_p, .ref a_w, .long e_gb, .ref a_bb])), (a_o, .inr (11, [.ref a_h, .ref a_im, .ref a_ke, .ref a_k, .ref a_wa, .ref a_th, .ref a_ha, .ref a_wk, .ref a_r, .ref a_x, .int e_tl, .int e_fd, .int e_fpl, .ref a_wd, .int e_wn, .ref a_rf, .int (-1)])), (a_rf, .inl (G.2 0, 5, .inl z2))] H := hP
    have hD : va_D A [(a_h, .inr (1, [.long e_wa, .int e_le, .int e_st, .int e_fo, .int e_lc, .ref a_l, .ref a_g, .ref a_b, .ref a_s, .ref a_p, .ref a_w, .long e_gb, .ref a_bb])), (a_o, .inr (11, [.ref a_h, .ref a_im, .ref a_ke, .ref a_k, .ref a_wa, .ref a_th, .ref a_ha, .ref a_wk, .ref a_r, .ref a_x, .int e_tl, .int e_fd, .int e_fpl, .ref a_wd, .int e_wn, .ref a_rf, .int (-1)])), (a_rf, .inl (G.2 0, 5, .inl z2))] := hD
    exact W.iret (v := (-1)) hx hb hr (fun t ht hW => ⟨⟨(-1), [(a_o, .inr (11, [.ref a_h, .ref a_im, .ref a_ke, .ref a_k, .ref a_wa, .ref a_th, .ref a_ha, .ref a_wk, .ref a_r, .ref a_x, .int e_tl, .int e_fd, .int e_fpl, .ref a_wd, .int e_wn, .ref a_rf, .int (-1)])), (a_rf, .inl (G.2 0, 5, .inl z2)), (a_h, .inr (1, [.long e_wa, .int e_le, .int e_st, .int e_fo, .int e_lc, .ref a_l, .ref a_g, .ref a_b, .ref a_s, .ref a_p, .ref a_w, .long e_gb, .ref a_bb]))], rfl, Or.inr (⟨z2, by omega, rfl, rfl⟩), by rw [ht]; exact hP.sub [1, 2, 0] rfl, hD.sub [1, 2, 0] (by decide) rfl⟩, hS.F ht⟩) hS.2.2 dX11_least_15
  ·
    have i_1 : p_v.toInt ≥ 0 := by have z := g5_ltN (a := p_v.toInt) (b := 0) (by rfl) (by decide) c_1; omega
    refine lv_iload_n hx hb dX11_least_4 rfl (lv_at hl 1 rfl) ?_
    refine lv_ldc (v := 1000000) hx hb hown (hts _ ki_X11_181) dX11_least_5 ?_
    refine lv_icmp_le (tgt := 16) hx hb dX11_least_7 (by decide) (fun c_3 => ?_) (fun c_3 => ?_)
    ·
      have i_3 : p_v.toInt ≤ 1000000 := by have z := g5_le (a := p_v.toInt) (b := 1000000) (by rfl) (by decide) c_3; omega
      refine lv_aload_n hx hb dX11_least_16 rfl (lv_at hl 0 rfl) ?_
      refine va_get (D := G.1) (ci := 11) (v := .ref a_h) (C := RX11) (T := TX11) (N := 17) hx hb hts inG_X11 hown hK hP 0 rfl rfl 0 (by decide) (hts _ fl_X11_12) (fun _ h9 => h9) rfl dX11_least_17 ?_
      refine va_get (D := G.1) (ci := 1) (v := .int e_le) (C := RX1) (T := TX1) (N := 13) hx hb hts inG_X1 hown hK hP 2 rfl rfl 1 (by decide) (hts _ fl_X11_182) (fun _ h9 => h9) rfl dX11_least_20 ?_
      refine lv_istore_n (lv' := [(2, .int e_le), (0, .ref a_o), (1, .int p_v)]) hx hb dX11_least_23 rfl hl (by decide) rfl (fun ls hl => ?_)
      refine lv_aload_n hx hb dX11_least_24 rfl (lv_at hl 1 rfl) ?_
      refine va_get (D := G.1) (ci := 11) (v := .ref a_h) (C := RX11) (T := TX11) (N := 17) hx hb hts inG_X11 hown hK hP 0 rfl rfl 0 (by decide) (hts _ fl_X11_12) (fun _ h9 => h9) rfl dX11_least_25 ?_
      refine lv_iload_n hx hb dX11_least_28 rfl (lv_at hl 2 rfl) ?_
      refine va_put (D := G.1) (ci := 1) (v := .int p_v) (ty := .int) (C := RX1) (T := TX1) (N := 13) hx hb hts inG_X1 tyX1 tyX1_ok nmX1 hown hK hP hD hS 2 rfl rfl 1 (by decide) (hts _ fl_X11_182) (fun _ h9 => h9) rfl (by decide +kernel) rfl rfl (Nat.le_of_ble_eq_true rfl) dX11_least_29 (fun H locs hP hD hS => ?_)
      have hP : va_P G.1 vwCl [(a_o, .inr (11, [.ref a_h, .ref a_im, .ref a_ke, .ref a_k, .ref a_wa, .ref a_th, .ref a_ha, .ref a_wk, .ref a_r, .ref a_x, .int e_tl, .int e_fd, .int e_fpl, .ref a_wd, .int e_wn, .ref a_rf, .int e_lr])), (a_rf, .inl (G.2 0, 5, .inl f_rf)), (a_h, .inr (1, [.long e_wa, .int p_v, .int e_st, .int e_fo, .int e_lc, .ref a_l, .ref a_g, .ref a_b, .ref a_s, .ref a_p, .ref a_w, .long e_gb, .ref a_bb]))] H := hP
      have hD : va_D A [(a_o, .inr (11, [.ref a_h, .ref a_im, .ref a_ke, .ref a_k, .ref a_wa, .ref a_th, .ref a_ha, .ref a_wk, .ref a_r, .ref a_x, .int e_tl, .int e_fd, .int e_fpl, .ref a_wd, .int e_wn, .ref a_rf, .int e_lr])), (a_rf, .inl (G.2 0, 5, .inl f_rf)), (a_h, .inr (1, [.long e_wa, .int p_v, .int e_st, .int e_fo, .int e_lc, .ref a_l, .ref a_g, .ref a_b, .ref a_s, .ref a_p, .ref a_w, .long e_gb, .ref a_bb]))] := hD
      refine lv_aload_n hx hb dX11_least_32 rfl (lv_at hl 1 rfl) ?_
      refine lv_iload_n hx hb dX11_least_33 rfl (lv_at hl 0 rfl) ?_
      have hPc := hP.sub (ws' := [(a_o, .inr (11, [.ref a_h, .ref a_im, .ref a_ke, .ref a_k, .ref a_wa, .ref a_th, .ref a_ha, .ref a_wk, .ref a_r, .ref a_x, .int e_tl, .int e_fd, .int e_fpl, .ref a_wd, .int e_wn, .ref a_rf, .int e_lr]))]) [0] rfl
      have hDc := hD.sub (ws' := [(a_o, .inr (11, [.ref a_h, .ref a_im, .ref a_ke, .ref a_k, .ref a_wa, .ref a_th, .ref a_ha, .ref a_wk, .ref a_r, .ref a_x, .int e_tl, .int e_fd, .int e_fpl, .ref a_wd, .int e_wn, .ref a_rf, .int e_lr]))]) [0] (by decide) rfl
      have hFc := va_free (wc := [(a_o, .inr (11, [.ref a_h, .ref a_im, .ref a_ke, .ref a_k, .ref a_wa, .ref a_th, .ref a_ha, .ref a_wk, .ref a_r, .ref a_x, .int e_tl, .int e_fd, .int e_fpl, .ref a_wd, .int e_wn, .ref a_rf, .int e_lr]))]) hD hS hA [0] rfl
      refine va_calli (va_runV (As := [.int e_le]) (rest := []) ⟨hx, hb, hml, hown, hts⟩ (x_done l G a_o a_h a_im a_ke a_k a_wa a_th a_ha a_wk a_r a_x a_wd a_rf H.size e_tl e_fd e_fpl e_wn e_lr e_le ⟨by omega, by omega⟩ ⟨by omega, by omega⟩) (cwV 1 hts gV_X11_121 rfl rfl rfl hv_X11_done ⟨Nat.le_of_ble_eq_true rfl, Nat.le_of_ble_eq_true rfl⟩) (g5_preV hPc hK hDc hN hT hS hFc (ci := 11) (q0 := 0) rfl rfl) rfl rfl hl.1 rfl (lv_room (Nat.le_of_ble_eq_true rfl)) dX11_least_34 ⟨Nat.le_of_ble_eq_true rfl, Nat.le_of_ble_eq_true rfl⟩) hS (fun q _ h => hFc q h) hFc (fun r u t H1 locs ht hvm hw hB hz1 hk1 hS => ?_)
      obtain ⟨hP1, hD1⟩ := hB
      rw [ht] at hP1
      obtain ⟨y4, rfl⟩ := hw
      obtain ⟨hP, hD⟩ := va_join (wr := [(a_rf, .inl (G.2 0, 5, .inl f_rf)), (a_h, .inr (1, [.long e_wa, .int p_v, .int e_st, .int e_fo, .int e_lc, .ref a_l, .ref a_g, .ref a_b, .ref a_s, .ref a_p, .ref a_w, .long e_gb, .ref a_bb]))]) (w1 := [(a_o, .inr (11, [.ref a_h, .ref a_im, .ref a_ke, .ref a_k, .ref a_wa, .ref a_th, .ref a_ha, .ref a_wk, .ref a_r, .ref a_x, .int e_tl, .int e_fd, .int e_fpl, .ref a_wd, .int e_wn, .ref a_rf, .int 0]))]) hP hD [0] [1, 2] rfl rfl (by decide) (by decide) hk1 hFc hP1 hD1
      generalize H1 = H at hP hS ⊢
      have hP : va_P G.1 vwCl [(a_rf, .inl (G.2 0, 5, .inl f_rf)), (a_h, .inr (1, [.long e_wa, .int p_v, .int e_st, .int e_fo, .int e_lc, .ref a_l, .ref a_g, .ref a_b, .ref a_s, .ref a_p, .ref a_w, .long e_gb, .ref a_bb])), (a_o, .inr (11, [.ref a_h, .ref a_im, .ref a_ke, .ref a_k, .ref a_wa, .ref a_th, .ref a_ha, .ref a_wk, .ref a_r, .ref a_x, .int e_tl, .int e_fd, .int e_fpl, .ref a_wd, .int e_wn, .ref a_rf, .int 0]))] H := hP
      have hD : va_D A [(a_rf, .inl (G.2 0, 5, .inl f_rf)), (a_h, .inr (1, [.long e_wa, .int p_v, .int e_st, .int e_fo, .int e_lc, .ref a_l, .ref a_g, .ref a_b, .ref a_s, .ref a_p, .ref a_w, .long e_gb, .ref a_bb])), (a_o, .inr (11, [.ref a_h, .ref a_im, .ref a_ke, .ref a_k, .ref a_wa, .ref a_th, .ref a_ha, .ref a_wk, .ref a_r, .ref a_x, .int e_tl, .int e_fd, .int e_fpl, .ref a_wd, .int e_wn, .ref a_rf, .int 0]))] := hD
      refine g5_ti (v := e_le) y4 ?_
      exact W.iret (v := e_le) hx hb hr (fun t ht hW => ⟨⟨e_le, [(a_o, .inr (11, [.ref a_h, .ref a_im, .ref a_ke, .ref a_k, .ref a_wa, .ref a_th, .ref a_ha, .ref a_wk, .ref a_r, .ref a_x, .int e_tl, .int e_fd, .int e_fpl, .ref a_wd, .int e_wn, .ref a_rf, .int 0])), (a_rf, .inl (G.2 0, 5, .inl f_rf)), (a_h, .inr (1, [.long e_wa, .int p_v, .int e_st, .int e_fo, .int e_lc, .ref a_l, .ref a_g, .ref a_b, .ref a_s, .ref a_p, .ref a_w, .long e_gb, .ref a_bb]))], rfl, Or.inl (⟨by omega, rfl, rfl⟩), by rw [ht]; exact hP.sub [2, 0, 1] rfl, hD.sub [2, 0, 1] (by decide) rfl⟩, hS.F ht⟩) hS.2.2 dX11_least_37
    ·
      have i_3 : p_v.toInt > 1000000 := by have z := g5_leN (a := p_v.toInt) (b := 1000000) (by rfl) (by decide) c_3; omega
      refine lv_aload_n hx hb dX11_least_10 rfl (lv_at hl 0 rfl) ?_
      refine lv_iconst (v := (-1)) hx hb dX11_least_11 (by decide) ?_
      have hPc := hP.sub (ws' := [(a_o, .inr (11, [.ref a_h, .ref a_im, .ref a_ke, .ref a_k, .ref a_wa, .ref a_th, .ref a_ha, .ref a_wk, .ref a_r, .ref a_x, .int e_tl, .int e_fd, .int e_fpl, .ref a_wd, .int e_wn, .ref a_rf, .int e_lr])), (a_rf, .inl (G.2 0, 5, .inl f_rf))]) [0, 1] rfl
      have hDc := hD.sub (ws' := [(a_o, .inr (11, [.ref a_h, .ref a_im, .ref a_ke, .ref a_k, .ref a_wa, .ref a_th, .ref a_ha, .ref a_wk, .ref a_r, .ref a_x, .int e_tl, .int e_fd, .int e_fpl, .ref a_wd, .int e_wn, .ref a_rf, .int e_lr])), (a_rf, .inl (G.2 0, 5, .inl f_rf))]) [0, 1] (by decide) rfl
      have hFc := va_free (wc := [(a_o, .inr (11, [.ref a_h, .ref a_im, .ref a_ke, .ref a_k, .ref a_wa, .ref a_th, .ref a_ha, .ref a_wk, .ref a_r, .ref a_x, .int e_tl, .int e_fd, .int e_fpl, .ref a_wd, .int e_wn, .ref a_rf, .int e_lr])), (a_rf, .inl (G.2 0, 5, .inl f_rf))]) hD hS hA [0, 1] rfl
      refine va_calli (va_runV (As := [.int (-1)]) (rest := []) ⟨hx, hb, hml, hown, hts⟩ (x_refuse1 l G a_o a_rf a_h a_im a_ke a_k a_wa a_th a_ha a_wk a_r a_x a_wd s.heap.size e_tl e_fd e_fpl e_wn e_lr f_rf ⟨by omega, by omega⟩ ⟨by omega, by omega⟩) (cwV 1 hts gV_X11_104 rfl rfl rfl hv_X11_refuse ⟨Nat.le_of_ble_eq_true rfl, Nat.le_of_ble_eq_true rfl⟩) (g5_preV hPc hK hDc hN hT hS hFc (ci := 11) (q0 := 0) rfl rfl) rfl rfl hl.1 rfl (lv_room (Nat.le_of_ble_eq_true rfl)) dX11_least_12 ⟨Nat.le_of_ble_eq_true rfl, Nat.le_of_ble_eq_true rfl⟩) hS (fun q _ h => hFc q h) hFc (fun r u t H1 locs ht hvm hw hB hz1 hk1 hS => ?_)
      obtain ⟨hP1, hD1⟩ := hB
      rw [ht] at hP1
      obtain ⟨z5, rfl, rfl⟩ := hw
      obtain ⟨hP, hD⟩ := va_join (wr := [(a_h, .inr (1, [.long e_wa, .int e_le, .int e_st, .int e_fo, .int e_lc, .ref a_l, .ref a_g, .ref a_b, .ref a_s, .ref a_p, .ref a_w, .long e_gb, .ref a_bb]))]) (w1 := [(a_o, .inr (11, [.ref a_h, .ref a_im, .ref a_ke, .ref a_k, .ref a_wa, .ref a_th, .ref a_ha, .ref a_wk, .ref a_r, .ref a_x, .int e_tl, .int e_fd, .int e_fpl, .ref a_wd, .int e_wn, .ref a_rf, .int (-1)])), (a_rf, .inl (G.2 0, 5, .inl z5))]) hP hD [0, 1] [2] rfl rfl (by decide) (by decide) hk1 hFc hP1 hD1
      generalize H1 = H at hP hS ⊢
      have hP : va_P G.1 vwCl [(a_h, .inr (1, [.long e_wa, .int e_le, .int e_st, .int e_fo, .int e_lc, .ref a_l, .ref a_g, .ref a_b, .ref a_s, .ref a_p, .ref a_w, .long e_gb, .ref a_bb])), (a_o, .inr (11, [.ref a_h, .ref a_im, .ref a_ke, .ref a_k, .ref a_wa, .ref a_th, .ref a_ha, .ref a_wk, .ref a_r, .ref a_x, .int e_tl, .int e_fd, .int e_fpl, .ref a_wd, .int e_wn, .ref a_rf, .int (-1)])), (a_rf, .inl (G.2 0, 5, .inl z5))] H := hP
      have hD : va_D A [(a_h, .inr (1, [.long e_wa, .int e_le, .int e_st, .int e_fo, .int e_lc, .ref a_l, .ref a_g, .ref a_b, .ref a_s, .ref a_p, .ref a_w, .long e_gb, .ref a_bb])), (a_o, .inr (11, [.ref a_h, .ref a_im, .ref a_ke, .ref a_k, .ref a_wa, .ref a_th, .ref a_ha, .ref a_wk, .ref a_r, .ref a_x, .int e_tl, .int e_fd, .int e_fpl, .ref a_wd, .int e_wn, .ref a_rf, .int (-1)])), (a_rf, .inl (G.2 0, 5, .inl z5))] := hD
      exact W.iret (v := (-1)) hx hb hr (fun t ht hW => ⟨⟨(-1), [(a_o, .inr (11, [.ref a_h, .ref a_im, .ref a_ke, .ref a_k, .ref a_wa, .ref a_th, .ref a_ha, .ref a_wk, .ref a_r, .ref a_x, .int e_tl, .int e_fd, .int e_fpl, .ref a_wd, .int e_wn, .ref a_rf, .int (-1)])), (a_rf, .inl (G.2 0, 5, .inl z5)), (a_h, .inr (1, [.long e_wa, .int e_le, .int e_st, .int e_fo, .int e_lc, .ref a_l, .ref a_g, .ref a_b, .ref a_s, .ref a_p, .ref a_w, .long e_gb, .ref a_bb]))], rfl, Or.inr (⟨z5, by omega, rfl, rfl⟩), by rw [ht]; exact hP.sub [1, 2, 0] rfl, hD.sub [1, 2, 0] (by decide) rfl⟩, hS.F ht⟩) hS.2.2 dX11_least_15
theorem dX11_write_0 : decode cX11_write 0 = .ok (.bipush 24, 2) := by decide +kernel
theorem dX11_write_2 : decode cX11_write 2 = .ok (.istore_n 2, 1) := by decide +kernel
theorem dX11_write_3 : decode cX11_write 3 = .ok (.iload_n 2, 1) := by decide +kernel
theorem dX11_write_4 : decode cX11_write 4 = .ok (.ifCond .lt 47, 3) := by decide +kernel
theorem dX11_write_7 : decode cX11_write 7 = .ok (.aload_n 0, 1) := by decide +kernel
theorem dX11_write_8 : decode cX11_write 8 = .ok (.getfield 74, 3) := by decide +kernel
theorem dX11_write_11 : decode cX11_write 11 = .ok (.aload_n 0, 1) := by decide +kernel
theorem dX11_write_12 : decode cX11_write 12 = .ok (.getfield 70, 3) := by decide +kernel
theorem dX11_write_15 : decode cX11_write 15 = .ok (.arraylength, 1) := by decide +kernel
theorem dX11_write_16 : decode cX11_write 16 = .ok (.if_icmp .ge 35, 3) := by decide +kernel
theorem dX11_write_19 : decode cX11_write 19 = .ok (.aload_n 0, 1) := by decide +kernel
theorem dX11_write_20 : decode cX11_write 20 = .ok (.getfield 70, 3) := by decide +kernel
theorem dX11_write_23 : decode cX11_write 23 = .ok (.aload_n 0, 1) := by decide +kernel
theorem dX11_write_24 : decode cX11_write 24 = .ok (.getfield 74, 3) := by decide +kernel
theorem dX11_write_27 : decode cX11_write 27 = .ok (.iload_n 1, 1) := by decide +kernel
theorem dX11_write_28 : decode cX11_write 28 = .ok (.iload_n 2, 1) := by decide +kernel
theorem dX11_write_29 : decode cX11_write 29 = .ok (.iushr, 1) := by decide +kernel
theorem dX11_write_30 : decode cX11_write 30 = .ok (.sipush 255, 3) := by decide +kernel
theorem dX11_write_33 : decode cX11_write 33 = .ok (.iand, 1) := by decide +kernel
theorem dX11_write_34 : decode cX11_write 34 = .ok (.iastore, 1) := by decide +kernel
theorem dX11_write_35 : decode cX11_write 35 = .ok (.aload_n 0, 1) := by decide +kernel
theorem dX11_write_36 : decode cX11_write 36 = .ok (.dup, 1) := by decide +kernel
theorem dX11_write_37 : decode cX11_write 37 = .ok (.getfield 74, 3) := by decide +kernel
theorem dX11_write_40 : decode cX11_write 40 = .ok (.iconst 1, 1) := by decide +kernel
theorem dX11_write_41 : decode cX11_write 41 = .ok (.iadd, 1) := by decide +kernel
theorem dX11_write_42 : decode cX11_write 42 = .ok (.putfield 74, 3) := by decide +kernel
theorem dX11_write_45 : decode cX11_write 45 = .ok (.iinc 2 (-8), 3) := by decide +kernel
theorem dX11_write_48 : decode cX11_write 48 = .ok (.goto (-45), 3) := by decide +kernel
theorem dX11_write_51 : decode cX11_write 51 = .ok (.return_, 1) := by decide +kernel
theorem fl_X11_74 : Cond.fieldLink RX11 74 "LateGlass" "tapeLength" "I" ∈ tblG := tg 454 (by decide +kernel) (by decide +kernel)
theorem fl_X11_70 : Cond.fieldLink RX11 70 "LateGlass" "tape" "[I" ∈ tblG := tg 453 (by decide +kernel) (by decide +kernel)
set_option maxHeartbeats 4000000 in
set_option maxRecDepth 100000 in
theorem x_write (l : Launch) (G : g5_G) (a_o a_x a_h a_im a_ke a_k a_wa a_th a_ha a_wk a_r a_wd a_rf : Nat) (sz : Nat) (e_tl : Int32) (e_fd : Int32) (e_fpl : Int32) (e_wn : Int32) (e_lr : Int32) (p_v : Int32) (f_x : Nat → Int32) (h_e_tl : 0 ≤ e_tl.toInt ∧ e_tl.toInt ≤ 400) (h_e_wn : 0 ≤ e_wn.toInt ∧ e_wn.toInt ≤ 1) (e_tf : e_tl.toInt ≤ 396) : Met l yX11_write (wsG yX11_write cX11_write 3 none) ({ frames := 0, cells := 0, slots := 0, locals := 0 }) (va_Pc [.ref a_o, .int p_v] (g5_P G [(a_o, .inr (11, [.ref a_h, .ref a_im, .ref a_ke, .ref a_k, .ref a_wa, .ref a_th, .ref a_ha, .ref a_wk, .ref a_r, .ref a_x, .int e_tl, .int e_fd, .int e_fpl, .ref a_wd, .int e_wn, .ref a_rf, .int e_lr])), (a_x, .inl (G.2 0, 400, .inl f_x))] sz)) (va_Qv (fun (u : va_W) => (∃ (o_t : Int32) (o_x : Nat → Int32), (o_t.toInt = e_tl.toInt + 4) ∧ (u = [(a_o, .inr (11, [.ref a_h, .ref a_im, .ref a_ke, .ref a_k, .ref a_wa, .ref a_th, .ref a_ha, .ref a_wk, .ref a_r, .ref a_x, .int o_t, .int e_fd, .int e_fpl, .ref a_wd, .int e_wn, .ref a_rf, .int e_lr])), (a_x, .inl (G.2 0, 400, .inl o_x))]))) (g5_B G (va_A [(a_o, .inr (11, [.ref a_h, .ref a_im, .ref a_ke, .ref a_k, .ref a_wa, .ref a_th, .ref a_ha, .ref a_wk, .ref a_r, .ref a_x, .int e_tl, .int e_fd, .int e_fpl, .ref a_wd, .int e_wn, .ref a_rf, .int e_lr])), (a_x, .inl (G.2 0, 400, .inl f_x))] sz)) (va_A [(a_o, .inr (11, [.ref a_h, .ref a_im, .ref a_ke, .ref a_k, .ref a_wa, .ref a_th, .ref a_ha, .ref a_wk, .ref a_r, .ref a_x, .int e_tl, .int e_fd, .int e_fpl, .ref a_wd, .int e_wn, .ref a_rf, .int e_lr])), (a_x, .inl (G.2 0, 400, .inl f_x))] sz)) 0 0 (va_A [(a_o, .inr (11, [.ref a_h, .ref a_im, .ref a_ke, .ref a_k, .ref a_wa, .ref a_th, .ref a_ha, .ref a_wk, .ref a_r, .ref a_x, .int e_tl, .int e_fd, .int e_fpl, .ref a_wd, .int e_wn, .ref a_rf, .int e_lr])), (a_x, .inl (G.2 0, 400, .inl f_x))] sz) := by
  refine Met.ofW (cc := cX11_write) (maxL := 3) (ret := none) (by decide) rfl ?_
  intro p e s m args below meth c s₁ B hml hv
  obtain ⟨rfl, hsz, hP, hK, hD0, hN, hT⟩ := hv
  have hx := B.exec
  have hb := B.bytes
  have hr := B.returns
  have hts : ∀ w ∈ tblG, w.before _ s = true := fun w h => atoms_spec (ws := (wsG yX11_write cX11_write 3 none)) B.pre w (List.mem_cons_of_mem _ h)
  have hown : s.vm.findClass RX11 = some m.cls := findClass_of_methodNamed B.named
  have hlocks := B.notSynchronized
  subst hsz
  have hD := hD0.self (sz := s.heap.size)
  generalize hAe : va_A [(a_o, .inr (11, [.ref a_h, .ref a_im, .ref a_ke, .ref a_k, .ref a_wa, .ref a_th, .ref a_ha, .ref a_wk, .ref a_r, .ref a_x, .int e_tl, .int e_fd, .int e_fpl, .ref a_wd, .int e_wn, .ref a_rf, .int e_lr])), (a_x, .inl (G.2 0, 400, .inl f_x))] s.heap.size = A at hD hT ⊢
  have hA : ∀ q : Nat, s.heap.size ≤ q → A q := fun q h => by rw [← hAe]; exact Or.inr h
  have hS : va_S A s.heap s.heap [] := va_S.rf
  have hP : va_P G.1 vwCl [(a_o, .inr (11, [.ref a_h, .ref a_im, .ref a_ke, .ref a_k, .ref a_wa, .ref a_th, .ref a_ha, .ref a_wk, .ref a_r, .ref a_x, .int e_tl, .int e_fd, .int e_fpl, .ref a_wd, .int e_wn, .ref a_rf, .int e_lr])), (a_x, .inl (G.2 0, 400, .inl f_x))] s.heap := hP
  have hl := lv_entry ([.ref a_o, .int p_v]) (n := 3) (Nat.le_of_ble_eq_true rfl)
  rw [lg_entry_eq]
  generalize (lg_sl ([.ref a_o, .int p_v]) ++ List.replicate (3 - (lg_sl ([.ref a_o, .int p_v])).length) Slot.unset).toArray = ls at hl ⊢
  have hl : lv_has ls 3 [(0, .ref a_o), (1, .int p_v)] := hl
  refine lv_bipush (v := 24) hx hb dX11_write_0 (by decide) ?_
  refine lv_istore_n (lv' := [(2, .int 24), (0, .ref a_o), (1, .int p_v)]) hx hb dX11_write_2 rfl hl (by decide) rfl (fun ls hl => ?_)
  refine g5_loop (α := (Int32) × (Int32) × (Nat → Int32)) (fun (q : (Int32) × (Int32) × (Nat → Int32)) (ls : Array Slot) (H : Heap) (locs : List Loc) => match q with | (k_s, k_t, k_x) => lv_has ls 3 [(2, .int k_s), (0, .ref a_o), (1, .int p_v)] ∧ va_P G.1 vwCl [(a_o, .inr (11, [.ref a_h, .ref a_im, .ref a_ke, .ref a_k, .ref a_wa, .ref a_th, .ref a_ha, .ref a_wk, .ref a_r, .ref a_x, .int k_t, .int e_fd, .int e_fpl, .ref a_wd, .int e_wn, .ref a_rf, .int e_lr])), (a_x, .inl (G.2 0, 400, .inl k_x))] H ∧ va_D A [(a_o, .inr (11, [.ref a_h, .ref a_im, .ref a_ke, .ref a_k, .ref a_wa, .ref a_th, .ref a_ha, .ref a_wk, .ref a_r, .ref a_x, .int k_t, .int e_fd, .int e_fpl, .ref a_wd, .int e_wn, .ref a_rf, .int e_lr])), (a_x, .inl (G.2 0, 400, .inl k_x))] ∧ va_S A s.heap H locs ∧ ((-8) ≤ k_s.toInt ∧ k_s.toInt ≤ 24) ∧ (0 ≤ k_t.toInt ∧ k_t.toInt ≤ 400) ∧ (8 * (k_t.toInt - e_tl.toInt) = 24 - k_s.toInt)) (fun (q : (Int32) × (Int32) × (Nat → Int32)) => match q with | (k_s, k_t, k_x) => Int.toNat (k_s.toInt + 8)) (24, e_tl, f_x) ⟨lv_sub hl [0, 1, 2] rfl, hP, hD, hS, ⟨by decide, by decide⟩, ⟨by omega, by omega⟩, by have z24 : (24 : Int32).toInt = 24 := (by decide); omega⟩ ?_
  rintro ⟨k_s, k_t, k_x⟩ ls H locs ⟨hl, hP, hD, hS, i_1, i_2, i_3⟩ ih_3_4
  have hl : lv_has ls 3 [(2, .int k_s), (0, .ref a_o), (1, .int p_v)] := hl
  have i_1 : (-8) ≤ k_s.toInt ∧ k_s.toInt ≤ 24 := i_1
  have i_2 : 0 ≤ k_t.toInt ∧ k_t.toInt ≤ 400 := i_2
  have i_3 : 8 * (k_t.toInt - e_tl.toInt) = 24 - k_s.toInt := i_3
  have hP : va_P G.1 vwCl [(a_o, .inr (11, [.ref a_h, .ref a_im, .ref a_ke, .ref a_k, .ref a_wa, .ref a_th, .ref a_ha, .ref a_wk, .ref a_r, .ref a_x, .int k_t, .int e_fd, .int e_fpl, .ref a_wd, .int e_wn, .ref a_rf, .int e_lr])), (a_x, .inl (G.2 0, 400, .inl k_x))] H := hP
  have hD : va_D A [(a_o, .inr (11, [.ref a_h, .ref a_im, .ref a_ke, .ref a_k, .ref a_wa, .ref a_th, .ref a_ha, .ref a_wk, .ref a_r, .ref a_x, .int k_t, .int e_fd, .int e_fpl, .ref a_wd, .int e_wn, .ref a_rf, .int e_lr])), (a_x, .inl (G.2 0, 400, .inl k_x))] := hD
  refine lv_iload_n hx hb dX11_write_3 rfl (lv_at hl 0 rfl) ?_
  refine lv_if_lt (tgt := 51) hx hb dX11_write_4 (by decide) (fun c_5 => ?_) (fun c_5 => ?_)
  ·
    have i_5 : k_s.toInt < 0 := by have z := g5_lt (a := k_s.toInt) (b := 0) (by rfl) (by decide) c_5; omega
    exact W.vret hx hb hr (fun t ht hW => ⟨⟨[(a_o, .inr (11, [.ref a_h, .ref a_im, .ref a_ke, .ref a_k, .ref a_wa, .ref a_th, .ref a_ha, .ref a_wk, .ref a_r, .ref a_x, .int k_t, .int e_fd, .int e_fpl, .ref a_wd, .int e_wn, .ref a_rf, .int e_lr])), (a_x, .inl (G.2 0, 400, .inl k_x))], rfl, ⟨k_t, k_x, by omega, rfl⟩, by rw [ht]; exact hP.sub [0, 1] rfl, hD.sub [0, 1] (by decide) rfl⟩, hS.F ht⟩) hS.2.2 dX11_write_51
  ·
    have i_5 : k_s.toInt ≥ 0 := by have z := g5_ltN (a := k_s.toInt) (b := 0) (by rfl) (by decide) c_5; omega
    refine lv_aload_n hx hb dX11_write_7 rfl (lv_at hl 1 rfl) ?_
    refine va_get (D := G.1) (ci := 11) (v := .int k_t) (C := RX11) (T := TX11) (N := 17) hx hb hts inG_X11 hown hK hP 0 rfl rfl 10 (by decide) (hts _ fl_X11_74) (fun _ h9 => h9) rfl dX11_write_8 ?_
    refine lv_aload_n hx hb dX11_write_11 rfl (lv_at hl 1 rfl) ?_
    refine va_get (D := G.1) (ci := 11) (v := .ref a_x) (C := RX11) (T := TX11) (N := 17) hx hb hts inG_X11 hown hK hP 0 rfl rfl 9 (by decide) (hts _ fl_X11_70) (fun _ h9 => h9) rfl dX11_write_12 ?_
    refine va_alen hx hb hK hP 1 0 rfl rfl (v := 400) (by show Int32.ofNat 400 = 400; decide) dX11_write_15 ?_
    refine lv_icmp_ge (tgt := 51) hx hb dX11_write_16 (by decide) (fun c_6 => ?_) (fun c_6 => ?_)
    ·
      have i_6 : k_t.toInt ≥ 400 := by have z := g5_ge (a := k_t.toInt) (b := 400) (by rfl) (by decide) c_6; omega
      exact W.vret hx hb hr (fun t ht hW => ⟨⟨[(a_o, .inr (11, [.ref a_h, .ref a_im, .ref a_ke, .ref a_k, .ref a_wa, .ref a_th, .ref a_ha, .ref a_wk, .ref a_r, .ref a_x, .int k_t, .int e_fd, .int e_fpl, .ref a_wd, .int e_wn, .ref a_rf, .int e_lr])), (a_x, .inl (G.2 0, 400, .inl k_x))], rfl, ⟨k_t, k_x, by omega, rfl⟩, by rw [ht]; exact hP.sub [0, 1] rfl, hD.sub [0, 1] (by decide) rfl⟩, hS.F ht⟩) hS.2.2 dX11_write_51
    ·
      have i_6 : k_t.toInt < 400 := by have z := g5_geN (a := k_t.toInt) (b := 400) (by rfl) (by decide) c_6; omega
      refine lv_aload_n hx hb dX11_write_19 rfl (lv_at hl 1 rfl) ?_
      refine va_get (D := G.1) (ci := 11) (v := .ref a_x) (C := RX11) (T := TX11) (N := 17) hx hb hts inG_X11 hown hK hP 0 rfl rfl 9 (by decide) (hts _ fl_X11_70) (fun _ h9 => h9) rfl dX11_write_20 ?_
      refine lv_aload_n hx hb dX11_write_23 rfl (lv_at hl 1 rfl) ?_
      refine va_get (D := G.1) (ci := 11) (v := .int k_t) (C := RX11) (T := TX11) (N := 17) hx hb hts inG_X11 hown hK hP 0 rfl rfl 10 (by decide) (hts _ fl_X11_74) (fun _ h9 => h9) rfl dX11_write_24 ?_
      refine lv_iload_n hx hb dX11_write_27 rfl (lv_at hl 2 rfl) ?_
      refine lv_iload_n hx hb dX11_write_28 rfl (lv_at hl 0 rfl) ?_
      refine lv_iushr (v := ((p_v.toUInt32 >>> (k_s.toUInt32 &&& Int32.toUInt32 31)).toInt32)) hx hb dX11_write_29 rfl ?_
      refine lv_sipush (v := 255) hx hb dX11_write_30 (by decide) ?_
      refine lv_iand hx hb dX11_write_33 ?_
      refine va_iast hx hb hK hP hD hS 1 0 rfl rfl (i := k_t) (x := (((p_v.toUInt32 >>> (k_s.toUInt32 &&& Int32.toUInt32 31)).toInt32) &&& 255)) (vp_in_iff.mpr ⟨by omega, by omega⟩) dX11_write_34 (fun H locs hP hD hS => ?_)
      have hP : va_P G.1 vwCl [(a_o, .inr (11, [.ref a_h, .ref a_im, .ref a_ke, .ref a_k, .ref a_wa, .ref a_th, .ref a_ha, .ref a_wk, .ref a_r, .ref a_x, .int k_t, .int e_fd, .int e_fpl, .ref a_wd, .int e_wn, .ref a_rf, .int e_lr])), (a_x, .inl (G.2 0, 400, .inl (upd k_x k_t.toNatClampNeg (((p_v.toUInt32 >>> (k_s.toUInt32 &&& Int32.toUInt32 31)).toInt32) &&& 255))))] H := hP
      have hD : va_D A [(a_o, .inr (11, [.ref a_h, .ref a_im, .ref a_ke, .ref a_k, .ref a_wa, .ref a_th, .ref a_ha, .ref a_wk, .ref a_r, .ref a_x, .int k_t, .int e_fd, .int e_fpl, .ref a_wd, .int e_wn, .ref a_rf, .int e_lr])), (a_x, .inl (G.2 0, 400, .inl (upd k_x k_t.toNatClampNeg (((p_v.toUInt32 >>> (k_s.toUInt32 &&& Int32.toUInt32 31)).toInt32) &&& 255))))] := hD
      refine lv_aload_n hx hb dX11_write_35 rfl (lv_at hl 1 rfl) ?_
      refine lv_dup hx hb dX11_write_36 rfl ?_
      refine va_get (D := G.1) (ci := 11) (v := .int k_t) (C := RX11) (T := TX11) (N := 17) hx hb hts inG_X11 hown hK hP 0 rfl rfl 10 (by decide) (hts _ fl_X11_74) (fun _ h9 => h9) rfl dX11_write_37 ?_
      refine lv_iconst (v := 1) hx hb dX11_write_40 (by decide) ?_
      refine lv_iadd hx hb dX11_write_41 ?_
      have t_7 : (k_t + 1).toInt = k_t.toInt + 1 := g5_iadd (a := k_t.toInt) (b := 1) (by rfl) (by decide) (by omega) (by omega)
      refine va_put (D := G.1) (ci := 11) (v := .int (k_t + 1)) (ty := .int) (C := RX11) (T := TX11) (N := 17) hx hb hts inG_X11 tyX11 tyX11_ok nmX11 hown hK hP hD hS 0 rfl rfl 10 (by decide) (hts _ fl_X11_74) (fun _ h9 => h9) rfl (by decide +kernel) rfl rfl (Nat.le_of_ble_eq_true rfl) dX11_write_42 (fun H locs hP hD hS => ?_)
      have hP : va_P G.1 vwCl [(a_o, .inr (11, [.ref a_h, .ref a_im, .ref a_ke, .ref a_k, .ref a_wa, .ref a_th, .ref a_ha, .ref a_wk, .ref a_r, .ref a_x, .int (k_t + 1), .int e_fd, .int e_fpl, .ref a_wd, .int e_wn, .ref a_rf, .int e_lr])), (a_x, .inl (G.2 0, 400, .inl (upd k_x k_t.toNatClampNeg (((p_v.toUInt32 >>> (k_s.toUInt32 &&& Int32.toUInt32 31)).toInt32) &&& 255))))] H := hP
      have hD : va_D A [(a_o, .inr (11, [.ref a_h, .ref a_im, .ref a_ke, .ref a_k, .ref a_wa, .ref a_th, .ref a_ha, .ref a_wk, .ref a_r, .ref a_x, .int (k_t + 1), .int e_fd, .int e_fpl, .ref a_wd, .int e_wn, .ref a_rf, .int e_lr])), (a_x, .inl (G.2 0, 400, .inl (upd k_x k_t.toNatClampNeg (((p_v.toUInt32 >>> (k_s.toUInt32 &&& Int32.toUInt32 31)).toInt32) &&& 255))))] := hD
      obtain ⟨y8, hy_8, t_8⟩ := g_incN k_s (-8) (by decide) (by omega) (by omega)
      have t_8 : y8.toInt = k_s.toInt + (-8) := t_8
      refine lv_iinc (v := y8) (lv' := [(2, .int y8), (0, .ref a_o), (1, .int p_v)]) hx hb dX11_write_45 hl (k := 0) rfl hy_8 (by decide) rfl (fun ls hl => ?_)
      refine lv_goto (tgt := 3) hx hb dX11_write_48 (by decide) ?_
      exact ih_3_4 (y8, (k_t + 1), (upd k_x k_t.toNatClampNeg (((p_v.toUInt32 >>> (k_s.toUInt32 &&& Int32.toUInt32 31)).toInt32) &&& 255))) ls H locs (show Int.toNat (y8.toInt + 8) < Int.toNat (k_s.toInt + 8) by omega) ⟨lv_sub hl [0, 1, 2] rfl, hP, hD, hS, ⟨by omega, by omega⟩, ⟨by omega, by omega⟩, by omega⟩
theorem dX11_feed_0 : decode cX11_feed 0 = .ok (.aload_n 0, 1) := by decide +kernel
theorem dX11_feed_1 : decode cX11_feed 1 = .ok (.getfield 74, 3) := by decide +kernel
theorem dX11_feed_4 : decode cX11_feed 4 = .ok (.bipush 20, 2) := by decide +kernel
theorem dX11_feed_6 : decode cX11_feed 6 = .ok (.iadd, 1) := by decide +kernel
theorem dX11_feed_7 : decode cX11_feed 7 = .ok (.sipush 400, 3) := by decide +kernel
theorem dX11_feed_10 : decode cX11_feed 10 = .ok (.if_icmp .le 5, 3) := by decide +kernel
theorem dX11_feed_13 : decode cX11_feed 13 = .ok (.iconst (-1), 1) := by decide +kernel
theorem dX11_feed_14 : decode cX11_feed 14 = .ok (.ireturn, 1) := by decide +kernel
theorem dX11_feed_15 : decode cX11_feed 15 = .ok (.aload_n 0, 1) := by decide +kernel
theorem dX11_feed_16 : decode cX11_feed 16 = .ok (.iload_n 1, 1) := by decide +kernel
theorem dX11_feed_17 : decode cX11_feed 17 = .ok (.invokevirtual 185, 3) := by decide +kernel
theorem dX11_feed_20 : decode cX11_feed 20 = .ok (.aload_n 0, 1) := by decide +kernel
theorem dX11_feed_21 : decode cX11_feed 21 = .ok (.iload_n 2, 1) := by decide +kernel
theorem dX11_feed_22 : decode cX11_feed 22 = .ok (.invokevirtual 185, 3) := by decide +kernel
theorem dX11_feed_25 : decode cX11_feed 25 = .ok (.aload_n 0, 1) := by decide +kernel
theorem dX11_feed_26 : decode cX11_feed 26 = .ok (.iload_n 3, 1) := by decide +kernel
theorem dX11_feed_27 : decode cX11_feed 27 = .ok (.invokevirtual 185, 3) := by decide +kernel
theorem dX11_feed_30 : decode cX11_feed 30 = .ok (.aload_n 0, 1) := by decide +kernel
theorem dX11_feed_31 : decode cX11_feed 31 = .ok (.iload 4, 2) := by decide +kernel
theorem dX11_feed_33 : decode cX11_feed 33 = .ok (.invokevirtual 185, 3) := by decide +kernel
theorem dX11_feed_36 : decode cX11_feed 36 = .ok (.aload_n 0, 1) := by decide +kernel
theorem dX11_feed_37 : decode cX11_feed 37 = .ok (.iload 5, 2) := by decide +kernel
theorem dX11_feed_39 : decode cX11_feed 39 = .ok (.invokevirtual 185, 3) := by decide +kernel
theorem dX11_feed_42 : decode cX11_feed 42 = .ok (.aload_n 0, 1) := by decide +kernel
theorem dX11_feed_43 : decode cX11_feed 43 = .ok (.getfield 74, 3) := by decide +kernel
theorem dX11_feed_46 : decode cX11_feed 46 = .ok (.ireturn, 1) := by decide +kernel
theorem ml_X11_185 : Cond.methodLink RX11 185 yX11_write ∈ tblG := tg 617 (by decide +kernel) (by decide +kernel)
theorem im_X11_write : Cond.instanceMethod yX11_write ∈ tblG := tg 619 (by decide +kernel) (by decide +kernel)
theorem se_X11_write : Cond.selects RX11 yX11_write yX11_write ∈ tblG := tg 2 (by decide +kernel) (by decide +kernel)
theorem cd_X11_write : Cond.code yX11_write cX11_write 3 none ∈ tblG := tg 620 (by decide +kernel) (by decide +kernel)
theorem gW_X11_write : GoodIn tblG (wsG yX11_write cX11_write 3 none) := tgi cd_X11_write
theorem gV_X11_185 : GoodIn tblG (wsV RX11 185 RX11 yX11_write (wsG yX11_write cX11_write 3 none)) := tgV ml_X11_185 im_X11_write se_X11_write ini_X11 gW_X11_write
theorem hv_X11_write : yX11_write.cls = RX11 ∧ yX11_write.cls ≠ "java/lang/invoke/MethodHandle" ∧ yX11_write.cls ≠ "java/lang/invoke/VarHandle" ∧ (parseMethodDescriptor yX11_write.desc).map (fun d => d.parameters.length) = some 1 := by decide +kernel
set_option maxHeartbeats 4000000 in
set_option maxRecDepth 100000 in
theorem x_feed (l : Launch) (G : g5_G) (a_o a_x a_h a_im a_ke a_k a_wa a_th a_ha a_wk a_r a_wd a_rf : Nat) (sz : Nat) (e_tl : Int32) (e_fd : Int32) (e_fpl : Int32) (e_wn : Int32) (e_lr : Int32) (p_a : Int32) (p_b : Int32) (p_c : Int32) (p_d : Int32) (p_e : Int32) (f_x : Nat → Int32) (h_e_tl : 0 ≤ e_tl.toInt ∧ e_tl.toInt ≤ 400) (h_e_wn : 0 ≤ e_wn.toInt ∧ e_wn.toInt ≤ 1) : Met l yX11_feed (wsG yX11_feed cX11_feed 6 (some .int)) ({ frames := 1, cells := 0, slots := 0, locals := 22 }) (va_Pc [.ref a_o, .int p_a, .int p_b, .int p_c, .int p_d, .int p_e] (g5_P G [(a_o, .inr (11, [.ref a_h, .ref a_im, .ref a_ke, .ref a_k, .ref a_wa, .ref a_th, .ref a_ha, .ref a_wk, .ref a_r, .ref a_x, .int e_tl, .int e_fd, .int e_fpl, .ref a_wd, .int e_wn, .ref a_rf, .int e_lr])), (a_x, .inl (G.2 0, 400, .inl f_x))] sz)) (va_Qi (fun (r : Int32) (u : va_W) => (∃ (o_t : Int32) (o_x : Nat → Int32), (e_tl.toInt ≤ 380) ∧ (o_t.toInt = e_tl.toInt + 20) ∧ (r = o_t) ∧ (u = [(a_o, .inr (11, [.ref a_h, .ref a_im, .ref a_ke, .ref a_k, .ref a_wa, .ref a_th, .ref a_ha, .ref a_wk, .ref a_r, .ref a_x, .int o_t, .int e_fd, .int e_fpl, .ref a_wd, .int e_wn, .ref a_rf, .int e_lr])), (a_x, .inl (G.2 0, 400, .inl o_x))])) ∨ ((380 < e_tl.toInt) ∧ (r = (-1)) ∧ (u = [(a_o, .inr (11, [.ref a_h, .ref a_im, .ref a_ke, .ref a_k, .ref a_wa, .ref a_th, .ref a_ha, .ref a_wk, .ref a_r, .ref a_x, .int e_tl, .int e_fd, .int e_fpl, .ref a_wd, .int e_wn, .ref a_rf, .int e_lr])), (a_x, .inl (G.2 0, 400, .inl f_x))]))) (g5_B G (va_A [(a_o, .inr (11, [.ref a_h, .ref a_im, .ref a_ke, .ref a_k, .ref a_wa, .ref a_th, .ref a_ha, .ref a_wk, .ref a_r, .ref a_x, .int e_tl, .int e_fd, .int e_fpl, .ref a_wd, .int e_wn, .ref a_rf, .int e_lr])), (a_x, .inl (G.2 0, 400, .inl f_x))] sz)) (va_A [(a_o, .inr (11, [.ref a_h, .ref a_im, .ref a_ke, .ref a_k, .ref a_wa, .ref a_th, .ref a_ha, .ref a_wk, .ref a_r, .ref a_x, .int e_tl, .int e_fd, .int e_fpl, .ref a_wd, .int e_wn, .ref a_rf, .int e_lr])), (a_x, .inl (G.2 0, 400, .inl f_x))] sz)) 0 0 (va_A [(a_o, .inr (11, [.ref a_h, .ref a_im, .ref a_ke, .ref a_k, .ref a_wa, .ref a_th, .ref a_ha, .ref a_wk, .ref a_r, .ref a_x, .int e_tl, .int e_fd, .int e_fpl, .ref a_wd, .int e_wn, .ref a_rf, .int e_lr])), (a_x, .inl (G.2 0, 400, .inl f_x))] sz) := by
  refine Met.ofW (cc := cX11_feed) (maxL := 6) (ret := (some .int)) (by decide) rfl ?_
  intro p e s m args below meth c s₁ B hml hv
  obtain ⟨rfl, hsz, hP, hK, hD0, hN, hT⟩ := hv
  have hx := B.exec
  have hb := B.bytes
  have hr := B.returns
  have hts : ∀ w ∈ tblG, w.before _ s = true := fun w h => atoms_spec (ws := (wsG yX11_feed cX11_feed 6 (some .int))) B.pre w (List.mem_cons_of_mem _ h)
  have hown : s.vm.findClass RX11 = some m.cls := findClass_of_methodNamed B.named
  have hlocks := B.notSynchronized
  subst hsz
  have hD := hD0.self (sz := s.heap.size)
  generalize hAe : va_A [(a_o, .inr (11, [.ref a_h, .ref a_im, .ref a_ke, .ref a_k, .ref a_wa, .ref a_th, .ref a_ha, .ref a_wk, .ref a_r, .ref a_x, .int e_tl, .int e_fd, .int e_fpl, .ref a_wd, .int e_wn, .ref a_rf, .int e_lr])), (a_x, .inl (G.2 0, 400, .inl f_x))] s.heap.size = A at hD hT ⊢
  have hA : ∀ q : Nat, s.heap.size ≤ q → A q := fun q h => by rw [← hAe]; exact Or.inr h
  have hS : va_S A s.heap s.heap [] := va_S.rf
  have hP : va_P G.1 vwCl [(a_o, .inr (11, [.ref a_h, .ref a_im, .ref a_ke, .ref a_k, .ref a_wa, .ref a_th, .ref a_ha, .ref a_wk, .ref a_r, .ref a_x, .int e_tl, .int e_fd, .int e_fpl, .ref a_wd, .int e_wn, .ref a_rf, .int e_lr])), (a_x, .inl (G.2 0, 400, .inl f_x))] s.heap := hP
  have hl := lv_entry ([.ref a_o, .int p_a, .int p_b, .int p_c, .int p_d, .int p_e]) (n := 6) (Nat.le_of_ble_eq_true rfl)
  rw [lg_entry_eq]
  generalize (lg_sl ([.ref a_o, .int p_a, .int p_b, .int p_c, .int p_d, .int p_e]) ++ List.replicate (6 - (lg_sl ([.ref a_o, .int p_a, .int p_b, .int p_c, .int p_d, .int p_e])).length) Slot.unset).toArray = ls at hl ⊢
  have hl : lv_has ls 6 [(0, .ref a_o), (1, .int p_a), (2, .int p_b), (3, .int p_c), (4, .int p_d), (5, .int p_e)] := hl
  refine lv_aload_n hx hb dX11_feed_0 rfl (lv_at hl 0 rfl) ?_
  refine va_get (D := G.1) (ci := 11) (v := .int e_tl) (C := RX11) (T := TX11) (N := 17) hx hb hts inG_X11 hown hK hP 0 rfl rfl 10 (by decide) (hts _ fl_X11_74) (fun _ h9 => h9) rfl dX11_feed_1 ?_
  refine lv_bipush (v := 20) hx hb dX11_feed_4 (by decide) ?_
  refine lv_iadd hx hb dX11_feed_6 ?_
  have t_1 : (e_tl + 20).toInt = e_tl.toInt + 20 := g5_iadd (a := e_tl.toInt) (b := 20) (by rfl) (by decide) (by omega) (by omega)
  refine lv_sipush (v := 400) hx hb dX11_feed_7 (by decide) ?_
  refine lv_icmp_le (tgt := 15) hx hb dX11_feed_10 (by decide) (fun c_2 => ?_) (fun c_2 => ?_)
  ·
    have i_2 : (e_tl.toInt + 20) ≤ 400 := by have z := g5_le (a := (e_tl + 20).toInt) (b := 400) (by rfl) (by decide) c_2; omega
    refine lv_aload_n hx hb dX11_feed_15 rfl (lv_at hl 0 rfl) ?_
    refine lv_iload_n hx hb dX11_feed_16 rfl (lv_at hl 1 rfl) ?_
    have hPc := hP.sub (ws' := [(a_o, .inr (11, [.ref a_h, .ref a_im, .ref a_ke, .ref a_k, .ref a_wa, .ref a_th, .ref a_ha, .ref a_wk, .ref a_r, .ref a_x, .int e_tl, .int e_fd, .int e_fpl, .ref a_wd, .int e_wn, .ref a_rf, .int e_lr])), (a_x, .inl (G.2 0, 400, .inl f_x))]) [0, 1] rfl
    have hDc := hD.sub (ws' := [(a_o, .inr (11, [.ref a_h, .ref a_im, .ref a_ke, .ref a_k, .ref a_wa, .ref a_th, .ref a_ha, .ref a_wk, .ref a_r, .ref a_x, .int e_tl, .int e_fd, .int e_fpl, .ref a_wd, .int e_wn, .ref a_rf, .int e_lr])), (a_x, .inl (G.2 0, 400, .inl f_x))]) [0, 1] (by decide) rfl
    have hFc := va_free (wc := [(a_o, .inr (11, [.ref a_h, .ref a_im, .ref a_ke, .ref a_k, .ref a_wa, .ref a_th, .ref a_ha, .ref a_wk, .ref a_r, .ref a_x, .int e_tl, .int e_fd, .int e_fpl, .ref a_wd, .int e_wn, .ref a_rf, .int e_lr])), (a_x, .inl (G.2 0, 400, .inl f_x))]) hD hS hA [0, 1] rfl
    refine va_callv (va_runV (As := [.int p_a]) (rest := []) ⟨hx, hb, hml, hown, hts⟩ (x_write l G a_o a_x a_h a_im a_ke a_k a_wa a_th a_ha a_wk a_r a_wd a_rf s.heap.size e_tl e_fd e_fpl e_wn e_lr p_a f_x ⟨by omega, by omega⟩ ⟨by omega, by omega⟩ (by omega)) (cwV 1 hts gV_X11_185 rfl rfl rfl hv_X11_write ⟨Nat.le_of_ble_eq_true rfl, Nat.le_of_ble_eq_true rfl⟩) (g5_preV hPc hK hDc hN hT hS hFc (ci := 11) (q0 := 0) rfl rfl) rfl rfl hl.1 rfl (lv_room (Nat.le_of_ble_eq_true rfl)) dX11_feed_17 ⟨Nat.le_of_ble_eq_true rfl, Nat.le_of_ble_eq_true rfl⟩) hS (fun q _ h => hFc q h) hFc (fun u t H1 locs ht hvm hw hB hz1 hk1 hS => ?_)
    obtain ⟨hP1, hD1⟩ := hB
    rw [ht] at hP1
    obtain ⟨z4, z5, i_3, rfl⟩ := hw
    have i_3 : z4.toInt = e_tl.toInt + 4 := i_3
    obtain ⟨hP, hD⟩ := va_join (wr := []) (w1 := [(a_o, .inr (11, [.ref a_h, .ref a_im, .ref a_ke, .ref a_k, .ref a_wa, .ref a_th, .ref a_ha, .ref a_wk, .ref a_r, .ref a_x, .int z4, .int e_fd, .int e_fpl, .ref a_wd, .int e_wn, .ref a_rf, .int e_lr])), (a_x, .inl (G.2 0, 400, .inl z5))]) hP hD [0, 1] [] rfl rfl (by decide) (by decide) hk1 hFc hP1 hD1
    generalize H1 = H at hP hS ⊢
    have hP : va_P G.1 vwCl [(a_o, .inr (11, [.ref a_h, .ref a_im, .ref a_ke, .ref a_k, .ref a_wa, .ref a_th, .ref a_ha, .ref a_wk, .ref a_r, .ref a_x, .int z4, .int e_fd, .int e_fpl, .ref a_wd, .int e_wn, .ref a_rf, .int e_lr])), (a_x, .inl (G.2 0, 400, .inl z5))] H := hP
    have hD : va_D A [(a_o, .inr (11, [.ref a_h, .ref a_im, .ref a_ke, .ref a_k, .ref a_wa, .ref a_th, .ref a_ha, .ref a_wk, .ref a_r, .ref a_x, .int z4, .int e_fd, .int e_fpl, .ref a_wd, .int e_wn, .ref a_rf, .int e_lr])), (a_x, .inl (G.2 0, 400, .inl z5))] := hD
    refine lv_aload_n hx hb dX11_feed_20 rfl (lv_at hl 0 rfl) ?_
    refine lv_iload_n hx hb dX11_feed_21 rfl (lv_at hl 2 rfl) ?_
    have hPc := hP.sub (ws' := [(a_o, .inr (11, [.ref a_h, .ref a_im, .ref a_ke, .ref a_k, .ref a_wa, .ref a_th, .ref a_ha, .ref a_wk, .ref a_r, .ref a_x, .int z4, .int e_fd, .int e_fpl, .ref a_wd, .int e_wn, .ref a_rf, .int e_lr])), (a_x, .inl (G.2 0, 400, .inl z5))]) [0, 1] rfl
    have hDc := hD.sub (ws' := [(a_o, .inr (11, [.ref a_h, .ref a_im, .ref a_ke, .ref a_k, .ref a_wa, .ref a_th, .ref a_ha, .ref a_wk, .ref a_r, .ref a_x, .int z4, .int e_fd, .int e_fpl, .ref a_wd, .int e_wn, .ref a_rf, .int e_lr])), (a_x, .inl (G.2 0, 400, .inl z5))]) [0, 1] (by decide) rfl
    have hFc := va_free (wc := [(a_o, .inr (11, [.ref a_h, .ref a_im, .ref a_ke, .ref a_k, .ref a_wa, .ref a_th, .ref a_ha, .ref a_wk, .ref a_r, .ref a_x, .int z4, .int e_fd, .int e_fpl, .ref a_wd, .int e_wn, .ref a_rf, .int e_lr])), (a_x, .inl (G.2 0, 400, .inl z5))]) hD hS hA [0, 1] rfl
    refine va_callv (va_runV (As := [.int p_b]) (rest := []) ⟨hx, hb, hml, hown, hts⟩ (x_write l G a_o a_x a_h a_im a_ke a_k a_wa a_th a_ha a_wk a_r a_wd a_rf H.size z4 e_fd e_fpl e_wn e_lr p_b z5 ⟨by omega, by omega⟩ ⟨by omega, by omega⟩ (by omega)) (cwV 1 hts gV_X11_185 rfl rfl rfl hv_X11_write ⟨Nat.le_of_ble_eq_true rfl, Nat.le_of_ble_eq_true rfl⟩) (g5_preV hPc hK hDc hN hT hS hFc (ci := 11) (q0 := 0) rfl rfl) rfl rfl hl.1 rfl (lv_room (Nat.le_of_ble_eq_true rfl)) dX11_feed_22 ⟨Nat.le_of_ble_eq_true rfl, Nat.le_of_ble_eq_true rfl⟩) hS (fun q _ h => hFc q h) hFc (fun u t H1 locs ht hvm hw hB hz1 hk1 hS => ?_)
    obtain ⟨hP1, hD1⟩ := hB
    rw [ht] at hP1
    obtain ⟨z7, z8, i_6, rfl⟩ := hw
    have i_6 : z7.toInt = z4.toInt + 4 := i_6
    obtain ⟨hP, hD⟩ := va_join (wr := []) (w1 := [(a_o, .inr (11, [.ref a_h, .ref a_im, .ref a_ke, .ref a_k, .ref a_wa, .ref a_th, .ref a_ha, .ref a_wk, .ref a_r, .ref a_x, .int z7, .int e_fd, .int e_fpl, .ref a_wd, .int e_wn, .ref a_rf, .int e_lr])), (a_x, .inl (G.2 0, 400, .inl z8))]) hP hD [0, 1] [] rfl rfl (by decide) (by decide) hk1 hFc hP1 hD1
    generalize H1 = H at hP hS ⊢
    have hP : va_P G.1 vwCl [(a_o, .inr (11, [.ref a_h, .ref a_im, .ref a_ke, .ref a_k, .ref a_wa, .ref a_th, .ref a_ha, .ref a_wk, .ref a_r, .ref a_x, .int z7, .int e_fd, .int e_fpl, .ref a_wd, .int e_wn, .ref a_rf, .int e_lr])), (a_x, .inl (G.2 0, 400, .inl z8))] H := hP
    have hD : va_D A [(a_o, .inr (11, [.ref a_h, .ref a_im, .ref a_ke, .ref a_k, .ref a_wa, .ref a_th, .ref a_ha, .ref a_wk, .ref a_r, .ref a_x, .int z7, .int e_fd, .int e_fpl, .ref a_wd, .int e_wn, .ref a_rf, .int e_lr])), (a_x, .inl (G.2 0, 400, .inl z8))] := hD
    refine lv_aload_n hx hb dX11_feed_25 rfl (lv_at hl 0 rfl) ?_
    refine lv_iload_n hx hb dX11_feed_26 rfl (lv_at hl 3 rfl) ?_
    have hPc := hP.sub (ws' := [(a_o, .inr (11, [.ref a_h, .ref a_im, .ref a_ke, .ref a_k, .ref a_wa, .ref a_th, .ref a_ha, .ref a_wk, .ref a_r, .ref a_x, .int z7, .int e_fd, .int e_fpl, .ref a_wd, .int e_wn, .ref a_rf, .int e_lr])), (a_x, .inl (G.2 0, 400, .inl z8))]) [0, 1] rfl
    have hDc := hD.sub (ws' := [(a_o, .inr (11, [.ref a_h, .ref a_im, .ref a_ke, .ref a_k, .ref a_wa, .ref a_th, .ref a_ha, .ref a_wk, .ref a_r, .ref a_x, .int z7, .int e_fd, .int e_fpl, .ref a_wd, .int e_wn, .ref a_rf, .int e_lr])), (a_x, .inl (G.2 0, 400, .inl z8))]) [0, 1] (by decide) rfl
    have hFc := va_free (wc := [(a_o, .inr (11, [.ref a_h, .ref a_im, .ref a_ke, .ref a_k, .ref a_wa, .ref a_th, .ref a_ha, .ref a_wk, .ref a_r, .ref a_x, .int z7, .int e_fd, .int e_fpl, .ref a_wd, .int e_wn, .ref a_rf, .int e_lr])), (a_x, .inl (G.2 0, 400, .inl z8))]) hD hS hA [0, 1] rfl
    refine va_callv (va_runV (As := [.int p_c]) (rest := []) ⟨hx, hb, hml, hown, hts⟩ (x_write l G a_o a_x a_h a_im a_ke a_k a_wa a_th a_ha a_wk a_r a_wd a_rf H.size z7 e_fd e_fpl e_wn e_lr p_c z8 ⟨by omega, by omega⟩ ⟨by omega, by omega⟩ (by omega)) (cwV 1 hts gV_X11_185 rfl rfl rfl hv_X11_write ⟨Nat.le_of_ble_eq_true rfl, Nat.le_of_ble_eq_true rfl⟩) (g5_preV hPc hK hDc hN hT hS hFc (ci := 11) (q0 := 0) rfl rfl) rfl rfl hl.1 rfl (lv_room (Nat.le_of_ble_eq_true rfl)) dX11_feed_27 ⟨Nat.le_of_ble_eq_true rfl, Nat.le_of_ble_eq_true rfl⟩) hS (fun q _ h => hFc q h) hFc (fun u t H1 locs ht hvm hw hB hz1 hk1 hS => ?_)
    obtain ⟨hP1, hD1⟩ := hB
    rw [ht] at hP1
    obtain ⟨z10, z11, i_9, rfl⟩ := hw
    have i_9 : z10.toInt = z7.toInt + 4 := i_9
    obtain ⟨hP, hD⟩ := va_join (wr := []) (w1 := [(a_o, .inr (11, [.ref a_h, .ref a_im, .ref a_ke, .ref a_k, .ref a_wa, .ref a_th, .ref a_ha, .ref a_wk, .ref a_r, .ref a_x, .int z10, .int e_fd, .int e_fpl, .ref a_wd, .int e_wn, .ref a_rf, .int e_lr])), (a_x, .inl (G.2 0, 400, .inl z11))]) hP hD [0, 1] [] rfl rfl (by decide) (by decide) hk1 hFc hP1 hD1
    generalize H1 = H at hP hS ⊢
    have hP : va_P G.1 vwCl [(a_o, .inr (11, [.ref a_h, .ref a_im, .ref a_ke, .ref a_k, .ref a_wa, .ref a_th, .ref a_ha, .ref a_wk, .ref a_r, .ref a_x, .int z10, .int e_fd, .int e_fpl, .ref a_wd, .int e_wn, .ref a_rf, .int e_lr])), (a_x, .inl (G.2 0, 400, .inl z11))] H := hP
    have hD : va_D A [(a_o, .inr (11, [.ref a_h, .ref a_im, .ref a_ke, .ref a_k, .ref a_wa, .ref a_th, .ref a_ha, .ref a_wk, .ref a_r, .ref a_x, .int z10, .int e_fd, .int e_fpl, .ref a_wd, .int e_wn, .ref a_rf, .int e_lr])), (a_x, .inl (G.2 0, 400, .inl z11))] := hD
    refine lv_aload_n hx hb dX11_feed_30 rfl (lv_at hl 0 rfl) ?_
    refine lv_iload hx hb dX11_feed_31 (lv_at hl 4 rfl) ?_
    have hPc := hP.sub (ws' := [(a_o, .inr (11, [.ref a_h, .ref a_im, .ref a_ke, .ref a_k, .ref a_wa, .ref a_th, .ref a_ha, .ref a_wk, .ref a_r, .ref a_x, .int z10, .int e_fd, .int e_fpl, .ref a_wd, .int e_wn, .ref a_rf, .int e_lr])), (a_x, .inl (G.2 0, 400, .inl z11))]) [0, 1] rfl
    have hDc := hD.sub (ws' := [(a_o, .inr (11, [.ref a_h, .ref a_im, .ref a_ke, .ref a_k, .ref a_wa, .ref a_th, .ref a_ha, .ref a_wk, .ref a_r, .ref a_x, .int z10, .int e_fd, .int e_fpl, .ref a_wd, .int e_wn, .ref a_rf, .int e_lr])), (a_x, .inl (G.2 0, 400, .inl z11))]) [0, 1] (by decide) rfl
    have hFc := va_free (wc := [(a_o, .inr (11, [.ref a_h, .ref a_im, .ref a_ke, .ref a_k, .ref a_wa, .ref a_th, .ref a_ha, .ref a_wk, .ref a_r, .ref a_x, .int z10, .int e_fd, .int e_fpl, .ref a_wd, .int e_wn, .ref a_rf, .int e_lr])), (a_x, .inl (G.2 0, 400, .inl z11))]) hD hS hA [0, 1] rfl
    refine va_callv (va_runV (As := [.int p_d]) (rest := []) ⟨hx, hb, hml, hown, hts⟩ (x_write l G a_o a_x a_h a_im a_ke a_k a_wa a_th a_ha a_wk a_r a_wd a_rf H.size z10 e_fd e_fpl e_wn e_lr p_d z11 ⟨by omega, by omega⟩ ⟨by omega, by omega⟩ (by omega)) (cwV 1 hts gV_X11_185 rfl rfl rfl hv_X11_write ⟨Nat.le_of_ble_eq_true rfl, Nat.le_of_ble_eq_true rfl⟩) (g5_preV hPc hK hDc hN hT hS hFc (ci := 11) (q0 := 0) rfl rfl) rfl rfl hl.1 rfl (lv_room (Nat.le_of_ble_eq_true rfl)) dX11_feed_33 ⟨Nat.le_of_ble_eq_true rfl, Nat.le_of_ble_eq_true rfl⟩) hS (fun q _ h => hFc q h) hFc (fun u t H1 locs ht hvm hw hB hz1 hk1 hS => ?_)
    obtain ⟨hP1, hD1⟩ := hB
    rw [ht] at hP1
    obtain ⟨z13, z14, i_12, rfl⟩ := hw
    have i_12 : z13.toInt = z10.toInt + 4 := i_12
    obtain ⟨hP, hD⟩ := va_join (wr := []) (w1 := [(a_o, .inr (11, [.ref a_h, .ref a_im, .ref a_ke, .ref a_k, .ref a_wa, .ref a_th, .ref a_ha, .ref a_wk, .ref a_r, .ref a_x, .int z13, .int e_fd, .int e_fpl, .ref a_wd, .int e_wn, .ref a_rf, .int e_lr])), (a_x, .inl (G.2 0, 400, .inl z14))]) hP hD [0, 1] [] rfl rfl (by decide) (by decide) hk1 hFc hP1 hD1
    generalize H1 = H at hP hS ⊢
    have hP : va_P G.1 vwCl [(a_o, .inr (11, [.ref a_h, .ref a_im, .ref a_ke, .ref a_k, .ref a_wa, .ref a_th, .ref a_ha, .ref a_wk, .ref a_r, .ref a_x, .int z13, .int e_fd, .int e_fpl, .ref a_wd, .int e_wn, .ref a_rf, .int e_lr])), (a_x, .inl (G.2 0, 400, .inl z14))] H := hP
    have hD : va_D A [(a_o, .inr (11, [.ref a_h, .ref a_im, .ref a_ke, .ref a_k, .ref a_wa, .ref a_th, .ref a_ha, .ref a_wk, .ref a_r, .ref a_x, .int z13, .int e_fd, .int e_fpl, .ref a_wd, .int e_wn, .ref a_rf, .int e_lr])), (a_x, .inl (G.2 0, 400, .inl z14))] := hD
    refine lv_aload_n hx hb dX11_feed_36 rfl (lv_at hl 0 rfl) ?_
    refine lv_iload hx hb dX11_feed_37 (lv_at hl 5 rfl) ?_
    have hPc := hP.sub (ws' := [(a_o, .inr (11, [.ref a_h, .ref a_im, .ref a_ke, .ref a_k, .ref a_wa, .ref a_th, .ref a_ha, .ref a_wk, .ref a_r, .ref a_x, .int z13, .int e_fd, .int e_fpl, .ref a_wd, .int e_wn, .ref a_rf, .int e_lr])), (a_x, .inl (G.2 0, 400, .inl z14))]) [0, 1] rfl
    have hDc := hD.sub (ws' := [(a_o, .inr (11, [.ref a_h, .ref a_im, .ref a_ke, .ref a_k, .ref a_wa, .ref a_th, .ref a_ha, .ref a_wk, .ref a_r, .ref a_x, .int z13, .int e_fd, .int e_fpl, .ref a_wd, .int e_wn, .ref a_rf, .int e_lr])), (a_x, .inl (G.2 0, 400, .inl z14))]) [0, 1] (by decide) rfl
    have hFc := va_free (wc := [(a_o, .inr (11, [.ref a_h, .ref a_im, .ref a_ke, .ref a_k, .ref a_wa, .ref a_th, .ref a_ha, .ref a_wk, .ref a_r, .ref a_x, .int z13, .int e_fd, .int e_fpl, .ref a_wd, .int e_wn, .ref a_rf, .int e_lr])), (a_x, .inl (G.2 0, 400, .inl z14))]) hD hS hA [0, 1] rfl
    refine va_callv (va_runV (As := [.int p_e]) (rest := []) ⟨hx, hb, hml, hown, hts⟩ (x_write l G a_o a_x a_h a_im a_ke a_k a_wa a_th a_ha a_wk a_r a_wd a_rf H.size z13 e_fd e_fpl e_wn e_lr p_e z14 ⟨by omega, by omega⟩ ⟨by omega, by omega⟩ (by omega)) (cwV 1 hts gV_X11_185 rfl rfl rfl hv_X11_write ⟨Nat.le_of_ble_eq_true rfl, Nat.le_of_ble_eq_true rfl⟩) (g5_preV hPc hK hDc hN hT hS hFc (ci := 11) (q0 := 0) rfl rfl) rfl rfl hl.1 rfl (lv_room (Nat.le_of_ble_eq_true rfl)) dX11_feed_39 ⟨Nat.le_of_ble_eq_true rfl, Nat.le_of_ble_eq_true rfl⟩) hS (fun q _ h => hFc q h) hFc (fun u t H1 locs ht hvm hw hB hz1 hk1 hS => ?_)
    obtain ⟨hP1, hD1⟩ := hB
    rw [ht] at hP1
    obtain ⟨z16, z17, i_15, rfl⟩ := hw
    have i_15 : z16.toInt = z13.toInt + 4 := i_15
    obtain ⟨hP, hD⟩ := va_join (wr := []) (w1 := [(a_o, .inr (11, [.ref a_h, .ref a_im, .ref a_ke, .ref a_k, .ref a_wa, .ref a_th, .ref a_ha, .ref a_wk, .ref a_r, .ref a_x, .int z16, .int e_fd, .int e_fpl, .ref a_wd, .int e_wn, .ref a_rf, .int e_lr])), (a_x, .inl (G.2 0, 400, .inl z17))]) hP hD [0, 1] [] rfl rfl (by decide) (by decide) hk1 hFc hP1 hD1
    generalize H1 = H at hP hS ⊢
    have hP : va_P G.1 vwCl [(a_o, .inr (11, [.ref a_h, .ref a_im, .ref a_ke, .ref a_k, .ref a_wa, .ref a_th, .ref a_ha, .ref a_wk, .ref a_r, .ref a_x, .int z16, .int e_fd, .int e_fpl, .ref a_wd, .int e_wn, .ref a_rf, .int e_lr])), (a_x, .inl (G.2 0, 400, .inl z17))] H := hP
    have hD : va_D A [(a_o, .inr (11, [.ref a_h, .ref a_im, .ref a_ke, .ref a_k, .ref a_wa, .ref a_th, .ref a_ha, .ref a_wk, .ref a_r, .ref a_x, .int z16, .int e_fd, .int e_fpl, .ref a_wd, .int e_wn, .ref a_rf, .int e_lr])), (a_x, .inl (G.2 0, 400, .inl z17))] := hD
    refine lv_aload_n hx hb dX11_feed_42 rfl (lv_at hl 0 rfl) ?_
    refine va_get (D := G.1) (ci := 11) (v := .int z16) (C := RX11) (T := TX11) (N := 17) hx hb hts inG_X11 hown hK hP 0 rfl rfl 10 (by decide) (hts _ fl_X11_74) (fun _ h9 => h9) rfl dX11_feed_43 ?_
    exact W.iret (v := z16) hx hb hr (fun t ht hW => ⟨⟨z16, [(a_o, .inr (11, [.ref a_h, .ref a_im, .ref a_ke, .ref a_k, .ref a_wa, .ref a_th, .ref a_ha, .ref a_wk, .ref a_r, .ref a_x, .int z16, .int e_fd, .int e_fpl, .ref a_wd, .int e_wn, .ref a_rf, .int e_lr])), (a_x, .inl (G.2 0, 400, .inl z17))], rfl, Or.inl (⟨z16, z17, by omega, by omega, rfl, rfl⟩), by rw [ht]; exact hP.sub [0, 1] rfl, hD.sub [0, 1] (by decide) rfl⟩, hS.F ht⟩) hS.2.2 dX11_feed_46
  ·
    have i_2 : (e_tl.toInt + 20) > 400 := by have z := g5_leN (a := (e_tl + 20).toInt) (b := 400) (by rfl) (by decide) c_2; omega
    refine lv_iconst (v := (-1)) hx hb dX11_feed_13 (by decide) ?_
    exact W.iret (v := (-1)) hx hb hr (fun t ht hW => ⟨⟨(-1), [(a_o, .inr (11, [.ref a_h, .ref a_im, .ref a_ke, .ref a_k, .ref a_wa, .ref a_th, .ref a_ha, .ref a_wk, .ref a_r, .ref a_x, .int e_tl, .int e_fd, .int e_fpl, .ref a_wd, .int e_wn, .ref a_rf, .int e_lr])), (a_x, .inl (G.2 0, 400, .inl f_x))], rfl, Or.inr (⟨by omega, rfl, rfl⟩), by rw [ht]; exact hP.sub [0, 1] rfl, hD.sub [0, 1] (by decide) rfl⟩, hS.F ht⟩) hS.2.2 dX11_feed_14
