set_option maxHeartbeats 4000000 in
set_option maxRecDepth 100000 in
theorem x_wish (l : Launch) (G : g5_G) (a_o a_rf a_h a_w a_wn a_im a_ke a_k a_wa a_th a_ha a_wk a_r a_x a_wd a_l a_g a_b a_s a_p a_bb : Nat) (sz : Nat) (e_tl : Int32) (e_fd : Int32) (e_fpl : Int32) (e_wn : Int32) (e_lr : Int32) (e_le : Int32) (e_st : Int32) (e_fo : Int32) (e_lc : Int32) (e_w : Int32) (p_c : Int32) (p_w : Int32) (p_h : Int32) (p_a : Int32) (p_t : Int32) (p_i : Int32) (e_wa : Int64) (e_gb : Int64) (f_rf : Nat → Int32) (f_w : Nat → Int32) (h_e_tl : 0 ≤ e_tl.toInt ∧ e_tl.toInt ≤ 400) (h_e_wn : 0 ≤ e_wn.toInt ∧ e_wn.toInt ≤ 1) (h_e_w : 0 ≤ e_w.toInt ∧ e_w.toInt ≤ 6) : Met l yX11_wish (wsG yX11_wish cX11_wish 8 (some .int)) ({ frames := 3, cells := 0, slots := 0, locals := 68 }) (va_Pc [.ref a_o, .int p_c, .int p_w, .int p_h, .int p_a, .int p_t, .int p_i] (g5_P G [(a_o, .inr (11, [.ref a_h, .ref a_im, .ref a_ke, .ref a_k, .ref a_wa, .ref a_th, .ref a_ha, .ref a_wk, .ref a_r, .ref a_x, .int e_tl, .int e_fd, .int e_fpl, .ref a_wd, .int e_wn, .ref a_rf, .int e_lr])), (a_rf, .inl (G.2 0, 5, .inl f_rf)), (a_h, .inr (1, [.long e_wa, .int e_le, .int e_st, .int e_fo, .int e_lc, .ref a_l, .ref a_g, .ref a_b, .ref a_s, .ref a_p, .ref a_w, .long e_gb, .ref a_bb])), (a_w, .inr (6, [.int 6, .int 6, .ref a_wn, .int e_w])), (a_wn, .inl (G.2 0, 36, .inl f_w))] sz)) (va_Qi (fun (r : Int32) (u : va_W) => (∃ (o_r : Int32) (o_lr : Int32) (o_rf : Nat → Int32) (o_n : Int32) (o_f : Nat → Int32), (0 ≤ o_n.toInt ∧ o_n.toInt ≤ 6) ∧ (r = o_r) ∧ (u = [(a_o, .inr (11, [.ref a_h, .ref a_im, .ref a_ke, .ref a_k, .ref a_wa, .ref a_th, .ref a_ha, .ref a_wk, .ref a_r, .ref a_x, .int e_tl, .int e_fd, .int e_fpl, .ref a_wd, .int e_wn, .ref a_rf, .int o_lr])), (a_rf, .inl (G.2 0, 5, .inl o_rf)), (a_h, .inr (1, [.long e_wa, .int e_le, .int e_st, .int e_fo, .int e_lc, .ref a_l, .ref a_g, .ref a_b, .ref a_s, .ref a_p, .ref a_w, .long e_gb, .ref a_bb])), (a_w, .inr (6, [.int 6, .int 6, .ref a_wn, .int o_n])), (a_wn, .inl (G.2 0, 36, .inl o_f))]))) (g5_B G (va_A [(a_o, .inr (11, [.ref a_h, .ref a_im, .ref a_ke, .ref a_k, .ref a_wa, .ref a_th, .ref a_ha, .ref a_wk, .ref a_r, .ref a_x, .int e_tl, .int e_fd, .int e_fpl, .ref a_wd, .int e_wn, .ref a_rf, .int e_lr])), (a_rf, .inl (G.2 0, 5, .inl f_rf)), (a_h, .inr (1, [.long e_wa, .int e_le, .int e_st, .int e_fo, .int e_lc, .ref a_l, .ref a_g, .ref a_b, .ref a_s, .ref a_p, .ref a_w, .long e_gb, .ref a_bb])), (a_w, .inr (6, [.int 6, .int 6, .ref a_wn, .int e_w])), (a_wn, .inl (G.2 0, 36, .inl f_w))] sz)) (va_A [(a_o, .inr (11, [.ref a_h, .ref a_im, .ref a_ke, .ref a_k, .ref a_wa, .ref a_th, .ref a_ha, .ref a_wk, .ref a_r, .ref a_x, .int e_tl, .int e_fd, .int e_fpl, .ref a_wd, .int e_wn, .ref a_rf, .int e_lr])), (a_rf, .inl (G.2 0, 5, .inl f_rf)), (a_h, .inr (1, [.long e_wa, .int e_le, .int e_st, .int e_fo, .int e_lc, .ref a_l, .ref a_g, .ref a_b, .ref a_s, .ref a_p, .ref a_w, .long e_gb, .ref a_bb])), (a_w, .inr (6, [.int 6, .int 6, .ref a_wn, .int e_w])), (a_wn, .inl (G.2 0, 36, .inl f_w))] sz)) 0 0 (va_A [(a_o, .inr (11, [.ref a_h, .ref a_im, .ref a_ke, .ref a_k, .ref a_wa, .ref a_th, .ref a_ha, .ref a_wk, .ref a_r, .ref a_x, .int e_tl, .int e_fd, .int e_fpl, .ref a_wd, .int e_wn, .ref a_rf, .int e_lr])), (a_rf, .inl (G.2 0, 5, .inl f_rf)), (a_h, .inr (1, [.long e_wa, .int e_le, .int e_st, .int e_fo, .int e_lc, .ref a_l, .ref a_g, .ref a_b, .ref a_s, .ref a_p, .ref a_w, .long e_gb, .ref a_bb])), (a_w, .inr (6, [.int 6, .int 6, .ref a_wn, .int e_w])), (a_wn, .inl (G.2 0, 36, .inl f_w))] sz) := by
  refine Met.ofW (cc := cX11_wish) (maxL := 8) (ret := (some .int)) (by decide) rfl ?_
  intro p e s m args below meth c s₁ B hml hv
  obtain ⟨rfl, hsz, hP, hK, hD0, hN, hT⟩ := hv
  have hx := B.exec
  have hb := B.bytes
  have hr := B.returns
  have hts : ∀ w ∈ tblG, w.before _ s = true := fun w h => atoms_spec (ws := (wsG yX11_wish cX11_wish 8 (some .int))) B.pre w (List.mem_cons_of_mem _ h)
  have hown : s.vm.findClass RX11 = some m.cls := findClass_of_methodNamed B.named
  have hlocks := B.notSynchronized
  subst hsz
  have hD := hD0.self (sz := s.heap.size)
  generalize hAe : va_A [(a_o, .inr (11, [.ref a_h, .ref a_im, .ref a_ke, .ref a_k, .ref a_wa, .ref a_th, .ref a_ha, .ref a_wk, .ref a_r, .ref a_x, .int e_tl, .int e_fd, .int e_fpl, .ref a_wd, .int e_wn, .ref a_rf, .int e_lr])), (a_rf, .inl (G.2 0, 5, .inl f_rf)), (a_h, .inr (1, [.long e_wa, .int e_le, .int e_st, .int e_fo, .int e_lc, .ref a_l, .ref a_g, .ref a_b, .ref a_s, .ref a_p, .ref a_w, .long e_gb, .ref a_bb])), (a_w, .inr (6, [.int 6, .int 6, .ref a_wn, .int e_w])), (a_wn, .inl (G.2 0, 36, .inl f_w))] s.heap.size = A at hD hT ⊢
  have hA : ∀ q : Nat, s.heap.size ≤ q → A q := fun q h => by rw [← hAe]; exact Or.inr h
  have hS : va_S A s.heap s.heap [] := va_S.rf
  have hP : va_P G.1 vwCl [(a_o, .inr (11, [.ref a_h, .ref a_im, .ref a_ke, .ref a_k, .ref a_wa, .ref a_th, .ref a_ha, .ref a_wk, .ref a_r, .ref a_x, .int e_tl, .int e_fd, .int e_fpl, .ref a_wd, .int e_wn, .ref a_rf, .int e_lr])), (a_rf, .inl (G.2 0, 5, .inl f_rf)), (a_h, .inr (1, [.long e_wa, .int e_le, .int e_st, .int e_fo, .int e_lc, .ref a_l, .ref a_g, .ref a_b, .ref a_s, .ref a_p, .ref a_w, .long e_gb, .ref a_bb])), (a_w, .inr (6, [.int 6, .int 6, .ref a_wn, .int e_w])), (a_wn, .inl (G.2 0, 36, .inl f_w))] s.heap := hP
  have hl := lv_entry ([.ref a_o, .int p_c, .int p_w, .int p_h, .int p_a, .int p_t, .int p_i]) (n := 8) (Nat.le_of_ble_eq_true rfl)
  rw [lg_entry_eq]
  generalize (lg_sl ([.ref a_o, .int p_c, .int p_w, .int p_h, .int p_a, .int p_t, .int p_i]) ++ List.replicate (8 - (lg_sl ([.ref a_o, .int p_c, .int p_w, .int p_h, .int p_a, .int p_t, .int p_i])).length) Slot.unset).toArray = ls at hl ⊢
  have hl : lv_has ls 8 [(0, .ref a_o), (1, .int p_c), (2, .int p_w), (3, .int p_h), (4, .int p_a), (5, .int p_t), (6, .int p_i)] := hl
  refine lv_iload_n hx hb dX11_wish_0 rfl (lv_at hl 1 rfl) ?_
  refine lv_iload_n hx hb dX11_wish_1 rfl (lv_at hl 2 rfl) ?_
  refine lv_iload_n hx hb dX11_wish_2 rfl (lv_at hl 3 rfl) ?_
  have hPc := hP.sub (ws' := []) [] rfl
  have hDc := hD.sub (ws' := []) [] (by decide) rfl
  have hFc := va_free (wc := []) hD hS hA [] rfl
  refine va_calli (va_runS (As := [.int p_c, .int p_w, .int p_h]) (rest := []) ⟨hx, hb, hml, hown, hts⟩ (x_isLook l G s.heap.size p_c p_w p_h) (va_cwS 3 hts gS_X11_207 rfl rfl rfl hs_X11_isLook ⟨Nat.le_of_ble_eq_true rfl, Nat.le_of_ble_eq_true rfl⟩) (g5_preS hPc hK hDc hN hT hS hFc) rfl rfl hl.1 rfl (lv_room (Nat.le_of_ble_eq_true rfl)) dX11_wish_3 ⟨Nat.le_of_ble_eq_true rfl, Nat.le_of_ble_eq_true rfl⟩) hS (fun q _ h => hFc q h) hFc (fun r u t H1 locs ht hvm hw hB hz1 hk1 hS => ?_)
  obtain ⟨hP1, hD1⟩ := hB
  rw [ht] at hP1
  rcases hw with ⟨i_1, rfl, rfl⟩ | ⟨rfl, rfl⟩
  ·
    have i_1 : (0 ≤ p_c.toInt ∧ p_c.toInt ≤ 63) ∧ (0 ≤ p_w.toInt ∧ p_w.toInt ≤ 3) ∧ (0 ≤ p_h.toInt ∧ p_h.toInt ≤ 23) := i_1
    have hP := g5_same hP hk1
    generalize H1 = H at hP hS ⊢
    refine lv_if_eq (tgt := 33) hx hb dX11_wish_6 (by decide) (fun c_2 => ?_) (fun c_2 => ?_)
    ·
      exact absurd c_2 (by decide)
    ·
      refine lv_iload hx hb dX11_wish_9 (lv_at hl 4 rfl) ?_
      have hPc := hP.sub (ws' := []) [] rfl
      have hDc := hD.sub (ws' := []) [] (by decide) rfl
      have hFc := va_free (wc := []) hD hS hA [] rfl
      refine va_calli (va_runS (As := [.int p_a]) (rest := []) ⟨hx, hb, hml, hown, hts⟩ (x_isCell l G H.size p_a) (va_cwS 1 hts gS_X11_97 rfl rfl rfl hs_X11_isCell ⟨Nat.le_of_ble_eq_true rfl, Nat.le_of_ble_eq_true rfl⟩) (g5_preS hPc hK hDc hN hT hS hFc) rfl rfl hl.1 rfl (lv_room (Nat.le_of_ble_eq_true rfl)) dX11_wish_11 ⟨Nat.le_of_ble_eq_true rfl, Nat.le_of_ble_eq_true rfl⟩) hS (fun q _ h => hFc q h) hFc (fun r u t H1 locs ht hvm hw hB hz1 hk1 hS => ?_)
      obtain ⟨hP1, hD1⟩ := hB
      rw [ht] at hP1
      rcases hw with ⟨i_3, rfl, rfl⟩ | ⟨rfl, rfl⟩
      ·
        have i_3 : 0 ≤ p_a.toInt ∧ p_a.toInt ≤ 63 := i_3
        have hP := g5_same hP hk1
        generalize H1 = H at hP hS ⊢
        refine lv_if_eq (tgt := 33) hx hb dX11_wish_14 (by decide) (fun c_4 => ?_) (fun c_4 => ?_)
        ·
          exact absurd c_4 (by decide)
        ·
          refine lv_iload hx hb dX11_wish_17 (lv_at hl 5 rfl) ?_
          have hPc := hP.sub (ws' := []) [] rfl
          have hDc := hD.sub (ws' := []) [] (by decide) rfl
          have hFc := va_free (wc := []) hD hS hA [] rfl
          refine va_calli (va_runS (As := [.int p_t]) (rest := []) ⟨hx, hb, hml, hown, hts⟩ (x_isHour l G H.size p_t) (va_cwS 1 hts gS_X11_127 rfl rfl rfl hs_X11_isHour ⟨Nat.le_of_ble_eq_true rfl, Nat.le_of_ble_eq_true rfl⟩) (g5_preS hPc hK hDc hN hT hS hFc) rfl rfl hl.1 rfl (lv_room (Nat.le_of_ble_eq_true rfl)) dX11_wish_19 ⟨Nat.le_of_ble_eq_true rfl, Nat.le_of_ble_eq_true rfl⟩) hS (fun q _ h => hFc q h) hFc (fun r u t H1 locs ht hvm hw hB hz1 hk1 hS => ?_)
          obtain ⟨hP1, hD1⟩ := hB
          rw [ht] at hP1
          rcases hw with ⟨i_5, rfl, rfl⟩ | ⟨rfl, rfl⟩
          ·
            have i_5 : 0 ≤ p_t.toInt ∧ p_t.toInt ≤ 23 := i_5
            have hP := g5_same hP hk1
            generalize H1 = H at hP hS ⊢
            refine lv_if_eq (tgt := 33) hx hb dX11_wish_22 (by decide) (fun c_6 => ?_) (fun c_6 => ?_)
            ·
              exact absurd c_6 (by decide)
            ·
              refine lv_iload hx hb dX11_wish_25 (lv_at hl 6 rfl) ?_
              have hPc := hP.sub (ws' := []) [] rfl
              have hDc := hD.sub (ws' := []) [] (by decide) rfl
              have hFc := va_free (wc := []) hD hS hA [] rfl
              refine va_calli (va_runS (As := [.int p_i]) (rest := []) ⟨hx, hb, hml, hown, hts⟩ (x_isFlag l G H.size p_i) (va_cwS 1 hts gS_X11_101 rfl rfl rfl hs_X11_isFlag ⟨Nat.le_of_ble_eq_true rfl, Nat.le_of_ble_eq_true rfl⟩) (g5_preS hPc hK hDc hN hT hS hFc) rfl rfl hl.1 rfl (lv_room (Nat.le_of_ble_eq_true rfl)) dX11_wish_27 ⟨Nat.le_of_ble_eq_true rfl, Nat.le_of_ble_eq_true rfl⟩) hS (fun q _ h => hFc q h) hFc (fun r u t H1 locs ht hvm hw hB hz1 hk1 hS => ?_)
              obtain ⟨hP1, hD1⟩ := hB
              rw [ht] at hP1
              rcases hw with ⟨i_7, rfl, rfl⟩ | ⟨rfl, rfl⟩
              ·
                have i_7 : 0 ≤ p_i.toInt ∧ p_i.toInt ≤ 1 := i_7
                have hP := g5_same hP hk1
                generalize H1 = H at hP hS ⊢
                refine lv_if_ne (tgt := 39) hx hb dX11_wish_30 (by decide) (fun c_8 => ?_) (fun c_8 => ?_)
                ·
                  refine lv_aload_n hx hb dX11_wish_39 rfl (lv_at hl 0 rfl) ?_
                  refine va_get (D := G.1) (ci := 11) (v := .ref a_h) (C := RX11) (T := TX11) (N := 17) hx hb hts inG_X11 hown hK hP 0 rfl rfl 0 (by decide) (hts _ fl_X11_12) (fun _ h9 => h9) rfl dX11_wish_40 ?_
                  refine va_get (D := G.1) (ci := 1) (v := .ref a_w) (C := RX1) (T := TX1) (N := 13) hx hb hts inG_X1 hown hK hP 2 rfl rfl 10 (by decide) (hts _ fl_X11_309) (fun _ h9 => h9) rfl dX11_wish_43 ?_
                  have hPc := hP.sub (ws' := [(a_w, .inr (6, [.int 6, .int 6, .ref a_wn, .int e_w]))]) [3] rfl
                  have hDc := hD.sub (ws' := [(a_w, .inr (6, [.int 6, .int 6, .ref a_wn, .int e_w]))]) [3] (by decide) rfl
                  have hFc := va_free (wc := [(a_w, .inr (6, [.int 6, .int 6, .ref a_wn, .int e_w]))]) hD hS hA [3] rfl
                  refine va_calli (va_runV (As := []) (rest := []) ⟨hx, hb, hml, hown, hts⟩ (t_isFull_W l G a_w a_wn H.size e_w ⟨by omega, by omega⟩) (cwV 0 hts gV_X11_140 rfl rfl rfl hv_X6_isFull ⟨Nat.le_of_ble_eq_true rfl, Nat.le_of_ble_eq_true rfl⟩) (g5_preV hPc hK hDc hN hT hS hFc (ci := 6) (q0 := 0) rfl rfl) rfl rfl hl.1 rfl (lv_room (Nat.le_of_ble_eq_true rfl)) dX11_wish_46 ⟨Nat.le_of_ble_eq_true rfl, Nat.le_of_ble_eq_true rfl⟩) hS (fun q _ h => hFc q h) hFc (fun r u t H1 locs ht hvm hw hB hz1 hk1 hS => ?_)
                  obtain ⟨hP1, hD1⟩ := hB
                  rw [ht] at hP1
                  rcases hw with ⟨i_9, rfl, rfl⟩ | ⟨i_10, rfl, rfl⟩
                  ·
                    have i_9 : e_w.toInt = 6 := i_9
                    obtain ⟨hP, hD⟩ := va_join (wr := [(a_o, .inr (11, [.ref a_h, .ref a_im, .ref a_ke, .ref a_k, .ref a_wa, .ref a_th, .ref a_ha, .ref a_wk, .ref a_r, .ref a_x, .int e_tl, .int e_fd, .int e_fpl, .ref a_wd, .int e_wn, .ref a_rf, .int e_lr])), (a_rf, .inl (G.2 0, 5, .inl f_rf)), (a_h, .inr (1, [.long e_wa, .int e_le, .int e_st, .int e_fo, .int e_lc, .ref a_l, .ref a_g, .ref a_b, .ref a_s, .ref a_p, .ref a_w, .long e_gb, .ref a_bb])), (a_wn, .inl (G.2 0, 36, .inl f_w))]) (w1 := [(a_w, .inr (6, [.int 6, .int 6, .ref a_wn, .int e_w]))]) hP hD [3] [0, 1, 2, 4] rfl rfl (by decide) (by decide) hk1 hFc hP1 hD1
                    generalize H1 = H at hP hS ⊢
                    have hP : va_P G.1 vwCl [(a_o, .inr (11, [.ref a_h, .ref a_im, .ref a_ke, .ref a_k, .ref a_wa, .ref a_th, .ref a_ha, .ref a_wk, .ref a_r, .ref a_x, .int e_tl, .int e_fd, .int e_fpl, .ref a_wd, .int e_wn, .ref a_rf, .int e_lr])), (a_rf, .inl (G.2 0, 5, .inl f_rf)), (a_h, .inr (1, [.long e_wa, .int e_le, .int e_st, .int e_fo, .int e_lc, .ref a_l, .ref a_g, .ref a_b, .ref a_s, .ref a_p, .ref a_w, .long e_gb, .ref a_bb])), (a_wn, .inl (G.2 0, 36, .inl f_w)), (a_w, .inr (6, [.int 6, .int 6, .ref a_wn, .int e_w]))] H := hP
                    have hD : va_D A [(a_o, .inr (11, [.ref a_h, .ref a_im, .ref a_ke, .ref a_k, .ref a_wa, .ref a_th, .ref a_ha, .ref a_wk, .ref a_r, .ref a_x, .int e_tl, .int e_fd, .int e_fpl, .ref a_wd, .int e_wn, .ref a_rf, .int e_lr])), (a_rf, .inl (G.2 0, 5, .inl f_rf)), (a_h, .inr (1, [.long e_wa, .int e_le, .int e_st, .int e_fo, .int e_lc, .ref a_l, .ref a_g, .ref a_b, .ref a_s, .ref a_p, .ref a_w, .long e_gb, .ref a_bb])), (a_wn, .inl (G.2 0, 36, .inl f_w)), (a_w, .inr (6, [.int 6, .int 6, .ref a_wn, .int e_w]))] := hD
                    refine lv_if_eq (tgt := 59) hx hb dX11_wish_49 (by decide) (fun c_11 => ?_) (fun c_11 => ?_)
                    ·
                      exact absurd c_11 (by decide)
                    ·
                      refine lv_aload_n hx hb dX11_wish_52 rfl (lv_at hl 0 rfl) ?_
                      refine lv_bipush (v := (-5)) hx hb dX11_wish_53 (by decide) ?_
                      have hPc := hP.sub (ws' := [(a_o, .inr (11, [.ref a_h, .ref a_im, .ref a_ke, .ref a_k, .ref a_wa, .ref a_th, .ref a_ha, .ref a_wk, .ref a_r, .ref a_x, .int e_tl, .int e_fd, .int e_fpl, .ref a_wd, .int e_wn, .ref a_rf, .int e_lr])), (a_rf, .inl (G.2 0, 5, .inl f_rf))]) [0, 1] rfl
                      have hDc := hD.sub (ws' := [(a_o, .inr (11, [.ref a_h, .ref a_im, .ref a_ke, .ref a_k, .ref a_wa, .ref a_th, .ref a_ha, .ref a_wk, .ref a_r, .ref a_x, .int e_tl, .int e_fd, .int e_fpl, .ref a_wd, .int e_wn, .ref a_rf, .int e_lr])), (a_rf, .inl (G.2 0, 5, .inl f_rf))]) [0, 1] (by decide) rfl
                      have hFc := va_free (wc := [(a_o, .inr (11, [.ref a_h, .ref a_im, .ref a_ke, .ref a_k, .ref a_wa, .ref a_th, .ref a_ha, .ref a_wk, .ref a_r, .ref a_x, .int e_tl, .int e_fd, .int e_fpl, .ref a_wd, .int e_wn, .ref a_rf, .int e_lr])), (a_rf, .inl (G.2 0, 5, .inl f_rf))]) hD hS hA [0, 1] rfl
                      refine va_calli (va_runV (As := [.int (-5)]) (rest := []) ⟨hx, hb, hml, hown, hts⟩ (x_refuse5 l G a_o a_rf a_h a_im a_ke a_k a_wa a_th a_ha a_wk a_r a_x a_wd H.size e_tl e_fd e_fpl e_wn e_lr f_rf ⟨by omega, by omega⟩ ⟨by omega, by omega⟩) (cwV 1 hts gV_X11_104 rfl rfl rfl hv_X11_refuse ⟨Nat.le_of_ble_eq_true rfl, Nat.le_of_ble_eq_true rfl⟩) (g5_preV hPc hK hDc hN hT hS hFc (ci := 11) (q0 := 0) rfl rfl) rfl rfl hl.1 rfl (lv_room (Nat.le_of_ble_eq_true rfl)) dX11_wish_55 ⟨Nat.le_of_ble_eq_true rfl, Nat.le_of_ble_eq_true rfl⟩) hS (fun q _ h => hFc q h) hFc (fun r u t H1 locs ht hvm hw hB hz1 hk1 hS => ?_)
                      obtain ⟨hP1, hD1⟩ := hB
                      rw [ht] at hP1
                      obtain ⟨z12, rfl, rfl⟩ := hw
                      obtain ⟨hP, hD⟩ := va_join (wr := [(a_h, .inr (1, [.long e_wa, .int e_le, .int e_st, .int e_fo, .int e_lc, .ref a_l, .ref a_g, .ref a_b, .ref a_s, .ref a_p, .ref a_w, .long e_gb, .ref a_bb])), (a_wn, .inl (G.2 0, 36, .inl f_w)), (a_w, .inr (6, [.int 6, .int 6, .ref a_wn, .int e_w]))]) (w1 := [(a_o, .inr (11, [.ref a_h, .ref a_im, .ref a_ke, .ref a_k, .ref a_wa, .ref a_th, .ref a_ha, .ref a_wk, .ref a_r, .ref a_x, .int e_tl, .int e_fd, .int e_fpl, .ref a_wd, .int e_wn, .ref a_rf, .int (-5)])), (a_rf, .inl (G.2 0, 5, .inl z12))]) hP hD [0, 1] [2, 3, 4] rfl rfl (by decide) (by decide) hk1 hFc hP1 hD1
                      generalize H1 = H at hP hS ⊢
                      have hP : va_P G.1 vwCl [(a_h, .inr (1, [.long e_wa, .int e_le, .int e_st, .int e_fo, .int e_lc, .ref a_l, .ref a_g, .ref a_b, .ref a_s, .ref a_p, .ref a_w, .long e_gb, .ref a_bb])), (a_wn, .inl (G.2 0, 36, .inl f_w)), (a_w, .inr (6, [.int 6, .int 6, .ref a_wn, .int e_w])), (a_o, .inr (11, [.ref a_h, .ref a_im, .ref a_ke, .ref a_k, .ref a_wa, .ref a_th, .ref a_ha, .ref a_wk, .ref a_r, .ref a_x, .int e_tl, .int e_fd, .int e_fpl, .ref a_wd, .int e_wn, .ref a_rf, .int (-5)])), (a_rf, .inl (G.2 0, 5, .inl z12))] H := hP
                      have hD : va_D A [(a_h, .inr (1, [.long e_wa, .int e_le, .int e_st, .int e_fo, .int e_lc, .ref a_l, .ref a_g, .ref a_b, .ref a_s, .ref a_p, .ref a_w, .long e_gb, .ref a_bb])), (a_wn, .inl (G.2 0, 36, .inl f_w)), (a_w, .inr (6, [.int 6, .int 6, .ref a_wn, .int e_w])), (a_o, .inr (11, [.ref a_h, .ref a_im, .ref a_ke, .ref a_k, .ref a_wa, .ref a_th, .ref a_ha, .ref a_wk, .ref a_r, .ref a_x, .int e_tl, .int e_fd, .int e_fpl, .ref a_wd, .int e_wn, .ref a_rf, .int (-5)])), (a_rf, .inl (G.2 0, 5, .inl z12))] := hD
                      exact W.iret (v := (-5)) hx hb hr (fun t ht hW => ⟨⟨(-5), [(a_o, .inr (11, [.ref a_h, .ref a_im, .ref a_ke, .ref a_k, .ref a_wa, .ref a_th, .ref a_ha, .ref a_wk, .ref a_r, .ref a_x, .int e_tl, .int e_fd, .int e_fpl, .ref a_wd, .int e_wn, .ref a_rf, .int (-5)])), (a_rf, .inl (G.2 0, 5, .inl z12)), (a_h, .inr (1, [.long e_wa, .int e_le, .int e_st, .int e_fo, .int e_lc, .ref a_l, .ref a_g, .ref a_b, .ref a_s, .ref a_p, .ref a_w, .long e_gb, .ref a_bb])), (a_w, .inr (6, [.int 6, .int 6, .ref a_wn, .int e_w])), (a_wn, .inl (G.2 0, 36, .inl f_w))], rfl, ⟨(-5), (-5), z12, e_w, f_w, ⟨by omega, by omega⟩, rfl, rfl⟩, by rw [ht]; exact hP.sub [3, 4, 0, 2, 1] rfl, hD.sub [3, 4, 0, 2, 1] (by decide) rfl⟩, hS.F ht⟩) hS.2.2 dX11_wish_58
                  ·
                    have i_10 : e_w.toInt < 6 := i_10
                    obtain ⟨hP, hD⟩ := va_join (wr := [(a_o, .inr (11, [.ref a_h, .ref a_im, .ref a_ke, .ref a_k, .ref a_wa, .ref a_th, .ref a_ha, .ref a_wk, .ref a_r, .ref a_x, .int e_tl, .int e_fd, .int e_fpl, .ref a_wd, .int e_wn, .ref a_rf, .int e_lr])), (a_rf, .inl (G.2 0, 5, .inl f_rf)), (a_h, .inr (1, [.long e_wa, .int e_le, .int e_st, .int e_fo, .int e_lc, .ref a_l, .ref a_g, .ref a_b, .ref a_s, .ref a_p, .ref a_w, .long e_gb, .ref a_bb])), (a_wn, .inl (G.2 0, 36, .inl f_w))]) (w1 := [(a_w, .inr (6, [.int 6, .int 6, .ref a_wn, .int e_w]))]) hP hD [3] [0, 1, 2, 4] rfl rfl (by decide) (by decide) hk1 hFc hP1 hD1
                    generalize H1 = H at hP hS ⊢
                    have hP : va_P G.1 vwCl [(a_o, .inr (11, [.ref a_h, .ref a_im, .ref a_ke, .ref a_k, .ref a_wa, .ref a_th, .ref a_ha, .ref a_wk, .ref a_r, .ref a_x, .int e_tl, .int e_fd, .int e_fpl, .ref a_wd, .int e_wn, .ref a_rf, .int e_lr])), (a_rf, .inl (G.2 0, 5, .inl f_rf)), (a_h, .inr (1, [.long e_wa, .int e_le, .int e_st, .int e_fo, .int e_lc, .ref a_l, .ref a_g, .ref a_b, .ref a_s, .ref a_p, .ref a_w, .long e_gb, .ref a_bb])), (a_wn, .inl (G.2 0, 36, .inl f_w)), (a_w, .inr (6, [.int 6, .int 6, .ref a_wn, .int e_w]))] H := hP
                    have hD : va_D A [(a_o, .inr (11, [.ref a_h, .ref a_im, .ref a_ke, .ref a_k, .ref a_wa, .ref a_th, .ref a_ha, .ref a_wk, .ref a_r, .ref a_x, .int e_tl, .int e_fd, .int e_fpl, .ref a_wd, .int e_wn, .ref a_rf, .int e_lr])), (a_rf, .inl (G.2 0, 5, .inl f_rf)), (a_h, .inr (1, [.long e_wa, .int e_le, .int e_st, .int e_fo, .int e_lc, .ref a_l, .ref a_g, .ref a_b, .ref a_s, .ref a_p, .ref a_w, .long e_gb, .ref a_bb])), (a_wn, .inl (G.2 0, 36, .inl f_w)), (a_w, .inr (6, [.int 6, .int 6, .ref a_wn, .int e_w]))] := hD
                    refine lv_if_eq (tgt := 59) hx hb dX11_wish_49 (by decide) (fun c_13 => ?_) (fun c_13 => ?_)
                    ·
                      refine lv_aload_n hx hb dX11_wish_59 rfl (lv_at hl 0 rfl) ?_
                      refine va_get (D := G.1) (ci := 11) (v := .ref a_h) (C := RX11) (T := TX11) (N := 17) hx hb hts inG_X11 hown hK hP 0 rfl rfl 0 (by decide) (hts _ fl_X11_12) (fun _ h9 => h9) rfl dX11_wish_60 ?_
                      refine va_get (D := G.1) (ci := 1) (v := .ref a_w) (C := RX1) (T := TX1) (N := 13) hx hb hts inG_X1 hown hK hP 2 rfl rfl 10 (by decide) (hts _ fl_X11_309) (fun _ h9 => h9) rfl dX11_wish_63 ?_
                      refine lv_iconst (v := 0) hx hb dX11_wish_66 (by decide) ?_
                      have hPc := hP.sub (ws' := [(a_w, .inr (6, [.int 6, .int 6, .ref a_wn, .int e_w])), (a_wn, .inl (G.2 0, 36, .inl f_w))]) [4, 3] rfl
                      have hDc := hD.sub (ws' := [(a_w, .inr (6, [.int 6, .int 6, .ref a_wn, .int e_w])), (a_wn, .inl (G.2 0, 36, .inl f_w))]) [4, 3] (by decide) rfl
                      have hFc := va_free (wc := [(a_w, .inr (6, [.int 6, .int 6, .ref a_wn, .int e_w])), (a_wn, .inl (G.2 0, 36, .inl f_w))]) hD hS hA [4, 3] rfl
                      refine va_calli (va_runV (As := [.int 0]) (rest := []) ⟨hx, hb, hml, hown, hts⟩ (t_open_W l G a_w a_wn H.size e_w 0 f_w ⟨by omega, by omega⟩) (cwV 1 hts gV_X11_146 rfl rfl rfl hv_X6_open ⟨Nat.le_of_ble_eq_true rfl, Nat.le_of_ble_eq_true rfl⟩) (g5_preV hPc hK hDc hN hT hS hFc (ci := 6) (q0 := 0) rfl rfl) rfl rfl hl.1 rfl (lv_room (Nat.le_of_ble_eq_true rfl)) dX11_wish_67 ⟨Nat.le_of_ble_eq_true rfl, Nat.le_of_ble_eq_true rfl⟩) hS (fun q _ h => hFc q h) hFc (fun r u t H1 locs ht hvm hw hB hz1 hk1 hS => ?_)
                      obtain ⟨hP1, hD1⟩ := hB
                      rw [ht] at hP1
                      rcases hw with ⟨i_14, rfl, rfl⟩ | ⟨z18, i_15, i_16, i_17, y19, rfl⟩
                      ·
                        have i_14 : e_w.toInt = 6 := i_14
                        omega
                      ·
                        have i_15 : e_w.toInt < 6 := i_15
                        have i_16 : (e_w + 1).toInt = e_w.toInt + 1 := i_16
                        have i_17 : z18 = tfil f_w e_w.toInt 6 (0 : Int32) 6 := i_17
                        obtain ⟨hP, hD⟩ := va_join (wr := [(a_o, .inr (11, [.ref a_h, .ref a_im, .ref a_ke, .ref a_k, .ref a_wa, .ref a_th, .ref a_ha, .ref a_wk, .ref a_r, .ref a_x, .int e_tl, .int e_fd, .int e_fpl, .ref a_wd, .int e_wn, .ref a_rf, .int e_lr])), (a_rf, .inl (G.2 0, 5, .inl f_rf)), (a_h, .inr (1, [.long e_wa, .int e_le, .int e_st, .int e_fo, .int e_lc, .ref a_l, .ref a_g, .ref a_b, .ref a_s, .ref a_p, .ref a_w, .long e_gb, .ref a_bb]))]) (w1 := [(a_w, .inr (6, [.int 6, .int 6, .ref a_wn, .int (e_w + 1)])), (a_wn, .inl (G.2 0, 36, .inl z18))]) hP hD [4, 3] [0, 1, 2] rfl rfl (by decide) (by decide) hk1 hFc hP1 hD1
                        generalize H1 = H at hP hS ⊢
                        have hP : va_P G.1 vwCl [(a_o, .inr (11, [.ref a_h, .ref a_im, .ref a_ke, .ref a_k, .ref a_wa, .ref a_th, .ref a_ha, .ref a_wk, .ref a_r, .ref a_x, .int e_tl, .int e_fd, .int e_fpl, .ref a_wd, .int e_wn, .ref a_rf, .int e_lr])), (a_rf, .inl (G.2 0, 5, .inl f_rf)), (a_h, .inr (1, [.long e_wa, .int e_le, .int e_st, .int e_fo, .int e_lc, .ref a_l, .ref a_g, .ref a_b, .ref a_s, .ref a_p, .ref a_w, .long e_gb, .ref a_bb])), (a_w, .inr (6, [.int 6, .int 6, .ref a_wn, .int (e_w + 1)])), (a_wn, .inl (G.2 0, 36, .inl z18))] H := hP
                        have hD : va_D A [(a_o, .inr (11, [.ref a_h, .ref a_im, .ref a_ke, .ref a_k, .ref a_wa, .ref a_th, .ref a_ha, .ref a_wk, .ref a_r, .ref a_x, .int e_tl, .int e_fd, .int e_fpl, .ref a_wd, .int e_wn, .ref a_rf, .int e_lr])), (a_rf, .inl (G.2 0, 5, .inl f_rf)), (a_h, .inr (1, [.long e_wa, .int e_le, .int e_st, .int e_fo, .int e_lc, .ref a_l, .ref a_g, .ref a_b, .ref a_s, .ref a_p, .ref a_w, .long e_gb, .ref a_bb])), (a_w, .inr (6, [.int 6, .int 6, .ref a_wn, .int (e_w + 1)])), (a_wn, .inl (G.2 0, 36, .inl z18))] := hD
                        refine g5_ti (v := e_w) y19 ?_
                        refine lv_istore (lv' := [(7, .int e_w), (0, .ref a_o), (1, .int p_c), (2, .int p_w), (3, .int p_h), (4, .int p_a), (5, .int p_t), (6, .int p_i)]) hx hb dX11_wish_70 hl (by decide) rfl (fun ls hl => ?_)
                        refine lv_aload_n hx hb dX11_wish_72 rfl (lv_at hl 1 rfl) ?_
                        refine va_get (D := G.1) (ci := 11) (v := .ref a_h) (C := RX11) (T := TX11) (N := 17) hx hb hts inG_X11 hown hK hP 0 rfl rfl 0 (by decide) (hts _ fl_X11_12) (fun _ h9 => h9) rfl dX11_wish_73 ?_
                        refine va_get (D := G.1) (ci := 1) (v := .ref a_w) (C := RX1) (T := TX1) (N := 13) hx hb hts inG_X1 hown hK hP 2 rfl rfl 10 (by decide) (hts _ fl_X11_309) (fun _ h9 => h9) rfl dX11_wish_76 ?_
                        refine lv_iload hx hb dX11_wish_79 (lv_at hl 0 rfl) ?_
                        refine lv_iload_n hx hb dX11_wish_81 rfl (lv_at hl 2 rfl) ?_
                        refine lv_iload_n hx hb dX11_wish_82 rfl (lv_at hl 3 rfl) ?_
                        refine lv_iload_n hx hb dX11_wish_83 rfl (lv_at hl 4 rfl) ?_
                        have hPc := hP.sub (ws' := [(a_w, .inr (6, [.int 6, .int 6, .ref a_wn, .int (e_w + 1)])), (a_wn, .inl (G.2 0, 36, .inl z18))]) [3, 4] rfl
                        have hDc := hD.sub (ws' := [(a_w, .inr (6, [.int 6, .int 6, .ref a_wn, .int (e_w + 1)])), (a_wn, .inl (G.2 0, 36, .inl z18))]) [3, 4] (by decide) rfl
                        have hFc := va_free (wc := [(a_w, .inr (6, [.int 6, .int 6, .ref a_wn, .int (e_w + 1)])), (a_wn, .inl (G.2 0, 36, .inl z18))]) hD hS hA [3, 4] rfl
                        refine va_callv (va_runV (As := [.int e_w, .int p_c, .int p_w, .int p_h]) (rest := []) ⟨hx, hb, hml, hown, hts⟩ (t_setLook_W l G a_w a_wn H.size (e_w + 1) e_w p_c p_w p_h z18 ⟨by omega, by omega⟩) (cwV 4 hts gV_X11_268 rfl rfl rfl hv_X6_setLook ⟨Nat.le_of_ble_eq_true rfl, Nat.le_of_ble_eq_true rfl⟩) (g5_preV hPc hK hDc hN hT hS hFc (ci := 6) (q0 := 0) rfl rfl) rfl rfl hl.1 rfl (lv_room (Nat.le_of_ble_eq_true rfl)) dX11_wish_84 ⟨Nat.le_of_ble_eq_true rfl, Nat.le_of_ble_eq_true rfl⟩) hS (fun q _ h => hFc q h) hFc (fun u t H1 locs ht hvm hw hB hz1 hk1 hS => ?_)
                        obtain ⟨hP1, hD1⟩ := hB
                        rw [ht] at hP1
                        obtain ⟨z21, i_20, rfl⟩ := hw
                        have i_20 : z21 = tset (tset (tset z18 (e_w + 1).toInt 6 e_w.toInt (0 : Int32).toInt p_c) (e_w + 1).toInt 6 e_w.toInt (1 : Int32).toInt p_w) (e_w + 1).toInt 6 e_w.toInt (2 : Int32).toInt p_h := i_20
                        obtain ⟨hP, hD⟩ := va_join (wr := [(a_o, .inr (11, [.ref a_h, .ref a_im, .ref a_ke, .ref a_k, .ref a_wa, .ref a_th, .ref a_ha, .ref a_wk, .ref a_r, .ref a_x, .int e_tl, .int e_fd, .int e_fpl, .ref a_wd, .int e_wn, .ref a_rf, .int e_lr])), (a_rf, .inl (G.2 0, 5, .inl f_rf)), (a_h, .inr (1, [.long e_wa, .int e_le, .int e_st, .int e_fo, .int e_lc, .ref a_l, .ref a_g, .ref a_b, .ref a_s, .ref a_p, .ref a_w, .long e_gb, .ref a_bb]))]) (w1 := [(a_w, .inr (6, [.int 6, .int 6, .ref a_wn, .int (e_w + 1)])), (a_wn, .inl (G.2 0, 36, .inl z21))]) hP hD [3, 4] [0, 1, 2] rfl rfl (by decide) (by decide) hk1 hFc hP1 hD1
                        generalize H1 = H at hP hS ⊢
                        have hP : va_P G.1 vwCl [(a_o, .inr (11, [.ref a_h, .ref a_im, .ref a_ke, .ref a_k, .ref a_wa, .ref a_th, .ref a_ha, .ref a_wk, .ref a_r, .ref a_x, .int e_tl, .int e_fd, .int e_fpl, .ref a_wd, .int e_wn, .ref a_rf, .int e_lr])), (a_rf, .inl (G.2 0, 5, .inl f_rf)), (a_h, .inr (1, [.long e_wa, .int e_le, .int e_st, .int e_fo, .int e_lc, .ref a_l, .ref a_g, .ref a_b, .ref a_s, .ref a_p, .ref a_w, .long e_gb, .ref a_bb])), (a_w, .inr (6, [.int 6, .int 6, .ref a_wn, .int (e_w + 1)])), (a_wn, .inl (G.2 0, 36, .inl z21))] H := hP
                        have hD : va_D A [(a_o, .inr (11, [.ref a_h, .ref a_im, .ref a_ke, .ref a_k, .ref a_wa, .ref a_th, .ref a_ha, .ref a_wk, .ref a_r, .ref a_x, .int e_tl, .int e_fd, .int e_fpl, .ref a_wd, .int e_wn, .ref a_rf, .int e_lr])), (a_rf, .inl (G.2 0, 5, .inl f_rf)), (a_h, .inr (1, [.long e_wa, .int e_le, .int e_st, .int e_fo, .int e_lc, .ref a_l, .ref a_g, .ref a_b, .ref a_s, .ref a_p, .ref a_w, .long e_gb, .ref a_bb])), (a_w, .inr (6, [.int 6, .int 6, .ref a_wn, .int (e_w + 1)])), (a_wn, .inl (G.2 0, 36, .inl z21))] := hD
                        refine lv_aload_n hx hb dX11_wish_87 rfl (lv_at hl 1 rfl) ?_
                        refine va_get (D := G.1) (ci := 11) (v := .ref a_h) (C := RX11) (T := TX11) (N := 17) hx hb hts inG_X11 hown hK hP 0 rfl rfl 0 (by decide) (hts _ fl_X11_12) (fun _ h9 => h9) rfl dX11_wish_88 ?_
                        refine va_get (D := G.1) (ci := 1) (v := .ref a_w) (C := RX1) (T := TX1) (N := 13) hx hb hts inG_X1 hown hK hP 2 rfl rfl 10 (by decide) (hts _ fl_X11_309) (fun _ h9 => h9) rfl dX11_wish_91 ?_
                        refine lv_iload hx hb dX11_wish_94 (lv_at hl 0 rfl) ?_
                        refine lv_iconst (v := 3) hx hb dX11_wish_96 (by decide) ?_
                        refine lv_iload hx hb dX11_wish_97 (lv_at hl 5 rfl) ?_
                        have hPc := hP.sub (ws' := [(a_w, .inr (6, [.int 6, .int 6, .ref a_wn, .int (e_w + 1)])), (a_wn, .inl (G.2 0, 36, .inl z21))]) [3, 4] rfl
                        have hDc := hD.sub (ws' := [(a_w, .inr (6, [.int 6, .int 6, .ref a_wn, .int (e_w + 1)])), (a_wn, .inl (G.2 0, 36, .inl z21))]) [3, 4] (by decide) rfl
                        have hFc := va_free (wc := [(a_w, .inr (6, [.int 6, .int 6, .ref a_wn, .int (e_w + 1)])), (a_wn, .inl (G.2 0, 36, .inl z21))]) hD hS hA [3, 4] rfl
                        refine va_callv (va_runV (As := [.int e_w, .int 3, .int p_a]) (rest := []) ⟨hx, hb, hml, hown, hts⟩ (t_set_W l G a_w a_wn H.size (e_w + 1) e_w 3 p_a z21 ⟨by omega, by omega⟩) (cwV 3 hts gV_X11_149 rfl rfl rfl hv_X6_set ⟨Nat.le_of_ble_eq_true rfl, Nat.le_of_ble_eq_true rfl⟩) (g5_preV hPc hK hDc hN hT hS hFc (ci := 6) (q0 := 0) rfl rfl) rfl rfl hl.1 rfl (lv_room (Nat.le_of_ble_eq_true rfl)) dX11_wish_99 ⟨Nat.le_of_ble_eq_true rfl, Nat.le_of_ble_eq_true rfl⟩) hS (fun q _ h => hFc q h) hFc (fun u t H1 locs ht hvm hw hB hz1 hk1 hS => ?_)
                        obtain ⟨hP1, hD1⟩ := hB
                        rw [ht] at hP1
                        obtain ⟨z23, i_22, rfl⟩ := hw
                        have i_22 : z23 = tset z21 (e_w + 1).toInt 6 e_w.toInt (3 : Int32).toInt p_a := i_22
                        obtain ⟨hP, hD⟩ := va_join (wr := [(a_o, .inr (11, [.ref a_h, .ref a_im, .ref a_ke, .ref a_k, .ref a_wa, .ref a_th, .ref a_ha, .ref a_wk, .ref a_r, .ref a_x, .int e_tl, .int e_fd, .int e_fpl, .ref a_wd, .int e_wn, .ref a_rf, .int e_lr])), (a_rf, .inl (G.2 0, 5, .inl f_rf)), (a_h, .inr (1, [.long e_wa, .int e_le, .int e_st, .int e_fo, .int e_lc, .ref a_l, .ref a_g, .ref a_b, .ref a_s, .ref a_p, .ref a_w, .long e_gb, .ref a_bb]))]) (w1 := [(a_w, .inr (6, [.int 6, .int 6, .ref a_wn, .int (e_w + 1)])), (a_wn, .inl (G.2 0, 36, .inl z23))]) hP hD [3, 4] [0, 1, 2] rfl rfl (by decide) (by decide) hk1 hFc hP1 hD1
                        generalize H1 = H at hP hS ⊢
                        have hP : va_P G.1 vwCl [(a_o, .inr (11, [.ref a_h, .ref a_im, .ref a_ke, .ref a_k, .ref a_wa, .ref a_th, .ref a_ha, .ref a_wk, .ref a_r, .ref a_x, .int e_tl, .int e_fd, .int e_fpl, .ref a_wd, .int e_wn, .ref a_rf, .int e_lr])), (a_rf, .inl (G.2 0, 5, .inl f_rf)), (a_h, .inr (1, [.long e_wa, .int e_le, .int e_st, .int e_fo, .int e_lc, .ref a_l, .ref a_g, .ref a_b, .ref a_s, .ref a_p, .ref a_w, .long e_gb, .ref a_bb])), (a_w, .inr (6, [.int 6, .int 6, .ref a_wn, .int (e_w + 1)])), (a_wn, .inl (G.2 0, 36, .inl z23))] H := hP
                        have hD : va_D A [(a_o, .inr (11, [.ref a_h, .ref a_im, .ref a_ke, .ref a_k, .ref a_wa, .ref a_th, .ref a_ha, .ref a_wk, .ref a_r, .ref a_x, .int e_tl, .int e_fd, .int e_fpl, .ref a_wd, .int e_wn, .ref a_rf, .int e_lr])), (a_rf, .inl (G.2 0, 5, .inl f_rf)), (a_h, .inr (1, [.long e_wa, .int e_le, .int e_st, .int e_fo, .int e_lc, .ref a_l, .ref a_g, .ref a_b, .ref a_s, .ref a_p, .ref a_w, .long e_gb, .ref a_bb])), (a_w, .inr (6, [.int 6, .int 6, .ref a_wn, .int (e_w + 1)])), (a_wn, .inl (G.2 0, 36, .inl z23))] := hD
                        refine lv_aload_n hx hb dX11_wish_102 rfl (lv_at hl 1 rfl) ?_
                        refine va_get (D := G.1) (ci := 11) (v := .ref a_h) (C := RX11) (T := TX11) (N := 17) hx hb hts inG_X11 hown hK hP 0 rfl rfl 0 (by decide) (hts _ fl_X11_12) (fun _ h9 => h9) rfl dX11_wish_103 ?_
                        refine va_get (D := G.1) (ci := 1) (v := .ref a_w) (C := RX1) (T := TX1) (N := 13) hx hb hts inG_X1 hown hK hP 2 rfl rfl 10 (by decide) (hts _ fl_X11_309) (fun _ h9 => h9) rfl dX11_wish_106 ?_
                        refine lv_iload hx hb dX11_wish_109 (lv_at hl 0 rfl) ?_
                        refine lv_iconst (v := 4) hx hb dX11_wish_111 (by decide) ?_
                        refine lv_iload hx hb dX11_wish_112 (lv_at hl 6 rfl) ?_
                        have hPc := hP.sub (ws' := [(a_w, .inr (6, [.int 6, .int 6, .ref a_wn, .int (e_w + 1)])), (a_wn, .inl (G.2 0, 36, .inl z23))]) [3, 4] rfl
                        have hDc := hD.sub (ws' := [(a_w, .inr (6, [.int 6, .int 6, .ref a_wn, .int (e_w + 1)])), (a_wn, .inl (G.2 0, 36, .inl z23))]) [3, 4] (by decide) rfl
                        have hFc := va_free (wc := [(a_w, .inr (6, [.int 6, .int 6, .ref a_wn, .int (e_w + 1)])), (a_wn, .inl (G.2 0, 36, .inl z23))]) hD hS hA [3, 4] rfl
                        refine va_callv (va_runV (As := [.int e_w, .int 4, .int p_t]) (rest := []) ⟨hx, hb, hml, hown, hts⟩ (t_set_W l G a_w a_wn H.size (e_w + 1) e_w 4 p_t z23 ⟨by omega, by omega⟩) (cwV 3 hts gV_X11_149 rfl rfl rfl hv_X6_set ⟨Nat.le_of_ble_eq_true rfl, Nat.le_of_ble_eq_true rfl⟩) (g5_preV hPc hK hDc hN hT hS hFc (ci := 6) (q0 := 0) rfl rfl) rfl rfl hl.1 rfl (lv_room (Nat.le_of_ble_eq_true rfl)) dX11_wish_114 ⟨Nat.le_of_ble_eq_true rfl, Nat.le_of_ble_eq_true rfl⟩) hS (fun q _ h => hFc q h) hFc (fun u t H1 locs ht hvm hw hB hz1 hk1 hS => ?_)
                        obtain ⟨hP1, hD1⟩ := hB
                        rw [ht] at hP1
                        obtain ⟨z25, i_24, rfl⟩ := hw
                        have i_24 : z25 = tset z23 (e_w + 1).toInt 6 e_w.toInt (4 : Int32).toInt p_t := i_24
                        obtain ⟨hP, hD⟩ := va_join (wr := [(a_o, .inr (11, [.ref a_h, .ref a_im, .ref a_ke, .ref a_k, .ref a_wa, .ref a_th, .ref a_ha, .ref a_wk, .ref a_r, .ref a_x, .int e_tl, .int e_fd, .int e_fpl, .ref a_wd, .int e_wn, .ref a_rf, .int e_lr])), (a_rf, .inl (G.2 0, 5, .inl f_rf)), (a_h, .inr (1, [.long e_wa, .int e_le, .int e_st, .int e_fo, .int e_lc, .ref a_l, .ref a_g, .ref a_b, .ref a_s, .ref a_p, .ref a_w, .long e_gb, .ref a_bb]))]) (w1 := [(a_w, .inr (6, [.int 6, .int 6, .ref a_wn, .int (e_w + 1)])), (a_wn, .inl (G.2 0, 36, .inl z25))]) hP hD [3, 4] [0, 1, 2] rfl rfl (by decide) (by decide) hk1 hFc hP1 hD1
                        generalize H1 = H at hP hS ⊢
                        have hP : va_P G.1 vwCl [(a_o, .inr (11, [.ref a_h, .ref a_im, .ref a_ke, .ref a_k, .ref a_wa, .ref a_th, .ref a_ha, .ref a_wk, .ref a_r, .ref a_x, .int e_tl, .int e_fd, .int e_fpl, .ref a_wd, .int e_wn, .ref a_rf, .int e_lr])), (a_rf, .inl (G.2 0, 5, .inl f_rf)), (a_h, .inr (1, [.long e_wa, .int e_le, .int e_st, .int e_fo, .int e_lc, .ref a_l, .ref a_g, .ref a_b, .ref a_s, .ref a_p, .ref a_w, .long e_gb, .ref a_bb])), (a_w, .inr (6, [.int 6, .int 6, .ref a_wn, .int (e_w + 1)])), (a_wn, .inl (G.2 0, 36, .inl z25))] H := hP
                        have hD : va_D A [(a_o, .inr (11, [.ref a_h, .ref a_im, .ref a_ke, .ref a_k, .ref a_wa, .ref a_th, .ref a_ha, .ref a_wk, .ref a_r, .ref a_x, .int e_tl, .int e_fd, .int e_fpl, .ref a_wd, .int e_wn, .ref a_rf, .int e_lr])), (a_rf, .inl (G.2 0, 5, .inl f_rf)), (a_h, .inr (1, [.long e_wa, .int e_le, .int e_st, .int e_fo, .int e_lc, .ref a_l, .ref a_g, .ref a_b, .ref a_s, .ref a_p, .ref a_w, .long e_gb, .ref a_bb])), (a_w, .inr (6, [.int 6, .int 6, .ref a_wn, .int (e_w + 1)])), (a_wn, .inl (G.2 0, 36, .inl z25))] := hD
                        refine lv_aload_n hx hb dX11_wish_117 rfl (lv_at hl 1 rfl) ?_
                        refine va_get (D := G.1) (ci := 11) (v := .ref a_h) (C := RX11) (T := TX11) (N := 17) hx hb hts inG_X11 hown hK hP 0 rfl rfl 0 (by decide) (hts _ fl_X11_12) (fun _ h9 => h9) rfl dX11_wish_118 ?_
                        refine va_get (D := G.1) (ci := 1) (v := .ref a_w) (C := RX1) (T := TX1) (N := 13) hx hb hts inG_X1 hown hK hP 2 rfl rfl 10 (by decide) (hts _ fl_X11_309) (fun _ h9 => h9) rfl dX11_wish_121 ?_
                        refine lv_iload hx hb dX11_wish_124 (lv_at hl 0 rfl) ?_
                        refine lv_iconst (v := 5) hx hb dX11_wish_126 (by decide) ?_
                        refine lv_iload hx hb dX11_wish_127 (lv_at hl 7 rfl) ?_
                        have hPc := hP.sub (ws' := [(a_w, .inr (6, [.int 6, .int 6, .ref a_wn, .int (e_w + 1)])), (a_wn, .inl (G.2 0, 36, .inl z25))]) [3, 4] rfl
                        have hDc := hD.sub (ws' := [(a_w, .inr (6, [.int 6, .int 6, .ref a_wn, .int (e_w + 1)])), (a_wn, .inl (G.2 0, 36, .inl z25))]) [3, 4] (by decide) rfl
                        have hFc := va_free (wc := [(a_w, .inr (6, [.int 6, .int 6, .ref a_wn, .int (e_w + 1)])), (a_wn, .inl (G.2 0, 36, .inl z25))]) hD hS hA [3, 4] rfl
                        refine va_callv (va_runV (As := [.int e_w, .int 5, .int p_i]) (rest := []) ⟨hx, hb, hml, hown, hts⟩ (t_set_W l G a_w a_wn H.size (e_w + 1) e_w 5 p_i z25 ⟨by omega, by omega⟩) (cwV 3 hts gV_X11_149 rfl rfl rfl hv_X6_set ⟨Nat.le_of_ble_eq_true rfl, Nat.le_of_ble_eq_true rfl⟩) (g5_preV hPc hK hDc hN hT hS hFc (ci := 6) (q0 := 0) rfl rfl) rfl rfl hl.1 rfl (lv_room (Nat.le_of_ble_eq_true rfl)) dX11_wish_129 ⟨Nat.le_of_ble_eq_true rfl, Nat.le_of_ble_eq_true rfl⟩) hS (fun q _ h => hFc q h) hFc (fun u t H1 locs ht hvm hw hB hz1 hk1 hS => ?_)
                        obtain ⟨hP1, hD1⟩ := hB
                        rw [ht] at hP1
                        obtain ⟨z27, i_26, rfl⟩ := hw
                        have i_26 : z27 = tset z25 (e_w + 1).toInt 6 e_w.toInt (5 : Int32).toInt p_i := i_26
                        obtain ⟨hP, hD⟩ := va_join (wr := [(a_o, .inr (11, [.ref a_h, .ref a_im, .ref a_ke, .ref a_k, .ref a_wa, .ref a_th, .ref a_ha, .ref a_wk, .ref a_r, .ref a_x, .int e_tl, .int e_fd, .int e_fpl, .ref a_wd, .int e_wn, .ref a_rf, .int e_lr])), (a_rf, .inl (G.2 0, 5, .inl f_rf)), (a_h, .inr (1, [.long e_wa, .int e_le, .int e_st, .int e_fo, .int e_lc, .ref a_l, .ref a_g, .ref a_b, .ref a_s, .ref a_p, .ref a_w, .long e_gb, .ref a_bb]))]) (w1 := [(a_w, .inr (6, [.int 6, .int 6, .ref a_wn, .int (e_w + 1)])), (a_wn, .inl (G.2 0, 36, .inl z27))]) hP hD [3, 4] [0, 1, 2] rfl rfl (by decide) (by decide) hk1 hFc hP1 hD1
                        generalize H1 = H at hP hS ⊢
                        have hP : va_P G.1 vwCl [(a_o, .inr (11, [.ref a_h, .ref a_im, .ref a_ke, .ref a_k, .ref a_wa, .ref a_th, .ref a_ha, .ref a_wk, .ref a_r, .ref a_x, .int e_tl, .int e_fd, .int e_fpl, .ref a_wd, .int e_wn, .ref a_rf, .int e_lr])), (a_rf, .inl (G.2 0, 5, .inl f_rf)), (a_h, .inr (1, [.long e_wa, .int e_le, .int e_st, .int e_fo, .int e_lc, .ref a_l, .ref a_g, .ref a_b, .ref a_s, .ref a_p, .ref a_w, .long e_gb, .ref a_bb])), (a_w, .inr (6, [.int 6, .int 6, .ref a_wn, .int (e_w + 1)])), (a_wn, .inl (G.2 0, 36, .inl z27))] H := hP
                        have hD : va_D A [(a_o, .inr (11, [.ref a_h, .ref a_im, .ref a_ke, .ref a_k, .ref a_wa, .ref a_th, .ref a_ha, .ref a_wk, .ref a_r, .ref a_x, .int e_tl, .int e_fd, .int e_fpl, .ref a_wd, .int e_wn, .ref a_rf, .int e_lr])), (a_rf, .inl (G.2 0, 5, .inl f_rf)), (a_h, .inr (1, [.long e_wa, .int e_le, .int e_st, .int e_fo, .int e_lc, .ref a_l, .ref a_g, .ref a_b, .ref a_s, .ref a_p, .ref a_w, .long e_gb, .ref a_bb])), (a_w, .inr (6, [.int 6, .int 6, .ref a_wn, .int (e_w + 1)])), (a_wn, .inl (G.2 0, 36, .inl z27))] := hD
                        refine lv_aload_n hx hb dX11_wish_132 rfl (lv_at hl 1 rfl) ?_
                        refine lv_aload_n hx hb dX11_wish_133 rfl (lv_at hl 1 rfl) ?_
                        refine va_get (D := G.1) (ci := 11) (v := .ref a_h) (C := RX11) (T := TX11) (N := 17) hx hb hts inG_X11 hown hK hP 0 rfl rfl 0 (by decide) (hts _ fl_X11_12) (fun _ h9 => h9) rfl dX11_wish_134 ?_
                        refine va_get (D := G.1) (ci := 1) (v := .ref a_w) (C := RX1) (T := TX1) (N := 13) hx hb hts inG_X1 hown hK hP 2 rfl rfl 10 (by decide) (hts _ fl_X11_309) (fun _ h9 => h9) rfl dX11_wish_137 ?_
                        refine va_get (D := G.1) (ci := 6) (v := .int (e_w + 1)) (C := RX6) (T := TX6) (N := 4) hx hb hts inG_X6 hown hK hP 3 rfl rfl 3 (by decide) (hts _ fl_X11_238) (fun _ h9 => h9) rfl dX11_wish_140 ?_
                        have hPc := hP.sub (ws' := [(a_o, .inr (11, [.ref a_h, .ref a_im, .ref a_ke, .ref a_k, .ref a_wa, .ref a_th, .ref a_ha, .ref a_wk, .ref a_r, .ref a_x, .int e_tl, .int e_fd, .int e_fpl, .ref a_wd, .int e_wn, .ref a_rf, .int e_lr]))]) [0] rfl
                        have hDc := hD.sub (ws' := [(a_o, .inr (11, [.ref a_h, .ref a_im, .ref a_ke, .ref a_k, .ref a_wa, .ref a_th, .ref a_ha, .ref a_wk, .ref a_r, .ref a_x, .int e_tl, .int e_fd, .int e_fpl, .ref a_wd, .int e_wn, .ref a_rf, .int e_lr]))]) [0] (by decide) rfl
                        have hFc := va_free (wc := [(a_o, .inr (11, [.ref a_h, .ref a_im, .ref a_ke, .ref a_k, .ref a_wa, .ref a_th, .ref a_ha, .ref a_wk, .ref a_r, .ref a_x, .int e_tl, .int e_fd, .int e_fpl, .ref a_wd, .int e_wn, .ref a_rf, .int e_lr]))]) hD hS hA [0] rfl
                        refine va_calli (va_runV (As := [.int (e_w + 1)]) (rest := []) ⟨hx, hb, hml, hown, hts⟩ (x_done l G a_o a_h a_im a_ke a_k a_wa a_th a_ha a_wk a_r a_x a_wd a_rf H.size e_tl e_fd e_fpl e_wn e_lr (e_w + 1) ⟨by omega, by omega⟩ ⟨by omega, by omega⟩) (cwV 1 hts gV_X11_121 rfl rfl rfl hv_X11_done ⟨Nat.le_of_ble_eq_true rfl, Nat.le_of_ble_eq_true rfl⟩) (g5_preV hPc hK hDc hN hT hS hFc (ci := 11) (q0 := 0) rfl rfl) rfl rfl hl.1 rfl (lv_room (Nat.le_of_ble_eq_true rfl)) dX11_wish_143 ⟨Nat.le_of_ble_eq_true rfl, Nat.le_of_ble_eq_true rfl⟩) hS (fun q _ h => hFc q h) hFc (fun r u t H1 locs ht hvm hw hB hz1 hk1 hS => ?_)
                        obtain ⟨hP1, hD1⟩ := hB
                        rw [ht] at hP1
                        obtain ⟨rfl, rfl⟩ := hw
                        obtain ⟨hP, hD⟩ := va_join (wr := [(a_rf, .inl (G.2 0, 5, .inl f_rf)), (a_h, .inr (1, [.long e_wa, .int e_le, .int e_st, .int e_fo, .int e_lc, .ref a_l, .ref a_g, .ref a_b, .ref a_s, .ref a_p, .ref a_w, .long e_gb, .ref a_bb])), (a_w, .inr (6, [.int 6, .int 6, .ref a_wn, .int (e_w + 1)])), (a_wn, .inl (G.2 0, 36, .inl z27))]) (w1 := [(a_o, .inr (11, [.ref a_h, .ref a_im, .ref a_ke, .ref a_k, .ref a_wa, .ref a_th, .ref a_ha, .ref a_wk, .ref a_r, .ref a_x, .int e_tl, .int e_fd, .int e_fpl, .ref a_wd, .int e_wn, .ref a_rf, .int 0]))]) hP hD [0] [1, 2, 3, 4] rfl rfl (by decide) (by decide) hk1 hFc hP1 hD1
                        generalize H1 = H at hP hS ⊢
                        have hP : va_P G.1 vwCl [(a_rf, .inl (G.2 0, 5, .inl f_rf)), (a_h, .inr (1, [.long e_wa, .int e_le, .int e_st, .int e_fo, .int e_lc, .ref a_l, .ref a_g, .ref a_b, .ref a_s, .ref a_p, .ref a_w, .long e_gb, .ref a_bb])), (a_w, .inr (6, [.int 6, .int 6, .ref a_wn, .int (e_w + 1)])), (a_wn, .inl (G.2 0, 36, .inl z27)), (a_o, .inr (11, [.ref a_h, .ref a_im, .ref a_ke, .ref a_k, .ref a_wa, .ref a_th, .ref a_ha, .ref a_wk, .ref a_r, .ref a_x, .int e_tl, .int e_fd, .int e_fpl, .ref a_wd, .int e_wn, .ref a_rf, .int 0]))] H := hP
                        have hD : va_D A [(a_rf, .inl (G.2 0, 5, .inl f_rf)), (a_h, .inr (1, [.long e_wa, .int e_le, .int e_st, .int e_fo, .int e_lc, .ref a_l, .ref a_g, .ref a_b, .ref a_s, .ref a_p, .ref a_w, .long e_gb, .ref a_bb])), (a_w, .inr (6, [.int 6, .int 6, .ref a_wn, .int (e_w + 1)])), (a_wn, .inl (G.2 0, 36, .inl z27)), (a_o, .inr (11, [.ref a_h, .ref a_im, .ref a_ke, .ref a_k, .ref a_wa, .ref a_th, .ref a_ha, .ref a_wk, .ref a_r, .ref a_x, .int e_tl, .int e_fd, .int e_fpl, .ref a_wd, .int e_wn, .ref a_rf, .int 0]))] := hD
                        exact W.iret (v := (e_w + 1)) hx hb hr (fun t ht hW => ⟨⟨(e_w + 1), [(a_o, .inr (11, [.ref a_h, .ref a_im, .ref a_ke, .ref a_k, .ref a_wa, .ref a_th, .ref a_ha, .ref a_wk, .ref a_r, .ref a_x, .int e_tl, .int e_fd, .int e_fpl, .ref a_wd, .int e_wn, .ref a_rf, .int 0])), (a_rf, .inl (G.2 0, 5, .inl f_rf)), (a_h, .inr (1, [.long e_wa, .int e_le, .int e_st, .int e_fo, .int e_lc, .ref a_l, .ref a_g, .ref a_b, .ref a_s, .ref a_p, .ref a_w, .long e_gb, .ref a_bb])), (a_w, .inr (6, [.int 6, .int 6, .ref a_wn, .int (e_w + 1)])), (a_wn, .inl (G.2 0, 36, .inl z27))], rfl, ⟨(e_w + 1), 0, f_rf, (e_w + 1), z27, ⟨by omega, by omega⟩, rfl, rfl⟩, by rw [ht]; exact hP.sub [4, 0, 1, 2, 3] rfl, hD.sub [4, 0, 1, 2, 3] (by decide) rfl⟩, hS.F ht⟩) hS.2.2 dX11_wish_146
                    ·
                      exact absurd c_13 (by decide)
                ·
                  exact absurd c_8 (by decide)
              ·
                have hP := g5_same hP hk1
                generalize H1 = H at hP hS ⊢
                refine lv_if_ne (tgt := 39) hx hb dX11_wish_30 (by decide) (fun c_28 => ?_) (fun c_28 => ?_)
                ·
                  exact absurd c_28 (by decide)
                ·
                  refine lv_aload_n hx hb dX11_wish_33 rfl (lv_at hl 0 rfl) ?_
                  refine lv_iconst (v := (-1)) hx hb dX11_wish_34 (by decide) ?_
                  have hPc := hP.sub (ws' := [(a_o, .inr (11, [.ref a_h, .ref a_im, .ref a_ke, .ref a_k, .ref a_wa, .ref a_th, .ref a_ha, .ref a_wk, .ref a_r, .ref a_x, .int e_tl, .int e_fd, .int e_fpl, .ref a_wd, .int e_wn, .ref a_rf, .int e_lr])), (a_rf, .inl (G.2 0, 5, .inl f_rf))]) [0, 1] rfl
                  have hDc := hD.sub (ws' := [(a_o, .inr (11, [.ref a_h, .ref a_im, .ref a_ke, .ref a_k, .ref a_wa, .ref a_th, .ref a_ha, .ref a_wk, .ref a_r, .ref a_x, .int e_tl, .int e_fd, .int e_fpl, .ref a_wd, .int e_wn, .ref a_rf, .int e_lr])), (a_rf, .inl (G.2 0, 5, .inl f_rf))]) [0, 1] (by decide) rfl
                  have hFc := va_free (wc := [(a_o, .inr (11, [.ref a_h, .ref a_im, .ref a_ke, .ref a_k, .ref a_wa, .ref a_th, .ref a_ha, .ref a_wk, .ref a_r, .ref a_x, .int e_tl, .int e_fd, .int e_fpl, .ref a_wd, .int e_wn, .ref a_rf, .int e_lr])), (a_rf, .inl (G.2 0, 5, .inl f_rf))]) hD hS hA [0, 1] rfl
                  refine va_calli (va_runV (As := [.int (-1)]) (rest := []) ⟨hx, hb, hml, hown, hts⟩ (x_refuse1 l G a_o a_rf a_h a_im a_ke a_k a_wa a_th a_ha a_wk a_r a_x a_wd H.size e_tl e_fd e_fpl e_wn e_lr f_rf ⟨by omega, by omega⟩ ⟨by omega, by omega⟩) (cwV 1 hts gV_X11_104 rfl rfl rfl hv_X11_refuse ⟨Nat.le_of_ble_eq_true rfl, Nat.le_of_ble_eq_true rfl⟩) (g5_preV hPc hK hDc hN hT hS hFc (ci := 11) (q0 := 0) rfl rfl) rfl rfl hl.1 rfl (lv_room (Nat.le_of_ble_eq_true rfl)) dX11_wish_35 ⟨Nat.le_of_ble_eq_true rfl, Nat.le_of_ble_eq_true rfl⟩) hS (fun q _ h => hFc q h) hFc (fun r u t H1 locs ht hvm hw hB hz1 hk1 hS => ?_)
                  obtain ⟨hP1, hD1⟩ := hB
                  rw [ht] at hP1
                  obtain ⟨z29, rfl, rfl⟩ := hw
                  obtain ⟨hP, hD⟩ := va_join (wr := [(a_h, .inr (1, [.long e_wa, .int e_le, .int e_st, .int e_fo, .int e_lc, .ref a_l, .ref a_g, .ref a_b, .ref a_s, .ref a_p, .ref a_w, .long e_gb, .ref a_bb])), (a_w, .inr (6, [.int 6, .int 6, .ref a_wn, .int e_w])), (a_wn, .inl (G.2 0, 36, .inl f_w))]) (w1 := [(a_o, .inr (11, [.ref a_h, .ref a_im, .ref a_ke, .ref a_k, .ref a_wa, .ref a_th, .ref a_ha, .ref a_wk, .ref a_r, .ref a_x, .int e_tl, .int e_fd, .int e_fpl, .ref a_wd, .int e_wn, .ref a_rf, .int (-1)])), (a_rf, .inl (G.2 0, 5, .inl z29))]) hP hD [0, 1] [2, 3, 4] rfl rfl (by decide) (by decide) hk1 hFc hP1 hD1
                  generalize H1 = H at hP hS ⊢
                  have hP : va_P G.1 vwCl [(a_h, .inr (1, [.long e_wa, .int e_le, .int e_st, .int e_fo, .int e_lc, .ref a_l, .ref a_g, .ref a_b, .ref a_s, .ref a_p, .ref a_w, .long e_gb, .ref a_bb])), (a_w, .inr (6, [.int 6, .int 6, .ref a_wn, .int e_w])), (a_wn, .inl (G.2 0, 36, .inl f_w)), (a_o, .inr (11, [.ref a_h, .ref a_im, .ref a_ke, .ref a_k, .ref a_wa, .ref a_th, .ref a_ha, .ref a_wk, .ref a_r, .ref a_x, .int e_tl, .int e_fd, .int e_fpl, .ref a_wd, .int e_wn, .ref a_rf, .int (-1)])), (a_rf, .inl (G.2 0, 5, .inl z29))] H := hP
                  have hD : va_D A [(a_h, .inr (1, [.long e_wa, .int e_le, .int e_st, .int e_fo, .int e_lc, .ref a_l, .ref a_g, .ref a_b, .ref a_s, .ref a_p, .ref a_w, .long e_gb, .ref a_bb])), (a_w, .inr (6, [.int 6, .int 6, .ref a_wn, .int e_w])), (a_wn, .inl (G.2 0, 36, .inl f_w)), (a_o, .inr (11, [.ref a_h, .ref a_im, .ref a_ke, .ref a_k, .ref a_wa, .ref a_th, .ref a_ha, .ref a_wk, .ref a_r, .ref a_x, .int e_tl, .int e_fd, .int e_fpl, .ref a_wd, .int e_wn, .ref a_rf, .int (-1)])), (a_rf, .inl (G.2 0, 5, .inl z29))] := hD
                  exact W.iret (v := (-1)) hx hb hr (fun t ht hW => ⟨⟨(-1), [(a_o, .inr (11, [.ref a_h, .ref a_im, .ref a_ke, .ref a_k, .ref a_wa, .ref a_th, .ref a_ha, .ref a_wk, .ref a_r, .ref a_x, .int e_tl, .int e_fd, .int e_fpl, .ref a_wd, .int e_wn, .ref a_rf, .int (-1)])), (a_rf, .inl (G.2 0, 5, .inl z29)), (a_h, .inr (1, [.long e_wa, .int e_le, .int e_st, .int e_fo, .int e_lc, .ref a_l, .ref a_g, .ref a_b, .ref a_s, .ref a_p, .ref a_w, .long e_gb, .ref a_bb])), (a_w, .inr (6, [.int 6, .int 6, .ref a_wn, .int e_w])), (a_wn, .inl (G.2 0, 36, .inl f_w))], rfl, ⟨(-1), (-1), z29, e_w, f_w, ⟨by omega, by omega⟩, rfl, rfl⟩, by rw [ht]; exact hP.sub [3, 4, 0, 1, 2] rfl, hD.sub [3, 4, 0, 1, 2] (by decide) rfl⟩, hS.F ht⟩) hS.2.2 dX11_wish_38
          ·
            have hP := g5_same hP hk1
            generalize H1 = H at hP hS ⊢
            refine lv_if_eq (tgt := 33) hx hb dX11_wish_22 (by decide) (fun c_30 => ?_) (fun c_30 => ?_)
            ·
              refine lv_aload_n hx hb dX11_wish_33 rfl (lv_at hl 0 rfl) ?_
              refine lv_iconst (v := (-1)) hx hb dX11_wish_34 (by decide) ?_
              have hPc := hP.sub (ws' := [(a_o, .inr (11, [.ref a_h, .ref a_im, .ref a_ke, .ref a_k, .ref a_wa, .ref a_th, .ref a_ha, .ref a_wk, .ref a_r, .ref a_x, .int e_tl, .int e_fd, .int e_fpl, .ref a_wd, .int e_wn, .ref a_rf, .int e_lr])), (a_rf, .inl (G.2 0, 5, .inl f_rf))]) [0, 1] rfl
              have hDc := hD.sub (ws' := [(a_o, .inr (11, [.ref a_h, .ref a_im, .ref a_ke, .ref a_k, .ref a_wa, .ref a_th, .ref a_ha, .ref a_wk, .ref a_r, .ref a_x, .int e_tl, .int e_fd, .int e_fpl, .ref a_wd, .int e_wn, .ref a_rf, .int e_lr])), (a_rf, .inl (G.2 0, 5, .inl f_rf))]) [0, 1] (by decide) rfl
              have hFc := va_free (wc := [(a_o, .inr (11, [.ref a_h, .ref a_im, .ref a_ke, .ref a_k, .ref a_wa, .ref a_th, .ref a_ha, .ref a_wk, .ref a_r, .ref a_x, .int e_tl, .int e_fd, .int e_fpl, .ref a_wd, .int e_wn, .ref a_rf, .int e_lr])), (a_rf, .inl (G.2 0, 5, .inl f_rf))]) hD hS hA [0, 1] rfl
              refine va_calli (va_runV (As := [.int (-1)]) (rest := []) ⟨hx, hb, hml, hown, hts⟩ (x_refuse1 l G a_o a_rf a_h a_im a_ke a_k a_wa a_th a_ha a_wk a_r a_x a_wd H.size e_tl e_fd e_fpl e_wn e_lr f_rf ⟨by omega, by omega⟩ ⟨by omega, by omega⟩) (cwV 1 hts gV_X11_104 rfl rfl rfl hv_X11_refuse ⟨Nat.le_of_ble_eq_true rfl, Nat.le_of_ble_eq_true rfl⟩) (g5_preV hPc hK hDc hN hT hS hFc (ci := 11) (q0 := 0) rfl rfl) rfl rfl hl.1 rfl (lv_room (Nat.le_of_ble_eq_true rfl)) dX11_wish_35 ⟨Nat.le_of_ble_eq_true rfl, Nat.le_of_ble_eq_true rfl⟩) hS (fun q _ h => hFc q h) hFc (fun r u t H1 locs ht hvm hw hB hz1 hk1 hS => ?_)
              obtain ⟨hP1, hD1⟩ := hB
              rw [ht] at hP1
              obtain ⟨z31, rfl, rfl⟩ := hw
              obtain ⟨hP, hD⟩ := va_join (wr := [(a_h, .inr (1, [.long e_wa, .int e_le, .int e_st, .int e_fo, .int e_lc, .ref a_l, .ref a_g, .ref a_b, .ref a_s, .ref a_p, .ref a_w, .long e_gb, .ref a_bb])), (a_w, .inr (6, [.int 6, .int 6, .ref a_wn, .int e_w])), (a_wn, .inl (G.2 0, 36, .inl f_w))]) (w1 := [(a_o, .inr (11, [.ref a_h, .ref a_im, .ref a_ke, .ref a_k, .ref a_wa, .ref a_th, .ref a_ha, .ref a_wk, .ref a_r, .ref a_x, .int e_tl, .int e_fd, .int e_fpl, .ref a_wd, .int e_wn, .ref a_rf, .int (-1)])), (a_rf, .inl (G.2 0, 5, .inl z31))]) hP hD [0, 1] [2, 3, 4] rfl rfl (by decide) (by decide) hk1 hFc hP1 hD1
              generalize H1 = H at hP hS ⊢
              have hP : va_P G.1 vwCl [(a_h, .inr (1, [.long e_wa, .int e_le, .int e_st, .int e_fo, .int e_lc, .ref a_l, .ref a_g, .ref a_b, .ref a_s, .ref a_p, .ref a_w, .long e_gb, .ref a_bb])), (a_w, .inr (6, [.int 6, .int 6, .ref a_wn, .int e_w])), (a_wn, .inl (G.2 0, 36, .inl f_w)), (a_o, .inr (11, [.ref a_h, .ref a_im, .ref a_ke, .ref a_k, .ref a_wa, .ref a_th, .ref a_ha, .ref a_wk, .ref a_r, .ref a_x, .int e_tl, .int e_fd, .int e_fpl, .ref a_wd, .int e_wn, .ref a_rf, .int (-1)])), (a_rf, .inl (G.2 0, 5, .inl z31))] H := hP
              have hD : va_D A [(a_h, .inr (1, [.long e_wa, .int e_le, .int e_st, .int e_fo, .int e_lc, .ref a_l, .ref a_g, .ref a_b, .ref a_s, .ref a_p, .ref a_w, .long e_gb, .ref a_bb])), (a_w, .inr (6, [.int 6, .int 6, .ref a_wn, .int e_w])), (a_wn, .inl (G.2 0, 36, .inl f_w)), (a_o, .inr (11, [.ref a_h, .ref a_im, .ref a_ke, .ref a_k, .ref a_wa, .ref a_th, .ref a_ha, .ref a_wk, .ref a_r, .ref a_x, .int e_tl, .int e_fd, .int e_fpl, .ref a_wd, .int e_wn, .ref a_rf, .int (-1)])), (a_rf, .inl (G.2 0, 5, .inl z31))] := hD
              exact W.iret (v := (-1)) hx hb hr (fun t ht hW => ⟨⟨(-1), [(a_o, .inr (11, [.ref a_h, .ref a_im, .ref a_ke, .ref a_k, .ref a_wa, .ref a_th, .ref a_ha, .ref a_wk, .ref a_r, .ref a_x, .int e_tl, .int e_fd, .int e_fpl, .ref a_wd, .int e_wn, .ref a_rf, .int (-1)])), (a_rf, .inl (G.2 0, 5, .inl z31)), (a_h, .inr (1, [.long e_wa, .int e_le, .int e_st, .int e_fo, .int e_lc, .ref a_l, .ref a_g, .ref a_b, .ref a_s, .ref a_p, .ref a_w, .long e_gb, .ref a_bb])), (a_w, .inr (6, [.int 6, .int 6, .ref a_wn, .int e_w])), (a_wn, .inl (G.2 0, 36, .inl f_w))], rfl, ⟨(-1), (-1), z31, e_w, f_w, ⟨by omega, by omega⟩, rfl, rfl⟩, by rw [ht]; exact hP.sub [3, 4, 0, 1, 2] rfl, hD.sub [3, 4, 0, 1, 2] (by decide) rfl⟩, hS.F ht⟩) hS.2.2 dX11_wish_38
            ·
              exact absurd c_30 (by decide)
      ·
        have hP := g5_same hP hk1
        generalize H1 = H at hP hS ⊢
        refine lv_if_eq (tgt := 33) hx hb dX11_wish_14 (by decide) (fun c_32 => ?_) (fun c_32 => ?_)
        ·
          refine lv_aload_n hx hb dX11_wish_33 rfl (lv_at hl 0 rfl) ?_
          refine lv_iconst (v := (-1)) hx hb dX11_wish_34 (by decide) ?_
          have hPc := hP.sub (ws' := [(a_o, .inr (11, [.ref a_h, .ref a_im, .ref a_ke, .ref a_k, .ref a_wa, .ref a_th, .ref a_ha, .ref a_wk, .ref a_r, .ref a_x, .int e_tl, .int e_fd, .int e_fpl, .ref a_wd, .int e_wn, .ref a_rf, .int e_lr])), (a_rf, .inl (G.2 0, 5, .inl f_rf))]) [0, 1] rfl
          have hDc := hD.sub (ws' := [(a_o, .inr (11, [.ref a_h, .ref a_im, .ref a_ke, .ref a_k, .ref a_wa, .ref a_th, .ref a_ha, .ref a_wk, .ref a_r, .ref a_x, .int e_tl, .int e_fd, .int e_fpl, .ref a_wd, .int e_wn, .ref a_rf, .int e_lr])), (a_rf, .inl (G.2 0, 5, .inl f_rf))]) [0, 1] (by decide) rfl
          have hFc := va_free (wc := [(a_o, .inr (11, [.ref a_h, .ref a_im, .ref a_ke, .ref a_k, .ref a_wa, .ref a_th, .ref a_ha, .ref a_wk, .ref a_r, .ref a_x, .int e_tl, .int e_fd, .int e_fpl, .ref a_wd, .int e_wn, .ref a_rf, .int e_lr])), (a_rf, .inl (G.2 0, 5, .inl f_rf))]) hD hS hA [0, 1] rfl
          refine va_calli (va_runV (As := [.int (-1)]) (rest := []) ⟨hx, hb, hml, hown, hts⟩ (x_refuse1 l G a_o a_rf a_h a_im a_ke a_k a_wa a_th a_ha a_wk a_r a_x a_wd H.size e_tl e_fd e_fpl e_wn e_lr f_rf ⟨by omega, by omega⟩ ⟨by omega, by omega⟩) (cwV 1 hts gV_X11_104 rfl rfl rfl hv_X11_refuse ⟨Nat.le_of_ble_eq_true rfl, Nat.le_of_ble_eq_true rfl⟩) (g5_preV hPc hK hDc hN hT hS hFc (ci := 11) (q0 := 0) rfl rfl) rfl rfl hl.1 rfl (lv_room (Nat.le_of_ble_eq_true rfl)) dX11_wish_35 ⟨Nat.le_of_ble_eq_true rfl, Nat.le_of_ble_eq_true rfl⟩) hS (fun q _ h => hFc q h) hFc (fun r u t H1 locs ht hvm hw hB hz1 hk1 hS => ?_)
          obtain ⟨hP1, hD1⟩ := hB
          rw [ht] at hP1
          obtain ⟨z33, rfl, rfl⟩ := hw
          obtain ⟨hP, hD⟩ := va_join (wr := [(a_h, .inr (1, [.long e_wa, .int e_le, .int e_st, .int e_fo, .int e_lc, .ref a_l, .ref a_g, .ref a_b, .ref a_s, .ref a_p, .ref a_w, .long e_gb, .ref a_bb])), (a_w, .inr (6, [.int 6, .int 6, .ref a_wn, .int e_w])), (a_wn, .inl (G.2 0, 36, .inl f_w))]) (w1 := [(a_o, .inr (11, [.ref a_h, .ref a_im, .ref a_ke, .ref a_k, .ref a_wa, .ref a_th, .ref a_ha, .ref a_wk, .ref a_r, .ref a_x, .int e_tl, .int e_fd, .int e_fpl, .ref a_wd, .int e_wn, .ref a_rf, .int (-1)])), (a_rf, .inl (G.2 0, 5, .inl z33))]) hP hD [0, 1] [2, 3, 4] rfl rfl (by decide) (by decide) hk1 hFc hP1 hD1
          generalize H1 = H at hP hS ⊢
          have hP : va_P G.1 vwCl [(a_h, .inr (1, [.long e_wa, .int e_le, .int e_st, .int e_fo, .int e_lc, .ref a_l, .ref a_g, .ref a_b, .ref a_s, .ref a_p, .ref a_w, .long e_gb, .ref a_bb])), (a_w, .inr (6, [.int 6, .int 6, .ref a_wn, .int e_w])), (a_wn, .inl (G.2 0, 36, .inl f_w)), (a_o, .inr (11, [.ref a_h, .ref a_im, .ref a_ke, .ref a_k, .ref a_wa, .ref a_th, .ref a_ha, .ref a_wk, .ref a_r, .ref a_x, .int e_tl, .int e_fd, .int e_fpl, .ref a_wd, .int e_wn, .ref a_rf, .int (-1)])), (a_rf, .inl (G.2 0, 5, .inl z33))] H := hP
          have hD : va_D A [(a_h, .inr (1, [.long e_wa, .int e_le, .int e_st, .int e_fo, .int e_lc, .ref a_l, .ref a_g, .ref a_b, .ref a_s, .ref a_p, .ref a_w, .long e_gb, .ref a_bb])), (a_w, .inr (6, [.int 6, .int 6, .ref a_wn, .int e_w])), (a_wn, .inl (G.2 0, 36, .inl f_w)), (a_o, .inr (11, [.ref a_h, .ref a_im, .ref a_ke, .ref a_k, .ref a_wa, .ref a_th, .ref a_ha, .ref a_wk, .ref a_r, .ref a_x, .int e_tl, .int e_fd, .int e_fpl, .ref a_wd, .int e_wn, .ref a_rf, .int (-1)])), (a_rf, .inl (G.2 0, 5, .inl z33))] := hD
          exact W.iret (v := (-1)) hx hb hr (fun t ht hW => ⟨⟨(-1), [(a_o, .inr (11, [.ref a_h, .ref a_im, .ref a_ke, .ref a_k, .ref a_wa, .ref a_th, .ref a_ha, .ref a_wk, .ref a_r, .ref a_x, .int e_tl, .int e_fd, .int e_fpl, .ref a_wd, .int e_wn, .ref a_rf, .int (-1)])), (a_rf, .inl (G.2 0, 5, .inl z33)), (a_h, .inr (1, [.long e_wa, .int e_le, .int e_st, .int e_fo, .int e_lc, .ref a_l, .ref a_g, .ref a_b, .ref a_s, .ref a_p, .ref a_w, .long e_gb, .ref a_bb])), (a_w, .inr (6, [.int 6, .int 6, .ref a_wn, .int e_w])), (a_wn, .inl (G.2 0, 36, .inl f_w))], rfl, ⟨(-1), (-1), z33, e_w, f_w, ⟨by omega, by omega⟩, rfl, rfl⟩, by rw [ht]; exact hP.sub [3, 4, 0, 1, 2] rfl, hD.sub [3, 4, 0, 1, 2] (by decide) rfl⟩, hS.F ht⟩) hS.2.2 dX11_wish_38
        ·
          exact absurd c_32 (by decide)
  ·
    have hP := g5_same hP hk1
    generalize H1 = H at hP hS ⊢
    refine lv_if_eq (tgt := 33) hx hb dX11_wish_6 (by decide) (fun c_34 => ?_) (fun c_34 => ?_)
    ·
      refine lv_aload_n hx hb dX11_wish_33 rfl (lv_at hl 0 rfl) ?_
      refine lv_iconst (v := (-1)) hx hb dX11_wish_34 (by decide) ?_
      have hPc := hP.sub (ws' := [(a_o, .inr (11, [.ref a_h, .ref a_im, .ref a_ke, .ref a_k, .ref a_wa, .ref a_th, .ref a_ha, .ref a_wk, .ref a_r, .ref a_x, .int e_tl, .int e_fd, .int e_fpl, .ref a_wd, .int e_wn, .ref a_rf, .int e_lr])), (a_rf, .inl (G.2 0, 5, .inl f_rf))]) [0, 1] rfl
      have hDc := hD.sub (ws' := [(a_o, .inr (11, [.ref a_h, .ref a_im, .ref a_ke, .ref a_k, .ref a_wa, .ref a_th, .ref a_ha, .ref a_wk, .ref a_r, .ref a_x, .int e_tl, .int e_fd, .int e_fpl, .ref a_wd, .int e_wn, .ref a_rf, .int e_lr])), (a_rf, .inl (G.2 0, 5, .inl f_rf))]) [0, 1] (by decide) rfl
      have hFc := va_free (wc := [(a_o, .inr (11, [.ref a_h, .ref a_im, .ref a_ke, .ref a_k, .ref a_wa, .ref a_th, .ref a_ha, .ref a_wk, .ref a_r, .ref a_x, .int e_tl, .int e_fd, .int e_fpl, .ref a_wd, .int e_wn, .ref a_rf, .int e_lr])), (a_rf, .inl (G.2 0, 5, .inl f_rf))]) hD hS hA [0, 1] rfl
      refine va_calli (va_runV (As := [.int (-1)]) (rest := []) ⟨hx, hb, hml, hown, hts⟩ (x_refuse1 l G a_o a_rf a_h a_im a_ke a_k a_wa a_th a_ha a_wk a_r a_x a_wd H.size e_tl e_fd e_fpl e_wn e_lr f_rf ⟨by omega, by omega⟩ ⟨by omega, by omega⟩) (cwV 1 hts gV_X11_104 rfl rfl rfl hv_X11_refuse ⟨Nat.le_of_ble_eq_true rfl, Nat.le_of_ble_eq_true rfl⟩) (g5_preV hPc hK hDc hN hT hS hFc (ci := 11) (q0 := 0) rfl rfl) rfl rfl hl.1 rfl (lv_room (Nat.le_of_ble_eq_true rfl)) dX11_wish_35 ⟨Nat.le_of_ble_eq_true rfl, Nat.le_of_ble_eq_true rfl⟩) hS (fun q _ h => hFc q h) hFc (fun r u t H1 locs ht hvm hw hB hz1 hk1 hS => ?_)
      obtain ⟨hP1, hD1⟩ := hB
      rw [ht] at hP1
      obtain ⟨z35, rfl, rfl⟩ := hw
      obtain ⟨hP, hD⟩ := va_join (wr := [(a_h, .inr (1, [.long e_wa, .int e_le, .int e_st, .int e_fo, .int e_lc, .ref a_l, .ref a_g, .ref a_b, .ref a_s, .ref a_p, .ref a_w, .long e_gb, .ref a_bb])), (a_w, .inr (6, [.int 6, .int 6, .ref a_wn, .int e_w])), (a_wn, .inl (G.2 0, 36, .inl f_w))]) (w1 := [(a_o, .inr (11, [.ref a_h, .ref a_im, .ref a_ke, .ref a_k, .ref a_wa, .ref a_th, .ref a_ha, .ref a_wk, .ref a_r, .ref a_x, .int e_tl, .int e_fd, .int e_fpl, .ref a_wd, .int e_wn, .ref a_rf, .int (-1)])), (a_rf, .inl (G.2 0, 5, .inl z35))]) hP hD [0, 1] [2, 3, 4] rfl rfl (by decide) (by decide) hk1 hFc hP1 hD1
      generalize H1 = H at hP hS ⊢
      have hP : va_P G.1 vwCl [(a_h, .inr (1, [.long e_wa, .int e_le, .int e_st, .int e_fo, .int e_lc, .ref a_l, .ref a_g, .ref a_b, .ref a_s, .ref a_p, .ref a_w, .long e_gb, .ref a_bb])), (a_w, .inr (6, [.int 6, .int 6, .ref a_wn, .int e_w])), (a_wn, .inl (G.2 0, 36, .inl f_w)), (a_o, .inr (11, [.ref a_h, .ref a_im, .ref a_ke, .ref a_k, .ref a_wa, .ref a_th, .ref a_ha, .ref a_wk, .ref a_r, .ref a_x, .int e_tl, .int e_fd, .int e_fpl, .ref a_wd, .int e_wn, .ref a_rf, .int (-1)])), (a_rf, .inl (G.2 0, 5, .inl z35))] H := hP
      have hD : va_D A [(a_h, .inr (1, [.long e_wa, .int e_le, .int e_st, .int e_fo, .int e_lc, .ref a_l, .ref a_g, .ref a_b, .ref a_s, .ref a_p, .ref a_w, .long e_gb, .ref a_bb])), (a_w, .inr (6, [.int 6, .int 6, .ref a_wn, .int e_w])), (a_wn, .inl (G.2 0, 36, .inl f_w)), (a_o, .inr (11, [.ref a_h, .ref a_im, .ref a_ke, .ref a_k, .ref a_wa, .ref a_th, .ref a_ha, .ref a_wk, .ref a_r, .ref a_x, .int e_tl, .int e_fd, .int e_fpl, .ref a_wd, .int e_wn, .ref a_rf, .int (-1)])), (a_rf, .inl (G.2 0, 5, .inl z35))] := hD
      exact W.iret (v := (-1)) hx hb hr (fun t ht hW => ⟨⟨(-1), [(a_o, .inr (11, [.ref a_h, .ref a_im, .ref a_ke, .ref a_k, .ref a_wa, .ref a_th, .ref a_ha, .ref a_wk, .ref a_r, .ref a_x, .int e_tl, .int e_fd, .int e_fpl, .ref a_wd, .int e_wn, .ref a_rf, .int (-1)])), (a_rf, .inl (G.2 0, 5, .inl z35)), (a_h, .inr (1, [.long e_wa, .int e_le, .int e_st, .int e_fo, .int e_lc, .ref a_l, .ref a_g, .ref a_b, .ref a_s, .ref a_p, .ref a_w, .long e_gb, .ref a_bb])), (a_w, .inr (6, [.int 6, .int 6, .ref a_wn, .int e_w])), (a_wn, .inl (G.2 0, 36, .inl f_w))], rfl, ⟨(-1), (-1), z35, e_w, f_w, ⟨by omega, by omega⟩, rfl, rfl⟩, by rw [ht]; exact hP.sub [3, 4, 0, 1, 2] rfl, hD.sub [3, 4, 0, 1, 2] (by decide) rfl⟩, hS.F ht⟩) hS.2.2 dX11_wish_38
    ·
      exact absurd c_34 (by decide)
theorem dX11_law_0 : decode cX11_law 0 = .ok (.aload_n 0, 1) := by decide +kernel
theorem dX11_law_1 : decode cX11_law 1 = .ok (.getfield 74, 3) := by decide +kernel
theorem dX11_law_4 : decode cX11_law 4 = .ok (.istore_n 1, 1) := by decide +kernel
theorem dX11_law_5 : decode cX11_law 5 = .ok (.aload_n 0, 1) := by decide +kernel
theorem dX11_law_6 : decode cX11_law 6 = .ok (.iconst 0, 1) := by decide +kernel
theorem dX11_law_7 : decode cX11_law 7 = .ok (.putfield 74, 3) := by decide +kernel
theorem dX11_law_10 : decode cX11_law 10 = .ok (.aload_n 0, 1) := by decide +kernel
theorem dX11_law_11 : decode cX11_law 11 = .ok (.getfield 12, 3) := by decide +kernel
theorem dX11_law_14 : decode cX11_law 14 = .ok (.getfield 192, 3) := by decide +kernel
theorem dX11_law_17 : decode cX11_law 17 = .ok (.bipush 6, 2) := by decide +kernel
theorem dX11_law_19 : decode cX11_law 19 = .ok (.if_icmp .lt 10, 3) := by decide +kernel
theorem dX11_law_22 : decode cX11_law 22 = .ok (.aload_n 0, 1) := by decide +kernel
theorem dX11_law_23 : decode cX11_law 23 = .ok (.bipush (-5), 2) := by decide +kernel
theorem dX11_law_25 : decode cX11_law 25 = .ok (.invokevirtual 104, 3) := by decide +kernel
theorem dX11_law_28 : decode cX11_law 28 = .ok (.ireturn, 1) := by decide +kernel
theorem dX11_law_29 : decode cX11_law 29 = .ok (.aload_n 0, 1) := by decide +kernel
theorem dX11_law_30 : decode cX11_law 30 = .ok (.getfield 66, 3) := by decide +kernel
theorem dX11_law_33 : decode cX11_law 33 = .ok (.aload_n 0, 1) := by decide +kernel
theorem dX11_law_34 : decode cX11_law 34 = .ok (.getfield 70, 3) := by decide +kernel
theorem dX11_law_37 : decode cX11_law 37 = .ok (.iload_n 1, 1) := by decide +kernel
theorem dX11_law_38 : decode cX11_law 38 = .ok (.invokevirtual 195, 3) := by decide +kernel
theorem dX11_law_41 : decode cX11_law 41 = .ok (.astore_n 2, 1) := by decide +kernel
theorem dX11_law_42 : decode cX11_law 42 = .ok (.aload_n 0, 1) := by decide +kernel
theorem dX11_law_43 : decode cX11_law 43 = .ok (.aload_n 0, 1) := by decide +kernel
theorem dX11_law_44 : decode cX11_law 44 = .ok (.getfield 66, 3) := by decide +kernel
theorem dX11_law_47 : decode cX11_law 47 = .ok (.getfield 199, 3) := by decide +kernel
theorem dX11_law_50 : decode cX11_law 50 = .ok (.putfield 81, 3) := by decide +kernel
theorem dX11_law_53 : decode cX11_law 53 = .ok (.aload_n 2, 1) := by decide +kernel
theorem dX11_law_54 : decode cX11_law 54 = .ok (.ifnonnull 10, 3) := by decide +kernel
theorem dX11_law_57 : decode cX11_law 57 = .ok (.aload_n 0, 1) := by decide +kernel
theorem dX11_law_58 : decode cX11_law 58 = .ok (.bipush (-6), 2) := by decide +kernel
theorem dX11_law_60 : decode cX11_law 60 = .ok (.invokevirtual 104, 3) := by decide +kernel
theorem dX11_law_63 : decode cX11_law 63 = .ok (.ireturn, 1) := by decide +kernel
theorem dX11_law_64 : decode cX11_law 64 = .ok (.aload_n 0, 1) := by decide +kernel
theorem dX11_law_65 : decode cX11_law 65 = .ok (.getfield 12, 3) := by decide +kernel
theorem dX11_law_68 : decode cX11_law 68 = .ok (.getfield 200, 3) := by decide +kernel
theorem dX11_law_71 : decode cX11_law 71 = .ok (.aload_n 0, 1) := by decide +kernel
theorem dX11_law_72 : decode cX11_law 72 = .ok (.getfield 12, 3) := by decide +kernel
theorem dX11_law_75 : decode cX11_law 75 = .ok (.getfield 192, 3) := by decide +kernel
theorem dX11_law_78 : decode cX11_law 78 = .ok (.aload_n 2, 1) := by decide +kernel
theorem dX11_law_79 : decode cX11_law 79 = .ok (.aastore, 1) := by decide +kernel
theorem dX11_law_80 : decode cX11_law 80 = .ok (.aload_n 0, 1) := by decide +kernel
theorem dX11_law_81 : decode cX11_law 81 = .ok (.getfield 12, 3) := by decide +kernel
theorem dX11_law_84 : decode cX11_law 84 = .ok (.dup, 1) := by decide +kernel
theorem dX11_law_85 : decode cX11_law 85 = .ok (.getfield 192, 3) := by decide +kernel
theorem dX11_law_88 : decode cX11_law 88 = .ok (.iconst 1, 1) := by decide +kernel
theorem dX11_law_89 : decode cX11_law 89 = .ok (.iadd, 1) := by decide +kernel
theorem dX11_law_90 : decode cX11_law 90 = .ok (.putfield 192, 3) := by decide +kernel
theorem dX11_law_93 : decode cX11_law 93 = .ok (.aload_n 0, 1) := by decide +kernel
theorem dX11_law_94 : decode cX11_law 94 = .ok (.aload_n 0, 1) := by decide +kernel
theorem dX11_law_95 : decode cX11_law 95 = .ok (.getfield 12, 3) := by decide +kernel
theorem dX11_law_98 : decode cX11_law 98 = .ok (.getfield 192, 3) := by decide +kernel
theorem dX11_law_101 : decode cX11_law 101 = .ok (.iconst 1, 1) := by decide +kernel
theorem dX11_law_102 : decode cX11_law 102 = .ok (.isub, 1) := by decide +kernel
theorem dX11_law_103 : decode cX11_law 103 = .ok (.invokevirtual 121, 3) := by decide +kernel
theorem dX11_law_106 : decode cX11_law 106 = .ok (.ireturn, 1) := by decide +kernel
theorem fl_X11_66 : Cond.fieldLink RX11 66 "LateGlass" "reader" "LLateGlass$LawReader;" ∈ tblG := tg 452 (by decide +kernel) (by decide +kernel)
theorem ml_X11_195 : Cond.methodLink RX11 195 yX4_read ∈ tblG := tg 641 (by decide +kernel) (by decide +kernel)
theorem im_X4_read : Cond.instanceMethod yX4_read ∈ tblG := tg 642 (by decide +kernel) (by decide +kernel)
theorem se_X4_read : Cond.selects RX4 yX4_read yX4_read ∈ tblG := tg 643 (by decide +kernel) (by decide +kernel)
theorem cd_X4_read : Cond.code yX4_read cX4_read 4 (some (.object "LateGlass$Law")) ∈ tblG := tg 644 (by decide +kernel) (by decide +kernel)
theorem gW_X4_read : GoodIn tblG (wsG yX4_read cX4_read 4 (some (.object "LateGlass$Law"))) := tgi cd_X4_read
theorem gV_X11_195 : GoodIn tblG (wsV RX11 195 RX4 yX4_read (wsG yX4_read cX4_read 4 (some (.object "LateGlass$Law")))) := tgV ml_X11_195 im_X4_read se_X4_read ini_X4 gW_X4_read
theorem hv_X4_read : yX4_read.cls = RX4 ∧ yX4_read.cls ≠ "java/lang/invoke/MethodHandle" ∧ yX4_read.cls ≠ "java/lang/invoke/VarHandle" ∧ (parseMethodDescriptor yX4_read.desc).map (fun d => d.parameters.length) = some 2 := by decide +kernel
theorem fl_X11_199 : Cond.fieldLink RX11 199 "LateGlass$LawReader" "faultPlace" "I" ∈ tblG := tg 426 (by decide +kernel) (by decide +kernel)
theorem fl_X11_200 : Cond.fieldLink RX11 200 "LateGlass$House" "laws" "[LLateGlass$Law;" ∈ tblG := tg 169 (by decide +kernel) (by decide +kernel)
