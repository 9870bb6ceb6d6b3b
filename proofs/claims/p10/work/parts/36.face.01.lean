set_option maxHeartbeats 4000000 in
set_option maxRecDepth 100000 in
theorem x_sighting (l : Launch) (G : g5_G) (a_o a_rf a_h a_s a_sn a_im a_ke a_k a_wa a_th a_ha a_wk a_r a_x a_wd a_l a_g a_b a_p a_w a_bb : Nat) (sz : Nat) (e_tl : Int32) (e_fd : Int32) (e_fpl : Int32) (e_wn : Int32) (e_lr : Int32) (e_le : Int32) (e_st : Int32) (e_fo : Int32) (e_lc : Int32) (e_s : Int32) (p_c : Int32) (p_w : Int32) (p_h : Int32) (p_s : Int32) (e_wa : Int64) (e_gb : Int64) (f_rf : Nat → Int32) (f_s : Nat → Int32) (h_e_tl : 0 ≤ e_tl.toInt ∧ e_tl.toInt ≤ 400) (h_e_wn : 0 ≤ e_wn.toInt ∧ e_wn.toInt ≤ 1) (h_e_s : 0 ≤ e_s.toInt ∧ e_s.toInt ≤ 10) (e_sh : ∀ r : Int, 0 ≤ r → r < e_s.toInt → 0 ≤ (tget f_s e_s.toInt 4 r (3 : Int32).toInt).toInt ∧ (tget f_s e_s.toInt 4 r (3 : Int32).toInt).toInt ≤ 1) (e_s5 : snS f_s e_s.toInt e_s.toInt.toNat ≤ 5) : Met l yX11_sighting (wsG yX11_sighting cX11_sighting 6 (some .int)) ({ frames := 3, cells := 0, slots := 0, locals := 68 }) (va_Pc [.ref a_o, .int p_c, .int p_w, .int p_h, .int p_s] (g5_P G [(a_o, .inr (11, [.ref a_h, .ref a_im, .ref a_ke, .ref a_k, .ref a_wa, .ref a_th, .ref a_ha, .ref a_wk, .ref a_r, .ref a_x, .int e_tl, .int e_fd, .int e_fpl, .ref a_wd, .int e_wn, .ref a_rf, .int e_lr])), (a_rf, .inl (G.2 0, 5, .inl f_rf)), (a_h, .inr (1, [.long e_wa, .int e_le, .int e_st, .int e_fo, .int e_lc, .ref a_l, .ref a_g, .ref a_b, .ref a_s, .ref a_p, .ref a_w, .long e_gb, .ref a_bb])), (a_s, .inr (6, [.int 10, .int 4, .ref a_sn, .int e_s])), (a_sn, .inl (G.2 0, 40, .inl f_s))] sz)) (va_Qi (fun (r : Int32) (u : va_W) => (∃ (o_r : Int32) (o_lr : Int32) (o_rf : Nat → Int32) (o_n : Int32) (o_f : Nat → Int32), (0 ≤ o_n.toInt ∧ o_n.toInt ≤ 10) ∧ (∀ r : Int, 0 ≤ r → r < o_n.toInt → 0 ≤ (tget o_f o_n.toInt 4 r (3 : Int32).toInt).toInt ∧ (tget o_f o_n.toInt 4 r (3 : Int32).toInt).toInt ≤ 1) ∧ (snS o_f o_n.toInt o_n.toInt.toNat ≤ 5) ∧ (r = o_r) ∧ (u = [(a_o, .inr (11, [.ref a_h, .ref a_im, .ref a_ke, .ref a_k, .ref a_wa, .ref a_th, .ref a_ha, .ref a_wk, .ref a_r, .ref a_x, .int e_tl, .int e_fd, .int e_fpl, .ref a_wd, .int e_wn, .ref a_rf, .int o_lr])), (a_rf, .inl (G.2 0, 5, .inl o_rf)), (a_h, .inr (1, [.long e_wa, .int e_le, .int e_st, .int e_fo, .int e_lc, .ref a_l, .ref a_g, .ref a_b, .ref a_s, .ref a_p, .ref a_w, .long e_gb, .ref a_bb])), (a_s, .inr (6, [.int 10, .int 4, .ref a_sn, .int o_n])), (a_sn, .inl (G.2 0, 40, .inl o_f))]))) (g5_B G (va_A [(a_o, .inr (11, [.ref a_h, .ref a_im, .ref a_ke, .ref a_k, .ref a_wa, .ref a_th, .ref a_ha, .ref a_wk, .ref a_r, .ref a_x, .int e_tl, .int e_fd, .int e_fpl, .ref a_wd, .int e_wn, .ref a_rf, .int e_lr])), (a_rf, .inl (G.2 0, 5, .inl f_rf)), (a_h, .inr (1, [.long e_wa, .int e_le, .int e_st, .int e_fo, .int e_lc, .ref a_l, .ref a_g, .ref a_b, .ref a_s, .ref a_p, .ref a_w, .long e_gb, .ref a_bb])), (a_s, .inr (6, [.int 10, .int 4, .ref a_sn, .int e_s])), (a_sn, .inl (G.2 0, 40, .inl f_s))] sz)) (va_A [(a_o, .inr (11, [.ref a_h, .ref a_im, .ref a_ke, .ref a_k, .ref a_wa, .ref a_th, .ref a_ha, .ref a_wk, .ref a_r, .ref a_x, .int e_tl, .int e_fd, .int e_fpl, .ref a_wd, .int e_wn, .ref a_rf, .int e_lr])), (a_rf, .inl (G.2 0, 5, .inl f_rf)), (a_h, .inr (1, [.long e_wa, .int e_le, .int e_st, .int e_fo, .int e_lc, .ref a_l, .ref a_g, .ref a_b, .ref a_s, .ref a_p, .ref a_w, .long e_gb, .ref a_bb])), (a_s, .inr (6, [.int 10, .int 4, .ref a_sn, .int e_s])), (a_sn, .inl (G.2 0, 40, .inl f_s))] sz)) 0 0 (va_A [(a_o, .inr (11, [.ref a_h, .ref a_im, .ref a_ke, .ref a_k, .ref a_wa, .ref a_th, .ref a_ha, .ref a_wk, .ref a_r, .ref a_x, .int e_tl, .int e_fd, .int e_fpl, .ref a_wd, .int e_wn, .ref a_rf, .int e_lr])), (a_rf, .inl (G.2 0, 5, .inl f_rf)), (a_h, .inr (1, [.long e_wa, .int e_le, .int e_st, .int e_fo, .int e_lc, .ref a_l, .ref a_g, .ref a_b, .ref a_s, .ref a_p, .ref a_w, .long e_gb, .ref a_bb])), (a_s, .inr (6, [.int 10, .int 4, .ref a_sn, .int e_s])), (a_sn, .inl (G.2 0, 40, .inl f_s))] sz) := by
  refine Met.ofW (cc := cX11_sighting) (maxL := 6) (ret := (some .int)) (by decide) rfl ?_
  intro p e s m args below meth c s₁ B hml hv
  obtain ⟨rfl, hsz, hP, hK, hD0, hN, hT⟩ := hv
  have hx := B.exec
  have hb := B.bytes
  have hr := B.returns
  have hts : ∀ w ∈ tblG, w.before _ s = true := fun w h => atoms_spec (ws := (wsG yX11_sighting cX11_sighting 6 (some .int))) B.pre w (List.mem_cons_of_mem _ h)
  have hown : s.vm.findClass RX11 = some m.cls := findClass_of_methodNamed B.named
  have hlocks := B.notSynchronized
  subst hsz
  have hD := hD0.self (sz := s.heap.size)
  generalize hAe : va_A [(a_o, .inr (11, [.ref a_h, .ref a_im, .ref a_ke, .ref a_k, .ref a_wa, .ref a_th, .ref a_ha, .ref a_wk, .ref a_r, .ref a_x, .int e_tl, .int e_fd, .int e_fpl, .ref a_wd, .int e_wn, .ref a_rf, .int e_lr])), (a_rf, .inl (G.2 0, 5, .inl f_rf)), (a_h, .inr (1, [.long e_wa, .int e_le, .int e_st, .int e_fo, .int e_lc, .ref a_l, .ref a_g, .ref a_b, .ref a_s, .ref a_p, .ref a_w, .long e_gb, .ref a_bb])), (a_s, .inr (6, [.int 10, .int 4, .ref a_sn, .int e_s])), (a_sn, .inl (G.2 0, 40, .inl f_s))] s.heap.size = A at hD hT ⊢
  have hA : ∀ q : Nat, s.heap.size ≤ q → A q := fun q h => by rw [← hAe]; exact Or.inr h
  have hS : va_S A s.heap s.heap [] := va_S.rf
  have hP : va_P G.1 vwCl [(a_o, .inr (11, [.ref a_h, .ref a_im, .ref a_ke, .ref a_k, .ref a_wa, .ref a_th, .ref a_ha, .ref a_wk, .ref a_r, .ref a_x, .int e_tl, .int e_fd, .int e_fpl, .ref a_wd, .int e_wn, .ref a_rf, .int e_lr])), (a_rf, .inl (G.2 0, 5, .inl f_rf)), (a_h, .inr (1, [.long e_wa, .int e_le, .int e_st, .int e_fo, .int e_lc, .ref a_l, .ref a_g, .ref a_b, .ref a_s, .ref a_p, .ref a_w, .long e_gb, .ref a_bb])), (a_s, .inr (6, [.int 10, .int 4, .ref a_sn, .int e_s])), (a_sn, .inl (G.2 0, 40, .inl f_s))] s.heap := hP
  have hl := lv_entry ([.ref a_o, .int p_c, .int p_w, .int p_h, .int p_s]) (n := 6) (Nat.le_of_ble_eq_true rfl)
  rw [lg_entry_eq]
  generalize (lg_sl ([.ref a_o, .int p_c, .int p_w, .int p_h, .int p_s]) ++ List.replicate (6 - (lg_sl ([.ref a_o, .int p_c, .int p_w, .int p_h, .int p_s])).length) Slot.unset).toArray = ls at hl ⊢
  have hl : lv_has ls 6 [(0, .ref a_o), (1, .int p_c), (2, .int p_w), (3, .int p_h), (4, .int p_s)] := hl
  refine lv_iload_n hx hb dX11_sighting_0 rfl (lv_at hl 1 rfl) ?_
  refine lv_iload_n hx hb dX11_sighting_1 rfl (lv_at hl 2 rfl) ?_
  refine lv_iload_n hx hb dX11_sighting_2 rfl (lv_at hl 3 rfl) ?_
  have hPc := hP.sub (ws' := []) [] rfl
  have hDc := hD.sub (ws' := []) [] (by decide) rfl
  have hFc := va_free (wc := []) hD hS hA [] rfl
  refine va_calli (va_runS (As := [.int p_c, .int p_w, .int p_h]) (rest := []) ⟨hx, hb, hml, hown, hts⟩ (x_isLook l G s.heap.size p_c p_w p_h) (va_cwS 3 hts gS_X11_207 rfl rfl rfl hs_X11_isLook ⟨Nat.le_of_ble_eq_true rfl, Nat.le_of_ble_eq_true rfl⟩) (g5_preS hPc hK hDc hN hT hS hFc) rfl rfl hl.1 rfl (lv_room (Nat.le_of_ble_eq_true rfl)) dX11_sighting_3 ⟨Nat.le_of_ble_eq_true rfl, Nat.le_of_ble_eq_true rfl⟩) hS (fun q _ h => hFc q h) hFc (fun r u t H1 locs ht hvm hw hB hz1 hk1 hS => ?_)
  obtain ⟨hP1, hD1⟩ := hB
  rw [ht] at hP1
  rcases hw with ⟨i_1, rfl, rfl⟩ | ⟨rfl, rfl⟩
  ·
    have i_1 : (0 ≤ p_c.toInt ∧ p_c.toInt ≤ 63) ∧ (0 ≤ p_w.toInt ∧ p_w.toInt ≤ 3) ∧ (0 ≤ p_h.toInt ∧ p_h.toInt ≤ 23) := i_1
    have hP := g5_same hP hk1
    generalize H1 = H at hP hS ⊢
    refine lv_if_eq (tgt := 17) hx hb dX11_sighting_6 (by decide) (fun c_2 => ?_) (fun c_2 => ?_)
    ·
      exact absurd c_2 (by decide)
    ·
      refine lv_iload hx hb dX11_sighting_9 (lv_at hl 4 rfl) ?_
      have hPc := hP.sub (ws' := []) [] rfl
      have hDc := hD.sub (ws' := []) [] (by decide) rfl
      have hFc := va_free (wc := []) hD hS hA [] rfl
      refine va_calli (va_runS (As := [.int p_s]) (rest := []) ⟨hx, hb, hml, hown, hts⟩ (x_isFlag l G H.size p_s) (va_cwS 1 hts gS_X11_101 rfl rfl rfl hs_X11_isFlag ⟨Nat.le_of_ble_eq_true rfl, Nat.le_of_ble_eq_true rfl⟩) (g5_preS hPc hK hDc hN hT hS hFc) rfl rfl hl.1 rfl (lv_room (Nat.le_of_ble_eq_true rfl)) dX11_sighting_11 ⟨Nat.le_of_ble_eq_true rfl, Nat.le_of_ble_eq_true rfl⟩) hS (fun q _ h => hFc q h) hFc (fun r u t H1 locs ht hvm hw hB hz1 hk1 hS => ?_)
      obtain ⟨hP1, hD1⟩ := hB
      rw [ht] at hP1
      rcases hw with ⟨i_3, rfl, rfl⟩ | ⟨rfl, rfl⟩
      ·
        have i_3 : 0 ≤ p_s.toInt ∧ p_s.toInt ≤ 1 := i_3
        have hP := g5_same hP hk1
        generalize H1 = H at hP hS ⊢
        refine lv_if_ne (tgt := 23) hx hb dX11_sighting_14 (by decide) (fun c_4 => ?_) (fun c_4 => ?_)
        ·
          refine lv_aload_n hx hb dX11_sighting_23 rfl (lv_at hl 0 rfl) ?_
          refine va_get (D := G.1) (ci := 11) (v := .ref a_h) (C := RX11) (T := TX11) (N := 17) hx hb hts inG_X11 hown hK hP 0 rfl rfl 0 (by decide) (hts _ fl_X11_12) (fun _ h9 => h9) rfl dX11_sighting_24 ?_
          refine va_get (D := G.1) (ci := 1) (v := .ref a_s) (C := RX1) (T := TX1) (N := 13) hx hb hts inG_X1 hown hK hP 2 rfl rfl 8 (by decide) (hts _ fl_X11_261) (fun _ h9 => h9) rfl dX11_sighting_27 ?_
          have hPc := hP.sub (ws' := [(a_s, .inr (6, [.int 10, .int 4, .ref a_sn, .int e_s]))]) [3] rfl
          have hDc := hD.sub (ws' := [(a_s, .inr (6, [.int 10, .int 4, .ref a_sn, .int e_s]))]) [3] (by decide) rfl
          have hFc := va_free (wc := [(a_s, .inr (6, [.int 10, .int 4, .ref a_sn, .int e_s]))]) hD hS hA [3] rfl
          refine va_calli (va_runV (As := []) (rest := []) ⟨hx, hb, hml, hown, hts⟩ (t_isFull_S l G a_s a_sn H.size e_s ⟨by omega, by omega⟩) (cwV 0 hts gV_X11_140 rfl rfl rfl hv_X6_isFull ⟨Nat.le_of_ble_eq_true rfl, Nat.le_of_ble_eq_true rfl⟩) (g5_preV hPc hK hDc hN hT hS hFc (ci := 6) (q0 := 0) rfl rfl) rfl rfl hl.1 rfl (lv_room (Nat.le_of_ble_eq_true rfl)) dX11_sighting_30 ⟨Nat.le_of_ble_eq_true rfl, Nat.le_of_ble_eq_true rfl⟩) hS (fun q _ h => hFc q h) hFc (fun r u t H1 locs ht hvm hw hB hz1 hk1 hS => ?_)
          obtain ⟨hP1, hD1⟩ := hB
          rw [ht] at hP1
          rcases hw with ⟨i_5, rfl, rfl⟩ | ⟨i_6, rfl, rfl⟩
          ·
            have i_5 : e_s.toInt = 10 := i_5
            obtain ⟨hP, hD⟩ := va_join (wr := [(a_o, .inr (11, [.ref a_h, .ref a_im, .ref a_ke, .ref a_k, .ref a_wa, .ref a_th, .ref a_ha, .ref a_wk, .ref a_r, .ref a_x, .int e_tl, .int e_fd, .int e_fpl, .ref a_wd, .int e_wn, .ref a_rf, .int e_lr])), (a_rf, .inl (G.2 0, 5, .inl f_rf)), (a_h, .inr (1, [.long e_wa, .int e_le, .int e_st, .int e_fo, .int e_lc, .ref a_l, .ref a_g, .ref a_b, .ref a_s, .ref a_p, .ref a_w, .long e_gb, .ref a_bb])), (a_sn, .inl (G.2 0, 40, .inl f_s))]) (w1 := [(a_s, .inr (6, [.int 10, .int 4, .ref a_sn, .int e_s]))]) hP hD [3] [0, 1, 2, 4] rfl rfl (by decide) (by decide) hk1 hFc hP1 hD1
            generalize H1 = H at hP hS ⊢
            have hP : va_P G.1 vwCl [(a_o, .inr (11, [.ref a_h, .ref a_im, .ref a_ke, .ref a_k, .ref a_wa, .ref a_th, .ref a_ha, .ref a_wk, .ref a_r, .ref a_x, .int e_tl, .int e_fd, .int e_fpl, .ref a_wd, .int e_wn, .ref a_rf, .int e_lr])), (a_rf, .inl (G.2 0, 5, .inl f_rf)), (a_h, .inr (1, [.long e_wa, .int e_le, .int e_st, .int e_fo, .int e_lc, .ref a_l, .ref a_g, .ref a_b, .ref a_s, .ref a_p, .ref a_w, .long e_gb, .ref a_bb])), (a_sn, .inl (G.2 0, 40, .inl f_s)), (a_s, .inr (6, [.int 10, .int 4, .ref a_sn, .int e_s]))] H := hP
            have hD : va_D A [(a_o, .inr (11, [.ref a_h, .ref a_im, .ref a_ke, .ref a_k, .ref a_wa, .ref a_th, .ref a_ha, .ref a_wk, .ref a_r, .ref a_x, .int e_tl, .int e_fd, .int e_fpl, .ref a_wd, .int e_wn, .ref a_rf, .int e_lr])), (a_rf, .inl (G.2 0, 5, .inl f_rf)), (a_h, .inr (1, [.long e_wa, .int e_le, .int e_st, .int e_fo, .int e_lc, .ref a_l, .ref a_g, .ref a_b, .ref a_s, .ref a_p, .ref a_w, .long e_gb, .ref a_bb])), (a_sn, .inl (G.2 0, 40, .inl f_s)), (a_s, .inr (6, [.int 10, .int 4, .ref a_sn, .int e_s]))] := hD
            refine lv_if_ne (tgt := 53) hx hb dX11_sighting_33 (by decide) (fun c_7 => ?_) (fun c_7 => ?_)
            ·
              refine lv_aload_n hx hb dX11_sighting_53 rfl (lv_at hl 0 rfl) ?_
              refine lv_bipush (v := (-5)) hx hb dX11_sighting_54 (by decide) ?_
              have hPc := hP.sub (ws' := [(a_o, .inr (11, [.ref a_h, .ref a_im, .ref a_ke, .ref a_k, .ref a_wa, .ref a_th, .ref a_ha, .ref a_wk, .ref a_r, .ref a_x, .int e_tl, .int e_fd, .int e_fpl, .ref a_wd, .int e_wn, .ref a_rf, .int e_lr])), (a_rf, .inl (G.2 0, 5, .inl f_rf))]) [0, 1] rfl
              have hDc := hD.sub (ws' := [(a_o, .inr (11, [.ref a_h, .ref a_im, .ref a_ke, .ref a_k, .ref a_wa, .ref a_th, .ref a_ha, .ref a_wk, .ref a_r, .ref a_x, .int e_tl, .int e_fd, .int e_fpl, .ref a_wd, .int e_wn, .ref a_rf, .int e_lr])), (a_rf, .inl (G.2 0, 5, .inl f_rf))]) [0, 1] (by decide) rfl
              have hFc := va_free (wc := [(a_o, .inr (11, [.ref a_h, .ref a_im, .ref a_ke, .ref a_k, .ref a_wa, .ref a_th, .ref a_ha, .ref a_wk, .ref a_r, .ref a_x, .int e_tl, .int e_fd, .int e_fpl, .ref a_wd, .int e_wn, .ref a_rf, .int e_lr])), (a_rf, .inl (G.2 0, 5, .inl f_rf))]) hD hS hA [0, 1] rfl
              refine va_calli (va_runV (As := [.int (-5)]) (rest := []) ⟨hx, hb, hml, hown, hts⟩ (x_refuse5 l G a_o a_rf a_h a_im a_ke a_k a_wa a_th a_ha a_wk a_r a_x a_wd H.size e_tl e_fd e_fpl e_wn e_lr f_rf ⟨by omega, by omega⟩ ⟨by omega, by omega⟩) (cwV 1 hts gV_X11_104 rfl rfl rfl hv_X11_refuse ⟨Nat.le_of_ble_eq_true rfl, Nat.le_of_ble_eq_true rfl⟩) (g5_preV hPc hK hDc hN hT hS hFc (ci := 11) (q0 := 0) rfl rfl) rfl rfl hl.1 rfl (lv_room (Nat.le_of_ble_eq_true rfl)) dX11_sighting_56 ⟨Nat.le_of_ble_eq_true rfl, Nat.le_of_ble_eq_true rfl⟩) hS (fun q _ h => hFc q h) hFc (fun r u t H1 locs ht hvm hw hB hz1 hk1 hS => ?_)
              obtain ⟨hP1, hD1⟩ := hB
              rw [ht] at hP1
              obtain ⟨z8, rfl, rfl⟩ := hw
              obtain ⟨hP, hD⟩ := va_join (wr := [(a_h, .inr (1, [.long e_wa, .int e_le, .int e_st, .int e_fo, .int e_lc, .ref a_l, .ref a_g, .ref a_b, .ref a_s, .ref a_p, .ref a_w, .long e_gb, .ref a_bb])), (a_sn, .inl (G.2 0, 40, .inl f_s)), (a_s, .inr (6, [.int 10, .int 4, .ref a_sn, .int e_s]))]) (w1 := [(a_o, .inr (11, [.ref a_h, .ref a_im, .ref a_ke, .ref a_k, .ref a_wa, .ref a_th, .ref a_ha, .ref a_wk, .ref a_r, .ref a_x, .int e_tl, .int e_fd, .int e_fpl, .ref a_wd, .int e_wn, .ref a_rf, .int (-5)])), (a_rf, .inl (G.2 0, 5, .inl z8))]) hP hD [0, 1] [2, 3, 4] rfl rfl (by decide) (by decide) hk1 hFc hP1 hD1
              generalize H1 = H at hP hS ⊢
              have hP : va_P G.1 vwCl [(a_h, .inr (1, [.long e_wa, .int e_le, .int e_st, .int e_fo, .int e_lc, .ref a_l, .ref a_g, .ref a_b, .ref a_s, .ref a_p, .ref a_w, .long e_gb, .ref a_bb])), (a_sn, .inl (G.2 0, 40, .inl f_s)), (a_s, .inr (6, [.int 10, .int 4, .ref a_sn, .int e_s])), (a_o, .inr (11, [.ref a_h, .ref a_im, .ref a_ke, .ref a_k, .ref a_wa, .ref a_th, .ref a_ha, .ref a_wk, .ref a_r, .ref a_x, .int e_tl, .int e_fd, .int e_fpl, .ref a_wd, .int e_wn, .ref a_rf, .int (-5)])), (a_rf, .inl (G.2 0, 5, .inl z8))] H := hP
              have hD : va_D A [(a_h, .inr (1, [.long e_wa, .int e_le, .int e_st, .int e_fo, .int e_lc, .ref a_l, .ref a_g, .ref a_b, .ref a_s, .ref a_p, .ref a_w, .long e_gb, .ref a_bb])), (a_sn, .inl (G.2 0, 40, .inl f_s)), (a_s, .inr (6, [.int 10, .int 4, .ref a_sn, .int e_s])), (a_o, .inr (11, [.ref a_h, .ref a_im, .ref a_ke, .ref a_k, .ref a_wa, .ref a_th, .ref a_ha, .ref a_wk, .ref a_r, .ref a_x, .int e_tl, .int e_fd, .int e_fpl, .ref a_wd, .int e_wn, .ref a_rf, .int (-5)])), (a_rf, .inl (G.2 0, 5, .inl z8))] := hD
              exact W.iret (v := (-5)) hx hb hr (fun t ht hW => ⟨⟨(-5), [(a_o, .inr (11, [.ref a_h, .ref a_im, .ref a_ke, .ref a_k, .ref a_wa, .ref a_th, .ref a_ha, .ref a_wk, .ref a_r, .ref a_x, .int e_tl, .int e_fd, .int e_fpl, .ref a_wd, .int e_wn, .ref a_rf, .int (-5)])), (a_rf, .inl (G.2 0, 5, .inl z8)), (a_h, .inr (1, [.long e_wa, .int e_le, .int e_st, .int e_fo, .int e_lc, .ref a_l, .ref a_g, .ref a_b, .ref a_s, .ref a_p, .ref a_w, .long e_gb, .ref a_bb])), (a_s, .inr (6, [.int 10, .int 4, .ref a_sn, .int e_s])), (a_sn, .inl (G.2 0, 40, .inl f_s))], rfl, ⟨(-5), (-5), z8, e_s, f_s, ⟨by omega, by omega⟩, e_sh, e_s5, rfl, rfl⟩, by rw [ht]; exact hP.sub [3, 4, 0, 2, 1] rfl, hD.sub [3, 4, 0, 2, 1] (by decide) rfl⟩, hS.F ht⟩) hS.2.2 dX11_sighting_59
            ·
              exact absurd c_7 (by decide)
          ·
            have i_6 : e_s.toInt < 10 := i_6
            obtain ⟨hP, hD⟩ := va_join (wr := [(a_o, .inr (11, [.ref a_h, .ref a_im, .ref a_ke, .ref a_k, .ref a_wa, .ref a_th, .ref a_ha, .ref a_wk, .ref a_r, .ref a_x, .int e_tl, .int e_fd, .int e_fpl, .ref a_wd, .int e_wn, .ref a_rf, .int e_lr])), (a_rf, .inl (G.2 0, 5, .inl f_rf)), (a_h, .inr (1, [.long e_wa, .int e_le, .int e_st, .int e_fo, .int e_lc, .ref a_l, .ref a_g, .ref a_b, .ref a_s, .ref a_p, .ref a_w, .long e_gb, .ref a_bb])), (a_sn, .inl (G.2 0, 40, .inl f_s))]) (w1 := [(a_s, .inr (6, [.int 10, .int 4, .ref a_sn, .int e_s]))]) hP hD [3] [0, 1, 2, 4] rfl rfl (by decide) (by decide) hk1 hFc hP1 hD1
            generalize H1 = H at hP hS ⊢
            have hP : va_P G.1 vwCl [(a_o, .inr (11, [.ref a_h, .ref a_im, .ref a_ke, .ref a_k, .ref a_wa, .ref a_th, .ref a_ha, .ref a_wk, .ref a_r, .ref a_x, .int e_tl, .int e_fd, .int e_fpl, .ref a_wd, .int e_wn, .ref a_rf, .int e_lr])), (a_rf, .inl (G.2 0, 5, .inl f_rf)), (a_h, .inr (1, [.long e_wa, .int e_le, .int e_st, .int e_fo, .int e_lc, .ref a_l, .ref a_g, .ref a_b, .ref a_s, .ref a_p, .ref a_w, .long e_gb, .ref a_bb])), (a_sn, .inl (G.2 0, 40, .inl f_s)), (a_s, .inr (6, [.int 10, .int 4, .ref a_sn, .int e_s]))] H := hP
            have hD : va_D A [(a_o, .inr (11, [.ref a_h, .ref a_im, .ref a_ke, .ref a_k, .ref a_wa, .ref a_th, .ref a_ha, .ref a_wk, .ref a_r, .ref a_x, .int e_tl, .int e_fd, .int e_fpl, .ref a_wd, .int e_wn, .ref a_rf, .int e_lr])), (a_rf, .inl (G.2 0, 5, .inl f_rf)), (a_h, .inr (1, [.long e_wa, .int e_le, .int e_st, .int e_fo, .int e_lc, .ref a_l, .ref a_g, .ref a_b, .ref a_s, .ref a_p, .ref a_w, .long e_gb, .ref a_bb])), (a_sn, .inl (G.2 0, 40, .inl f_s)), (a_s, .inr (6, [.int 10, .int 4, .ref a_sn, .int e_s]))] := hD
            refine lv_if_ne (tgt := 53) hx hb dX11_sighting_33 (by decide) (fun c_9 => ?_) (fun c_9 => ?_)
            ·
              exact absurd c_9 (by decide)
            ·
              refine lv_iload hx hb dX11_sighting_36 (lv_at hl 4 rfl) ?_
              refine lv_iconst (v := 1) hx hb dX11_sighting_38 (by decide) ?_
              refine lv_icmp_ne (tgt := 60) hx hb dX11_sighting_39 (by decide) (fun c_10 => ?_) (fun c_10 => ?_)
              ·
                have n_10 : gNe (p_s.toInt) (1) := by have z := g5_ne (a := p_s.toInt) (b := 1) (by rfl) (by decide) c_10; unfold gNe; omega
                have i_10 : p_s.toInt ≤ 0 := by have z := g5_ne (a := p_s.toInt) (b := 1) (by rfl) (by decide) c_10; omega
                refine lv_aload_n hx hb dX11_sighting_60 rfl (lv_at hl 0 rfl) ?_
                refine va_get (D := G.1) (ci := 11) (v := .ref a_h) (C := RX11) (T := TX11) (N := 17) hx hb hts inG_X11 hown hK hP 0 rfl rfl 0 (by decide) (hts _ fl_X11_12) (fun _ h9 => h9) rfl dX11_sighting_61 ?_
                refine va_get (D := G.1) (ci := 1) (v := .ref a_s) (C := RX1) (T := TX1) (N := 13) hx hb hts inG_X1 hown hK hP 2 rfl rfl 8 (by decide) (hts _ fl_X11_261) (fun _ h9 => h9) rfl dX11_sighting_64 ?_
                refine lv_iconst (v := 0) hx hb dX11_sighting_67 (by decide) ?_
                have hPc := hP.sub (ws' := [(a_s, .inr (6, [.int 10, .int 4, .ref a_sn, .int e_s])), (a_sn, .inl (G.2 0, 40, .inl f_s))]) [4, 3] rfl
                have hDc := hD.sub (ws' := [(a_s, .inr (6, [.int 10, .int 4, .ref a_sn, .int e_s])), (a_sn, .inl (G.2 0, 40, .inl f_s))]) [4, 3] (by decide) rfl
                have hFc := va_free (wc := [(a_s, .inr (6, [.int 10, .int 4, .ref a_sn, .int e_s])), (a_sn, .inl (G.2 0, 40, .inl f_s))]) hD hS hA [4, 3] rfl
                refine va_calli (va_runV (As := [.int 0]) (rest := []) ⟨hx, hb, hml, hown, hts⟩ (t_open_S l G a_s a_sn H.size e_s 0 f_s ⟨by omega, by omega⟩) (cwV 1 hts gV_X11_146 rfl rfl rfl hv_X6_open ⟨Nat.le_of_ble_eq_true rfl, Nat.le_of_ble_eq_true rfl⟩) (g5_preV hPc hK hDc hN hT hS hFc (ci := 6) (q0 := 0) rfl rfl) rfl rfl hl.1 rfl (lv_room (Nat.le_of_ble_eq_true rfl)) dX11_sighting_68 ⟨Nat.le_of_ble_eq_true rfl, Nat.le_of_ble_eq_true rfl⟩) hS (fun q _ h => hFc q h) hFc (fun r u t H1 locs ht hvm hw hB hz1 hk1 hS => ?_)
                obtain ⟨hP1, hD1⟩ := hB
                rw [ht] at hP1
                rcases hw with ⟨i_11, rfl, rfl⟩ | ⟨z15, i_12, i_13, i_14, y16, rfl⟩
                ·
                  have i_11 : e_s.toInt = 10 := i_11
                  omega
                ·
                  have i_12 : e_s.toInt < 10 := i_12
                  have i_13 : (e_s + 1).toInt = e_s.toInt + 1 := i_13
                  have i_14 : z15 = tfil f_s e_s.toInt 4 (0 : Int32) 4 := i_14
                  obtain ⟨hP, hD⟩ := va_join (wr := [(a_o, .inr (11, [.ref a_h, .ref a_im, .ref a_ke, .ref a_k, .ref a_wa, .ref a_th, .ref a_ha, .ref a_wk, .ref a_r, .ref a_x, .int e_tl, .int e_fd, .int e_fpl, .ref a_wd, .int e_wn, .ref a_rf, .int e_lr])), (a_rf, .inl (G.2 0, 5, .inl f_rf)), (a_h, .inr (1, [.long e_wa, .int e_le, .int e_st, .int e_fo, .int e_lc, .ref a_l, .ref a_g, .ref a_b, .ref a_s, .ref a_p, .ref a_w, .long e_gb, .ref a_bb]))]) (w1 := [(a_s, .inr (6, [.int 10, .int 4, .ref a_sn, .int (e_s + 1)])), (a_sn, .inl (G.2 0, 40, .inl z15))]) hP hD [4, 3] [0, 1, 2] rfl rfl (by decide) (by decide) hk1 hFc hP1 hD1
                  generalize H1 = H at hP hS ⊢
                  have hP : va_P G.1 vwCl [(a_o, .inr (11, [.ref a_h, .ref a_im, .ref a_ke, .ref a_k, .ref a_wa, .ref a_th, .ref a_ha, .ref a_wk, .ref a_r, .ref a_x, .int e_tl, .int e_fd, .int e_fpl, .ref a_wd, .int e_wn, .ref a_rf, .int e_lr])), (a_rf, .inl (G.2 0, 5, .inl f_rf)), (a_h, .inr (1, [.long e_wa, .int e_le, .int e_st, .int e_fo, .int e_lc, .ref a_l, .ref a_g, .ref a_b, .ref a_s, .ref a_p, .ref a_w, .long e_gb, .ref a_bb])), (a_s, .inr (6, [.int 10, .int 4, .ref a_sn, .int (e_s + 1)])), (a_sn, .inl (G.2 0, 40, .inl z15))] H := hP
                  have hD : va_D A [(a_o, .inr (11, [.ref a_h, .ref a_im, .ref a_ke, .ref a_k, .ref a_wa, .ref a_th, .ref a_ha, .ref a_wk, .ref a_r, .ref a_x, .int e_tl, .int e_fd, .int e_fpl, .ref a_wd, .int e_wn, .ref a_rf, .int e_lr])), (a_rf, .inl (G.2 0, 5, .inl f_rf)), (a_h, .inr (1, [.long e_wa, .int e_le, .int e_st, .int e_fo, .int e_lc, .ref a_l, .ref a_g, .ref a_b, .ref a_s, .ref a_p, .ref a_w, .long e_gb, .ref a_bb])), (a_s, .inr (6, [.int 10, .int 4, .ref a_sn, .int (e_s + 1)])), (a_sn, .inl (G.2 0, 40, .inl z15))] := hD
                  refine g5_ti (v := e_s) y16 ?_
                  refine lv_istore (lv' := [(5, .int e_s), (0, .ref a_o), (1, .int p_c), (2, .int p_w), (3, .int p_h), (4, .int p_s)]) hx hb dX11_sighting_71 hl (by decide) rfl (fun ls hl => ?_)
                  refine lv_aload_n hx hb dX11_sighting_73 rfl (lv_at hl 1 rfl) ?_
                  refine va_get (D := G.1) (ci := 11) (v := .ref a_h) (C := RX11) (T := TX11) (N := 17) hx hb hts inG_X11 hown hK hP 0 rfl rfl 0 (by decide) (hts _ fl_X11_12) (fun _ h9 => h9) rfl dX11_sighting_74 ?_
                  refine va_get (D := G.1) (ci := 1) (v := .ref a_s) (C := RX1) (T := TX1) (N := 13) hx hb hts inG_X1 hown hK hP 2 rfl rfl 8 (by decide) (hts _ fl_X11_261) (fun _ h9 => h9) rfl dX11_sighting_77 ?_
                  refine lv_iload hx hb dX11_sighting_80 (lv_at hl 0 rfl) ?_
                  refine lv_iload_n hx hb dX11_sighting_82 rfl (lv_at hl 2 rfl) ?_
                  refine lv_iload_n hx hb dX11_sighting_83 rfl (lv_at hl 3 rfl) ?_
                  refine lv_iload_n hx hb dX11_sighting_84 rfl (lv_at hl 4 rfl) ?_
                  have hPc := hP.sub (ws' := [(a_s, .inr (6, [.int 10, .int 4, .ref a_sn, .int (e_s + 1)])), (a_sn, .inl (G.2 0, 40, .inl z15))]) [3, 4] rfl
                  have hDc := hD.sub (ws' := [(a_s, .inr (6, [.int 10, .int 4, .ref a_sn, .int (e_s + 1)])), (a_sn, .inl (G.2 0, 40, .inl z15))]) [3, 4] (by decide) rfl
                  have hFc := va_free (wc := [(a_s, .inr (6, [.int 10, .int 4, .ref a_sn, .int (e_s + 1)])), (a_sn, .inl (G.2 0, 40, .inl z15))]) hD hS hA [3, 4] rfl
                  refine va_callv (va_runV (As := [.int e_s, .int p_c, .int p_w, .int p_h]) (rest := []) ⟨hx, hb, hml, hown, hts⟩ (t_setLook_S l G a_s a_sn H.size (e_s + 1) e_s p_c p_w p_h z15 ⟨by omega, by omega⟩) (cwV 4 hts gV_X11_268 rfl rfl rfl hv_X6_setLook ⟨Nat.le_of_ble_eq_true rfl, Nat.le_of_ble_eq_true rfl⟩) (g5_preV hPc hK hDc hN hT hS hFc (ci := 6) (q0 := 0) rfl rfl) rfl rfl hl.1 rfl (lv_room (Nat.le_of_ble_eq_true rfl)) dX11_sighting_85 ⟨Nat.le_of_ble_eq_true rfl, Nat.le_of_ble_eq_true rfl⟩) hS (fun q _ h => hFc q h) hFc (fun u t H1 locs ht hvm hw hB hz1 hk1 hS => ?_)
                  obtain ⟨hP1, hD1⟩ := hB
                  rw [ht] at hP1
                  obtain ⟨z18, i_17, rfl⟩ := hw
                  have i_17 : z18 = tset (tset (tset z15 (e_s + 1).toInt 4 e_s.toInt (0 : Int32).toInt p_c) (e_s + 1).toInt 4 e_s.toInt (1 : Int32).toInt p_w) (e_s + 1).toInt 4 e_s.toInt (2 : Int32).toInt p_h := i_17
                  obtain ⟨hP, hD⟩ := va_join (wr := [(a_o, .inr (11, [.ref a_h, .ref a_im, .ref a_ke, .ref a_k, .ref a_wa, .ref a_th, .ref a_ha, .ref a_wk, .ref a_r, .ref a_x, .int e_tl, .int e_fd, .int e_fpl, .ref a_wd, .int e_wn, .ref a_rf, .int e_lr])), (a_rf, .inl (G.2 0, 5, .inl f_rf)), (a_h, .inr (1, [.long e_wa, .int e_le, .int e_st, .int e_fo, .int e_lc, .ref a_l, .ref a_g, .ref a_b, .ref a_s, .ref a_p, .ref a_w, .long e_gb, .ref a_bb]))]) (w1 := [(a_s, .inr (6, [.int 10, .int 4, .ref a_sn, .int (e_s + 1)])), (a_sn, .inl (G.2 0, 40, .inl z18))]) hP hD [3, 4] [0, 1, 2] rfl rfl (by decide) (by decide) hk1 hFc hP1 hD1
                  generalize H1 = H at hP hS ⊢
                  have hP : va_P G.1 vwCl [(a_o, .inr (11, [.ref a_h, .ref a_im, .ref a_ke, .ref a_k, .ref a_wa, .ref a_th, .ref a_ha, .ref a_wk, .ref a_r, .ref a_x, .int e_tl, .int e_fd, .int e_fpl, .ref a_wd, .int e_wn, .ref a_rf, .int e_lr])), (a_rf, .inl (G.2 0, 5, .inl f_rf)), (a_h, .inr (1, [.long e_wa, .int e_le, .int e_st, .int e_fo, .int e_lc, .ref a_l, .ref a_g, .ref a_b, .ref a_s, .ref a_p, .ref a_w, .long e_gb, .ref a_bb])), (a_s, .inr (6, [.int 10, .int 4, .ref a_sn, .int (e_s + 1)])), (a_sn, .inl (G.2 0, 40, .inl z18))] H := hP
                  have hD : va_D A [(a_o, .inr (11, [.ref a_h, .ref a_im, .ref a_ke, .ref a_k, .ref a_wa, .ref a_th, .ref a_ha, .ref a_wk, .ref a_r, .ref a_x, .int e_tl, .int e_fd, .int e_fpl, .ref a_wd, .int e_wn, .ref a_rf, .int e_lr])), (a_rf, .inl (G.2 0, 5, .inl f_rf)), (a_h, .inr (1, [.long e_wa, .int e_le, .int e_st, .int e_fo, .int e_lc, .ref a_l, .ref a_g, .ref a_b, .ref a_s, .ref a_p, .ref a_w, .long e_gb, .ref a_bb])), (a_s, .inr (6, [.int 10, .int 4, .ref a_sn, .int (e_s + 1)])), (a_sn, .inl (G.2 0, 40, .inl z18))] := hD
                  refine lv_aload_n hx hb dX11_sighting_88 rfl (lv_at hl 1 rfl) ?_
                  refine va_get (D := G.1) (ci := 11) (v := .ref a_h) (C := RX11) (T := TX11) (N := 17) hx hb hts inG_X11 hown hK hP 0 rfl rfl 0 (by decide) (hts _ fl_X11_12) (fun _ h9 => h9) rfl dX11_sighting_89 ?_
                  refine va_get (D := G.1) (ci := 1) (v := .ref a_s) (C := RX1) (T := TX1) (N := 13) hx hb hts inG_X1 hown hK hP 2 rfl rfl 8 (by decide) (hts _ fl_X11_261) (fun _ h9 => h9) rfl dX11_sighting_92 ?_
                  refine lv_iload hx hb dX11_sighting_95 (lv_at hl 0 rfl) ?_
                  refine lv_iconst (v := 3) hx hb dX11_sighting_97 (by decide) ?_
                  refine lv_iload hx hb dX11_sighting_98 (lv_at hl 5 rfl) ?_
                  have hPc := hP.sub (ws' := [(a_s, .inr (6, [.int 10, .int 4, .ref a_sn, .int (e_s + 1)])), (a_sn, .inl (G.2 0, 40, .inl z18))]) [3, 4] rfl
                  have hDc := hD.sub (ws' := [(a_s, .inr (6, [.int 10, .int 4, .ref a_sn, .int (e_s + 1)])), (a_sn, .inl (G.2 0, 40, .inl z18))]) [3, 4] (by decide) rfl
                  have hFc := va_free (wc := [(a_s, .inr (6, [.int 10, .int 4, .ref a_sn, .int (e_s + 1)])), (a_sn, .inl (G.2 0, 40, .inl z18))]) hD hS hA [3, 4] rfl
                  refine va_callv (va_runV (As := [.int e_s, .int 3, .int p_s]) (rest := []) ⟨hx, hb, hml, hown, hts⟩ (t_set_S l G a_s a_sn H.size (e_s + 1) e_s 3 p_s z18 ⟨by omega, by omega⟩) (cwV 3 hts gV_X11_149 rfl rfl rfl hv_X6_set ⟨Nat.le_of_ble_eq_true rfl, Nat.le_of_ble_eq_true rfl⟩) (g5_preV hPc hK hDc hN hT hS hFc (ci := 6) (q0 := 0) rfl rfl) rfl rfl hl.1 rfl (lv_room (Nat.le_of_ble_eq_true rfl)) dX11_sighting_100 ⟨Nat.le_of_ble_eq_true rfl, Nat.le_of_ble_eq_true rfl⟩) hS (fun q _ h => hFc q h) hFc (fun u t H1 locs ht hvm hw hB hz1 hk1 hS => ?_)
                  obtain ⟨hP1, hD1⟩ := hB
                  rw [ht] at hP1
                  obtain ⟨z20, i_19, rfl⟩ := hw
                  have i_19 : z20 = tset z18 (e_s + 1).toInt 4 e_s.toInt (3 : Int32).toInt p_s := i_19
                  obtain ⟨hP, hD⟩ := va_join (wr := [(a_o, .inr (11, [.ref a_h, .ref a_im, .ref a_ke, .ref a_k, .ref a_wa, .ref a_th, .ref a_ha, .ref a_wk, .ref a_r, .ref a_x, .int e_tl, .int e_fd, .int e_fpl, .ref a_wd, .int e_wn, .ref a_rf, .int e_lr])), (a_rf, .inl (G.2 0, 5, .inl f_rf)), (a_h, .inr (1, [.long e_wa, .int e_le, .int e_st, .int e_fo, .int e_lc, .ref a_l, .ref a_g, .ref a_b, .ref a_s, .ref a_p, .ref a_w, .long e_gb, .ref a_bb]))]) (w1 := [(a_s, .inr (6, [.int 10, .int 4, .ref a_sn, .int (e_s + 1)])), (a_sn, .inl (G.2 0, 40, .inl z20))]) hP hD [3, 4] [0, 1, 2] rfl rfl (by decide) (by decide) hk1 hFc hP1 hD1
                  generalize H1 = H at hP hS ⊢
                  have hP : va_P G.1 vwCl [(a_o, .inr (11, [.ref a_h, .ref a_im, .ref a_ke, .ref a_k, .ref a_wa, .ref a_th, .ref a_ha, .ref a_wk, .ref a_r, .ref a_x, .int e_tl, .int e_fd, .int e_fpl, .ref a_wd, .int e_wn, .ref a_rf, .int e_lr])), (a_rf, .inl (G.2 0, 5, .inl f_rf)), (a_h, .inr (1, [.long e_wa, .int e_le, .int e_st, .int e_fo, .int e_lc, .ref a_l, .ref a_g, .ref a_b, .ref a_s, .ref a_p, .ref a_w, .long e_gb, .ref a_bb])), (a_s, .inr (6, [.int 10, .int 4, .ref a_sn, .int (e_s + 1)])), (a_sn, .inl (G.2 0, 40, .inl z20))] H := hP
                  have hD : va_D A [(a_o, .inr (11, [.ref a_h, .ref a_im, .ref a_ke, .ref a_k, .ref a_wa, .ref a_th, .ref a_ha, .ref a_wk, .ref a_r, .ref a_x, .int e_tl, .int e_fd, .int e_fpl, .ref a_wd, .int e_wn, .ref a_rf, .int e_lr])), (a_rf, .inl (G.2 0, 5, .inl f_rf)), (a_h, .inr (1, [.long e_wa, .int e_le, .int e_st, .int e_fo, .int e_lc, .ref a_l, .ref a_g, .ref a_b, .ref a_s, .ref a_p, .ref a_w, .long e_gb, .ref a_bb])), (a_s, .inr (6, [.int 10, .int 4, .ref a_sn, .int (e_s + 1)])), (a_sn, .inl (G.2 0, 40, .inl z20))] := hD
                  refine lv_aload_n hx hb dX11_sighting_103 rfl (lv_at hl 1 rfl) ?_
                  refine lv_aload_n hx hb dX11_sighting_104 rfl (lv_at hl 1 rfl) ?_
                  refine va_get (D := G.1) (ci := 11) (v := .ref a_h) (C := RX11) (T := TX11) (N := 17) hx hb hts inG_X11 hown hK hP 0 rfl rfl 0 (by decide) (hts _ fl_X11_12) (fun _ h9 => h9) rfl dX11_sighting_105 ?_
                  refine va_get (D := G.1) (ci := 1) (v := .ref a_s) (C := RX1) (T := TX1) (N := 13) hx hb hts inG_X1 hown hK hP 2 rfl rfl 8 (by decide) (hts _ fl_X11_261) (fun _ h9 => h9) rfl dX11_sighting_108 ?_
                  refine va_get (D := G.1) (ci := 6) (v := .int (e_s + 1)) (C := RX6) (T := TX6) (N := 4) hx hb hts inG_X6 hown hK hP 3 rfl rfl 3 (by decide) (hts _ fl_X11_238) (fun _ h9 => h9) rfl dX11_sighting_111 ?_
                  have hPc := hP.sub (ws' := [(a_o, .inr (11, [.ref a_h, .ref a_im, .ref a_ke, .ref a_k, .ref a_wa, .ref a_th, .ref a_ha, .ref a_wk, .ref a_r, .ref a_x, .int e_tl, .int e_fd, .int e_fpl, .ref a_wd, .int e_wn, .ref a_rf, .int e_lr]))]) [0] rfl
                  have hDc := hD.sub (ws' := [(a_o, .inr (11, [.ref a_h, .ref a_im, .ref a_ke, .ref a_k, .ref a_wa, .ref a_th, .ref a_ha, .ref a_wk, .ref a_r, .ref a_x, .int e_tl, .int e_fd, .int e_fpl, .ref a_wd, .int e_wn, .ref a_rf, .int e_lr]))]) [0] (by decide) rfl
                  have hFc := va_free (wc := [(a_o, .inr (11, [.ref a_h, .ref a_im, .ref a_ke, .ref a_k, .ref a_wa, .ref a_th, .ref a_ha, .ref a_wk, .ref a_r, .ref a_x, .int e_tl, .int e_fd, .int e_fpl, .ref a_wd, .int e_wn, .ref a_rf, .int e_lr]))]) hD hS hA [0] rfl
                  refine va_calli (va_runV (As := [.int (e_s + 1)]) (rest := []) ⟨hx, hb, hml, hown, hts⟩ (x_done l G a_o a_h a_im a_ke a_k a_wa a_th a_ha a_wk a_r a_x a_wd a_rf H.size e_tl e_fd e_fpl e_wn e_lr (e_s + 1) ⟨by omega, by omega⟩ ⟨by omega, by omega⟩) (cwV 1 hts gV_X11_121 rfl rfl rfl hv_X11_done ⟨Nat.le_of_ble_eq_true rfl, Nat.le_of_ble_eq_true rfl⟩) (g5_preV hPc hK hDc hN hT hS hFc (ci := 11) (q0 := 0) rfl rfl) rfl rfl hl.1 rfl (lv_room (Nat.le_of_ble_eq_true rfl)) dX11_sighting_114 ⟨Nat.le_of_ble_eq_true rfl, Nat.le_of_ble_eq_true rfl⟩) hS (fun q _ h => hFc q h) hFc (fun r u t H1 locs ht hvm hw hB hz1 hk1 hS => ?_)
                  obtain ⟨hP1, hD1⟩ := hB
                  rw [ht] at hP1
                  obtain ⟨rfl, rfl⟩ := hw
                  obtain ⟨hP, hD⟩ := va_join (wr := [(a_rf, .inl (G.2 0, 5, .inl f_rf)), (a_h, .inr (1, [.long e_wa, .int e_le, .int e_st, .int e_fo, .int e_lc, .ref a_l, .ref a_g, .ref a_b, .ref a_s, .ref a_p, .ref a_w, .long e_gb, .ref a_bb])), (a_s, .inr (6, [.int 10, .int 4, .ref a_sn, .int (e_s + 1)])), (a_sn, .inl (G.2 0, 40, .inl z20))]) (w1 := [(a_o, .inr (11, [.ref a_h, .ref a_im, .ref a_ke, .ref a_k, .ref a_wa, .ref a_th, .ref a_ha, .ref a_wk, .ref a_r, .ref a_x, .int e_tl, .int e_fd, .int e_fpl, .ref a_wd, .int e_wn, .ref a_rf, .int 0]))]) hP hD [0] [1, 2, 3, 4] rfl rfl (by decide) (by decide) hk1 hFc hP1 hD1
                  generalize H1 = H at hP hS ⊢
                  have hP : va_P G.1 vwCl [(a_rf, .inl (G.2 0, 5, .inl f_rf)), (a_h, .inr (1, [.long e_wa, .int e_le, .int e_st, .int e_fo, .int e_lc, .ref a_l, .ref a_g, .ref a_b, .ref a_s, .ref a_p, .ref a_w, .long e_gb, .ref a_bb])), (a_s, .inr (6, [.int 10, .int 4, .ref a_sn, .int (e_s + 1)])), (a_sn, .inl (G.2 0, 40, .inl z20)), (a_o, .inr (11, [.ref a_h, .ref a_im, .ref a_ke, .ref a_k, .ref a_wa, .ref a_th, .ref a_ha, .ref a_wk, .ref a_r, .ref a_x, .int e_tl, .int e_fd, .int e_fpl, .ref a_wd, .int e_wn, .ref a_rf, .int 0]))] H := hP
                  have hD : va_D A [(a_rf, .inl (G.2 0, 5, .inl f_rf)), (a_h, .inr (1, [.long e_wa, .int e_le, .int e_st, .int e_fo, .int e_lc, .ref a_l, .ref a_g, .ref a_b, .ref a_s, .ref a_p, .ref a_w, .long e_gb, .ref a_bb])), (a_s, .inr (6, [.int 10, .int 4, .ref a_sn, .int (e_s + 1)])), (a_sn, .inl (G.2 0, 40, .inl z20)), (a_o, .inr (11, [.ref a_h, .ref a_im, .ref a_ke, .ref a_k, .ref a_wa, .ref a_th, .ref a_ha, .ref a_wk, .ref a_r, .ref a_x, .int e_tl, .int e_fd, .int e_fpl, .ref a_wd, .int e_wn, .ref a_rf, .int 0]))] := hD
                  exact W.iret (v := (e_s + 1)) hx hb hr (fun t ht hW => ⟨⟨(e_s + 1), [(a_o, .inr (11, [.ref a_h, .ref a_im, .ref a_ke, .ref a_k, .ref a_wa, .ref a_th, .ref a_ha, .ref a_wk, .ref a_r, .ref a_x, .int e_tl, .int e_fd, .int e_fpl, .ref a_wd, .int e_wn, .ref a_rf, .int 0])), (a_rf, .inl (G.2 0, 5, .inl f_rf)), (a_h, .inr (1, [.long e_wa, .int e_le, .int e_st, .int e_fo, .int e_lc, .ref a_l, .ref a_g, .ref a_b, .ref a_s, .ref a_p, .ref a_w, .long e_gb, .ref a_bb])), (a_s, .inr (6, [.int 10, .int 4, .ref a_sn, .int (e_s + 1)])), (a_sn, .inl (G.2 0, 40, .inl z20))], rfl, ⟨(e_s + 1), 0, f_rf, (e_s + 1), z20, ⟨by omega, by omega⟩, by rw [i_19, i_17, i_14]; exact sg_01 e_sh (by omega) (by omega) (by omega), by rw [i_19, i_17, i_14]; exact sg_5 (by omega) (by omega) (by omega), rfl, rfl⟩, by rw [ht]; exact hP.sub [4, 0, 1, 2, 3] rfl, hD.sub [4, 0, 1, 2, 3] (by decide) rfl⟩, hS.F ht⟩) hS.2.2 dX11_sighting_117
              ·
                have i_10 : p_s.toInt = 1 := by have z := g5_neN (a := p_s.toInt) (b := 1) (by rfl) (by decide) c_10; omega
                refine lv_aload_n hx hb dX11_sighting_42 rfl (lv_at hl 0 rfl) ?_
                refine va_get (D := G.1) (ci := 11) (v := .ref a_h) (C := RX11) (T := TX11) (N := 17) hx hb hts inG_X11 hown hK hP 0 rfl rfl 0 (by decide) (hts _ fl_X11_12) (fun _ h9 => h9) rfl dX11_sighting_43 ?_
                have hPc := hP.sub (ws' := [(a_h, .inr (1, [.long e_wa, .int e_le, .int e_st, .int e_fo, .int e_lc, .ref a_l, .ref a_g, .ref a_b, .ref a_s, .ref a_p, .ref a_w, .long e_gb, .ref a_bb])), (a_s, .inr (6, [.int 10, .int 4, .ref a_sn, .int e_s])), (a_sn, .inl (G.2 0, 40, .inl f_s))]) [2, 4, 3] rfl
                have hDc := hD.sub (ws' := [(a_h, .inr (1, [.long e_wa, .int e_le, .int e_st, .int e_fo, .int e_lc, .ref a_l, .ref a_g, .ref a_b, .ref a_s, .ref a_p, .ref a_w, .long e_gb, .ref a_bb])), (a_s, .inr (6, [.int 10, .int 4, .ref a_sn, .int e_s])), (a_sn, .inl (G.2 0, 40, .inl f_s))]) [2, 4, 3] (by decide) rfl
                have hFc := va_free (wc := [(a_h, .inr (1, [.long e_wa, .int e_le, .int e_st, .int e_fo, .int e_lc, .ref a_l, .ref a_g, .ref a_b, .ref a_s, .ref a_p, .ref a_w, .long e_gb, .ref a_bb])), (a_s, .inr (6, [.int 10, .int 4, .ref a_sn, .int e_s])), (a_sn, .inl (G.2 0, 40, .inl f_s))]) hD hS hA [2, 4, 3] rfl
                refine va_calli (va_runV (As := []) (rest := []) ⟨hx, hb, hml, hown, hts⟩ (h_countSeen l G a_h a_s a_sn a_l a_g a_b a_p a_w a_bb H.size e_le e_st e_fo e_lc e_s e_wa e_gb f_s ⟨by omega, by omega⟩ (e_sh)) (cwV 0 hts gV_X11_264 rfl rfl rfl hv_X1_countSeen ⟨Nat.le_of_ble_eq_true rfl, Nat.le_of_ble_eq_true rfl⟩) (g5_preV hPc hK hDc hN hT hS hFc (ci := 1) (q0 := 0) rfl rfl) rfl rfl hl.1 rfl (lv_room (Nat.le_of_ble_eq_true rfl)) dX11_sighting_46 ⟨Nat.le_of_ble_eq_true rfl, Nat.le_of_ble_eq_true rfl⟩) hS (fun q _ h => hFc q h) hFc (fun r u t H1 locs ht hvm hw hB hz1 hk1 hS => ?_)
                obtain ⟨hP1, hD1⟩ := hB
                rw [ht] at hP1
                obtain ⟨z23, i_21, i_22, y24, rfl⟩ := hw
                have i_21 : 0 ≤ z23.toInt ∧ z23.toInt ≤ 10 := i_21
                have i_22 : z23.toInt = snS f_s e_s.toInt e_s.toInt.toNat := i_22
                obtain ⟨hP, hD⟩ := va_join (wr := [(a_o, .inr (11, [.ref a_h, .ref a_im, .ref a_ke, .ref a_k, .ref a_wa, .ref a_th, .ref a_ha, .ref a_wk, .ref a_r, .ref a_x, .int e_tl, .int e_fd, .int e_fpl, .ref a_wd, .int e_wn, .ref a_rf, .int e_lr])), (a_rf, .inl (G.2 0, 5, .inl f_rf))]) (w1 := [(a_h, .inr (1, [.long e_wa, .int e_le, .int e_st, .int e_fo, .int e_lc, .ref a_l, .ref a_g, .ref a_b, .ref a_s, .ref a_p, .ref a_w, .long e_gb, .ref a_bb])), (a_s, .inr (6, [.int 10, .int 4, .ref a_sn, .int e_s])), (a_sn, .inl (G.2 0, 40, .inl f_s))]) hP hD [2, 4, 3] [0, 1] rfl rfl (by decide) (by decide) hk1 hFc hP1 hD1
                generalize H1 = H at hP hS ⊢
                have hP : va_P G.1 vwCl [(a_o, .inr (11, [.ref a_h, .ref a_im, .ref a_ke, .ref a_k, .ref a_wa, .ref a_th, .ref a_ha, .ref a_wk, .ref a_r, .ref a_x, .int e_tl, .int e_fd, .int e_fpl, .ref a_wd, .int e_wn, .ref a_rf, .int e_lr])), (a_rf, .inl (G.2 0, 5, .inl f_rf)), (a_h, .inr (1, [.long e_wa, .int e_le, .int e_st, .int e_fo, .int e_lc, .ref a_l, .ref a_g, .ref a_b, .ref a_s, .ref a_p, .ref a_w, .long e_gb, .ref a_bb])), (a_s, .inr (6, [.int 10, .int 4, .ref a_sn, .int e_s])), (a_sn, .inl (G.2 0, 40, .inl f_s))] H := hP
                have hD : va_D A [(a_o, .inr (11, [.ref a_h, .ref a_im, .ref a_ke, .ref a_k, .ref a_wa, .ref a_th, .ref a_ha, .ref a_wk, .ref a_r, .ref a_x, .int e_tl, .int e_fd, .int e_fpl, .ref a_wd, .int e_wn, .ref a_rf, .int e_lr])), (a_rf, .inl (G.2 0, 5, .inl f_rf)), (a_h, .inr (1, [.long e_wa, .int e_le, .int e_st, .int e_fo, .int e_lc, .ref a_l, .ref a_g, .ref a_b, .ref a_s, .ref a_p, .ref a_w, .long e_gb, .ref a_bb])), (a_s, .inr (6, [.int 10, .int 4, .ref a_sn, .int e_s])), (a_sn, .inl (G.2 0, 40, .inl f_s))] := hD
                refine g5_ti (v := z23) y24 ?_
                refine lv_iconst (v := 5) hx hb dX11_sighting_49 (by decide) ?_
                refine lv_icmp_lt (tgt := 60) hx hb dX11_sighting_50 (by decide) (fun c_25 => ?_) (fun c_25 => ?_)
                ·
                  have i_25 : z23.toInt < 5 := by have z := g5_lt (a := z23.toInt) (b := 5) (by rfl) (by decide) c_25; omega
                  refine lv_aload_n hx hb dX11_sighting_60 rfl (lv_at hl 0 rfl) ?_
                  refine va_get (D := G.1) (ci := 11) (v := .ref a_h) (C := RX11) (T := TX11) (N := 17) hx hb hts inG_X11 hown hK hP 0 rfl rfl 0 (by decide) (hts _ fl_X11_12) (fun _ h9 => h9) rfl dX11_sighting_61 ?_
                  refine va_get (D := G.1) (ci := 1) (v := .ref a_s) (C := RX1) (T := TX1) (N := 13) hx hb hts inG_X1 hown hK hP 2 rfl rfl 8 (by decide) (hts _ fl_X11_261) (fun _ h9 => h9) rfl dX11_sighting_64 ?_
                  refine lv_iconst (v := 0) hx hb dX11_sighting_67 (by decide) ?_
                  have hPc := hP.sub (ws' := [(a_s, .inr (6, [.int 10, .int 4, .ref a_sn, .int e_s])), (a_sn, .inl (G.2 0, 40, .inl f_s))]) [3, 4] rfl
                  have hDc := hD.sub (ws' := [(a_s, .inr (6, [.int 10, .int 4, .ref a_sn, .int e_s])), (a_sn, .inl (G.2 0, 40, .inl f_s))]) [3, 4] (by decide) rfl
                  have hFc := va_free (wc := [(a_s, .inr (6, [.int 10, .int 4, .ref a_sn, .int e_s])), (a_sn, .inl (G.2 0, 40, .inl f_s))]) hD hS hA [3, 4] rfl
                  refine va_calli (va_runV (As := [.int 0]) (rest := []) ⟨hx, hb, hml, hown, hts⟩ (t_open_S l G a_s a_sn H.size e_s 0 f_s ⟨by omega, by omega⟩) (cwV 1 hts gV_X11_146 rfl rfl rfl hv_X6_open ⟨Nat.le_of_ble_eq_true rfl, Nat.le_of_ble_eq_true rfl⟩) (g5_preV hPc hK hDc hN hT hS hFc (ci := 6) (q0 := 0) rfl rfl) rfl rfl hl.1 rfl (lv_room (Nat.le_of_ble_eq_true rfl)) dX11_sighting_68 ⟨Nat.le_of_ble_eq_true rfl, Nat.le_of_ble_eq_true rfl⟩) hS (fun q _ h => hFc q h) hFc (fun r u t H1 locs ht hvm hw hB hz1 hk1 hS => ?_)
                  obtain ⟨hP1, hD1⟩ := hB
                  rw [ht] at hP1
                  rcases hw with ⟨i_26, rfl, rfl⟩ | ⟨z30, i_27, i_28, i_29, y31, rfl⟩
                  ·
                    have i_26 : e_s.toInt = 10 := i_26
                    omega
                  ·
                    have i_27 : e_s.toInt < 10 := i_27
                    have i_28 : (e_s + 1).toInt = e_s.toInt + 1 := i_28
                    have i_29 : z30 = tfil f_s e_s.toInt 4 (0 : Int32) 4 := i_29
                    obtain ⟨hP, hD⟩ := va_join (wr := [(a_o, .inr (11, [.ref a_h, .ref a_im, .ref a_ke, .ref a_k, .ref a_wa, .ref a_th, .ref a_ha, .ref a_wk, .ref a_r, .ref a_x, .int e_tl, .int e_fd, .int e_fpl, .ref a_wd, .int e_wn, .ref a_rf, .int e_lr])), (a_rf, .inl (G.2 0, 5, .inl f_rf)), (a_h, .inr (1, [.long e_wa, .int e_le, .int e_st, .int e_fo, .int e_lc, .ref a_l, .ref a_g, .ref a_b, .ref a_s, .ref a_p, .ref a_w, .long e_gb, .ref a_bb]))]) (w1 := [(a_s, .inr (6, [.int 10, .int 4, .ref a_sn, .int (e_s + 1)])), (a_sn, .inl (G.2 0, 40, .inl z30))]) hP hD [3, 4] [0, 1, 2] rfl rfl (by decide) (by decide) hk1 hFc hP1 hD1
                    generalize H1 = H at hP hS ⊢
                    have hP : va_P G.1 vwCl [(a_o, .inr (11, [.ref a_h, .ref a_im, .ref a_ke, .ref a_k, .ref a_wa, .ref a_th, .ref a_ha, .ref a_wk, .ref a_r, .ref a_x, .int e_tl, .int e_fd, .int e_fpl, .ref a_wd, .int e_wn, .ref a_rf, .int e_lr])), (a_rf, .inl (G.2 0, 5, .inl f_rf)), (a_h, .inr (1, [.long e_wa, .int e_le, .int e_st, .int e_fo, .int e_lc, .ref a_l, .ref a_g, .ref a_b, .ref a_s, .ref a_p, .ref a_w, .long e_gb, .ref a_bb])), (a_s, .inr (6, [.int 10, .int 4, .ref a_sn, .int (e_s + 1)])), (a_sn, .inl (G.2 0, 40, .inl z30))] H := hP
                    have hD : va_D A [(a_o, .inr (11, [.ref a_h, .ref a_im, .ref a_ke, .ref a_k, .ref a_wa, .ref a_th, .ref a_ha, .ref a_wk, .ref a_r, .ref a_x, .int e_tl, .int e_fd, .int e_fpl, .ref a_wd, .int e_wn, .ref a_rf, .int e_lr])), (a_rf, .inl (G.2 0, 5, .inl f_rf)), (a_h, .inr (1, [.long e_wa, .int e_le, .int e_st, .int e_fo, .int e_lc, .ref a_l, .ref a_g, .ref a_b, .ref a_s, .ref a_p, .ref a_w, .long e_gb, .ref a_bb])), (a_s, .inr (6, [.int 10, .int 4, .ref a_sn, .int (e_s + 1)])), (a_sn, .inl (G.2 0, 40, .inl z30))] := hD
                    refine g5_ti (v := e_s) y31 ?_
                    refine lv_istore (lv' := [(5, .int e_s), (0, .ref a_o), (1, .int p_c), (2, .int p_w), (3, .int p_h), (4, .int p_s)]) hx hb dX11_sighting_71 hl (by decide) rfl (fun ls hl => ?_)
                    refine lv_aload_n hx hb dX11_sighting_73 rfl (lv_at hl 1 rfl) ?_
                    refine va_get (D := G.1) (ci := 11) (v := .ref a_h) (C := RX11) (T := TX11) (N := 17) hx hb hts inG_X11 hown hK hP 0 rfl rfl 0 (by decide) (hts _ fl_X11_12) (fun _ h9 => h9) rfl dX11_sighting_74 ?_
                    refine va_get (D := G.1) (ci := 1) (v := .ref a_s) (C := RX1) (T := TX1) (N := 13) hx hb hts inG_X1 hown hK hP 2 rfl rfl 8 (by decide) (hts _ fl_X11_261) (fun _ h9 => h9) rfl dX11_sighting_77 ?_
                    refine lv_iload hx hb dX11_sighting_80 (lv_at hl 0 rfl) ?_
                    refine lv_iload_n hx hb dX11_sighting_82 rfl (lv_at hl 2 rfl) ?_
                    refine lv_iload_n hx hb dX11_sighting_83 rfl (lv_at hl 3 rfl) ?_
                    refine lv_iload_n hx hb dX11_sighting_84 rfl (lv_at hl 4 rfl) ?_
                    have hPc := hP.sub (ws' := [(a_s, .inr (6, [.int 10, .int 4, .ref a_sn, .int (e_s + 1)])), (a_sn, .inl (G.2 0, 40, .inl z30))]) [3, 4] rfl
                    have hDc := hD.sub (ws' := [(a_s, .inr (6, [.int 10, .int 4, .ref a_sn, .int (e_s + 1)])), (a_sn, .inl (G.2 0, 40, .inl z30))]) [3, 4] (by decide) rfl
                    have hFc := va_free (wc := [(a_s, .inr (6, [.int 10, .int 4, .ref a_sn, .int (e_s + 1)])), (a_sn, .inl (G.2 0, 40, .inl z30))]) hD hS hA [3, 4] rfl
                    refine va_callv (va_runV (As := [.int e_s, .int p_c, .int p_w, .int p_h]) (rest := []) ⟨hx, hb, hml, hown, hts⟩ (t_setLook_S l G a_s a_sn H.size (e_s + 1) e_s p_c p_w p_h z30 ⟨by omega, by omega⟩) (cwV 4 hts gV_X11_268 rfl rfl rfl hv_X6_setLook ⟨Nat.le_of_ble_eq_true rfl, Nat.le_of_ble_eq_true rfl⟩) (g5_preV hPc hK hDc hN hT hS hFc (ci := 6) (q0 := 0) rfl rfl) rfl rfl hl.1 rfl (lv_room (Nat.le_of_ble_eq_true rfl)) dX11_sighting_85 ⟨Nat.le_of_ble_eq_true rfl, Nat.le_of_ble_eq_true rfl⟩) hS (fun q _ h => hFc q h) hFc (fun u t H1 locs ht hvm hw hB hz1 hk1 hS => ?_)
                    obtain ⟨hP1, hD1⟩ := hB
                    rw [ht] at hP1
                    obtain ⟨z33, i_32, rfl⟩ := hw
                    have i_32 : z33 = tset (tset (tset z30 (e_s + 1).toInt 4 e_s.toInt (0 : Int32).toInt p_c) (e_s + 1).toInt 4 e_s.toInt (1 : Int32).toInt p_w) (e_s + 1).toInt 4 e_s.toInt (2 : Int32).toInt p_h := i_32
                    obtain ⟨hP, hD⟩ := va_join (wr := [(a_o, .inr (11, [.ref a_h, .ref a_im, .ref a_ke, .ref a_k, .ref a_wa, .ref a_th, .ref a_ha, .ref a_wk, .ref a_r, .ref a_x, .int e_tl, .int e_fd, .int e_fpl, .ref a_wd, .int e_wn, .ref a_rf, .int e_lr])), (a_rf, .inl (G.2 0, 5, .inl f_rf)), (a_h, .inr (1, [.long e_wa, .int e_le, .int e_st, .int e_fo, .int e_lc, .ref a_l, .ref a_g, .ref a_b, .ref a_s, .ref a_p, .ref a_w, .long e_gb, .ref a_bb]))]) (w1 := [(a_s, .inr (6, [.int 10, .int 4, .ref a_sn, .int (e_s + 1)])), (a_sn, .inl (G.2 0, 40, .inl z33))]) hP hD [3, 4] [0, 1, 2] rfl rfl (by decide) (by decide) hk1 hFc hP1 hD1
                    generalize H1 = H at hP hS ⊢
                    have hP : va_P G.1 vwCl [(a_o, .inr (11, [.ref a_h, .ref a_im, .ref a_ke, .ref a_k, .ref a_wa, .ref a_th, .ref a_ha, .ref a_wk, .ref a_r, .ref a_x, .int e_tl, .int e_fd, .int e_fpl, .ref a_wd, .int e_wn, .ref a_rf, .int e_lr])), (a_rf, .inl (G.2 0, 5, .inl f_rf)), (a_h, .inr (1, [.long e_wa, .int e_le, .int e_st, .int e_fo, .int e_lc, .ref a_l, .ref a_g, .ref a_b, .ref a_s, .ref a_p, .ref a_w, .long e_gb, .ref a_bb])), (a_s, .inr (6, [.int 10, .int 4, .ref a_sn, .int (e_s + 1)])), (a_sn, .inl (G.2 0, 40, .inl z33))] H := hP
                    have hD : va_D A [(a_o, .inr (11, [.ref a_h, .ref a_im, .ref a_ke, .ref a_k, .ref a_wa, .ref a_th, .ref a_ha, .ref a_wk, .ref a_r, .ref a_x, .int e_tl, .int e_fd, .int e_fpl, .ref a_wd, .int e_wn, .ref a_rf, .int e_lr])), (a_rf, .inl (G.2 0, 5, .inl f_rf)), (a_h, .inr (1, [.long e_wa, .int e_le, .int e_st, .int e_fo, .int e_lc, .ref a_l, .ref a_g, .ref a_b, .ref a_s, .ref a_p, .ref a_w, .long e_gb, .ref a_bb])), (a_s, .inr (6, [.int 10, .int 4, .ref a_sn, .int (e_s + 1)])), (a_sn, .inl (G.2 0, 40, .inl z33))] := hD
                    refine lv_aload_n hx hb dX11_sighting_88 rfl (lv_at hl 1 rfl) ?_
                    refine va_get (D := G.1) (ci := 11) (v := .ref a_h) (C := RX11) (T := TX11) (N := 17) hx hb hts inG_X11 hown hK hP 0 rfl rfl 0 (by decide) (hts _ fl_X11_12) (fun _ h9 => h9) rfl dX11_sighting_89 ?_
                    refine va_get (D := G.1) (ci := 1) (v := .ref a_s) (C := RX1) (T := TX1) (N := 13) hx hb hts inG_X1 hown hK hP 2 rfl rfl 8 (by decide) (hts _ fl_X11_261) (fun _ h9 => h9) rfl dX11_sighting_92 ?_
                    refine lv_iload hx hb dX11_sighting_95 (lv_at hl 0 rfl) ?_
                    refine lv_iconst (v := 3) hx hb dX11_sighting_97 (by decide) ?_
                    refine lv_iload hx hb dX11_sighting_98 (lv_at hl 5 rfl) ?_
                    have hPc := hP.sub (ws' := [(a_s, .inr (6, [.int 10, .int 4, .ref a_sn, .int (e_s + 1)])), (a_sn, .inl (G.2 0, 40, .inl z33))]) [3, 4] rfl
                    have hDc := hD.sub (ws' := [(a_s, .inr (6, [.int 10, .int 4, .ref a_sn, .int (e_s + 1)])), (a_sn, .inl (G.2 0, 40, .inl z33))]) [3, 4] (by decide) rfl
                    have hFc := va_free (wc := [(a_s, .inr (6, [.int 10, .int 4, .ref a_sn, .int (e_s + 1)])), (a_sn, .inl (G.2 0, 40, .inl z33))]) hD hS hA [3, 4] rfl
                    refine va_callv (va_runV (As := [.int e_s, .int 3, .int p_s]) (rest := []) ⟨hx, hb, hml, hown, hts⟩ (t_set_S l G a_s a_sn H.size (e_s + 1) e_s 3 p_s z33 ⟨by omega, by omega⟩) (cwV 3 hts gV_X11_149 rfl rfl rfl hv_X6_set ⟨Nat.le_of_ble_eq_true rfl, Nat.le_of_ble_eq_true rfl⟩) (g5_preV hPc hK hDc hN hT hS hFc (ci := 6) (q0 := 0) rfl rfl) rfl rfl hl.1 rfl (lv_room (Nat.le_of_ble_eq_true rfl)) dX11_sighting_100 ⟨Nat.le_of_ble_eq_true rfl, Nat.le_of_ble_eq_true rfl⟩) hS (fun q _ h => hFc q h) hFc (fun u t H1 locs ht hvm hw hB hz1 hk1 hS => ?_)
                    obtain ⟨hP1, hD1⟩ := hB
                    rw [ht] at hP1
                    obtain ⟨z35, i_34, rfl⟩ := hw
                    have i_34 : z35 = tset z33 (e_s + 1).toInt 4 e_s.toInt (3 : Int32).toInt p_s := i_34
                    obtain ⟨hP, hD⟩ := va_join (wr := [(a_o, .inr (11, [.ref a_h, .ref a_im, .ref a_ke, .ref a_k, .ref a_wa, .ref a_th, .ref a_ha, .ref a_wk, .ref a_r, .ref a_x, .int e_tl, .int e_fd, .int e_fpl, .ref a_wd, .int e_wn, .ref a_rf, .int e_lr])), (a_rf, .inl (G.2 0, 5, .inl f_rf)), (a_h, .inr (1, [.long e_wa, .int e_le, .int e_st, .int e_fo, .int e_lc, .ref a_l, .ref a_g, .ref a_b, .ref a_s, .ref a_p, .ref a_w, .long e_gb, .ref a_bb]))]) (w1 := [(a_s, .inr (6, [.int 10, .int 4, .ref a_sn, .int (e_s + 1)])), (a_sn, .inl (G.2 0, 40, .inl z35))]) hP hD [3, 4] [0, 1, 2] rfl rfl (by decide) (by decide) hk1 hFc hP1 hD1
                    generalize H1 = H at hP hS ⊢
                    have hP : va_P G.1 vwCl [(a_o, .inr (11, [.ref a_h, .ref a_im, .ref a_ke, .ref a_k, .ref a_wa, .ref a_th, .ref a_ha, .ref a_wk, .ref a_r, .ref a_x, .int e_tl, .int e_fd, .int e_fpl, .ref a_wd, .int e_wn, .ref a_rf, .int e_lr])), (a_rf, .inl (G.2 0, 5, .inl f_rf)), (a_h, .inr (1, [.long e_wa, .int e_le, .int e_st, .int e_fo, .int e_lc, .ref a_l, .ref a_g, .ref a_b, .ref a_s, .ref a_p, .ref a_w, .long e_gb, .ref a_bb])), (a_s, .inr (6, [.int 10, .int 4, .ref a_sn, .int (e_s + 1)])), (a_sn, .inl (G.2 0, 40, .inl z35))] H := hP
                    have hD : va_D A [(a_o, .inr (11, [.ref a_h, .ref a_im, .ref a_ke, .ref a_k, .ref a_wa, .ref a_th, .ref a_ha, .ref a_wk, .ref a_r, .ref a_x, .int e_tl, .int e_fd, .int e_fpl, .ref a_wd, .int e_wn, .ref a_rf, .int e_lr])), (a_rf, .inl (G.2 0, 5, .inl f_rf)), (a_h, .inr (1, [.long e_wa, .int e_le, .int e_st, .int e_fo, .int e_lc, .ref a_l, .ref a_g, .ref a_b, .ref a_s, .ref a_p, .ref a_w, .long e_gb, .ref a_bb])), (a_s, .inr (6, [.int 10, .int 4, .ref a_sn, .int (e_s + 1)])), (a_sn, .inl (G.2 0, 40, .inl z35))] := hD
                    refine lv_aload_n hx hb dX11_sighting_103 rfl (lv_at hl 1 rfl) ?_
                    refine lv_aload_n hx hb dX11_sighting_104 rfl (lv_at hl 1 rfl) ?_
                    refine va_get (D := G.1) (ci := 11) (v := .ref a_h) (C := RX11) (T := TX11) (N := 17) hx hb hts inG_X11 hown hK hP 0 rfl rfl 0 (by decide) (hts _ fl_X11_12) (fun _ h9 => h9) rfl dX11_sighting_105 ?_
                    refine va_get (D := G.1) (ci := 1) (v := .ref a_s) (C := RX1) (T := TX1) (N := 13) hx hb hts inG_X1 hown hK hP 2 rfl rfl 8 (by decide) (hts _ fl_X11_261) (fun _ h9 => h9) rfl dX11_sighting_108 ?_
                    refine va_get (D := G.1) (ci := 6) (v := .int (e_s + 1)) (C := RX6) (T := TX6) (N := 4) hx hb hts inG_X6 hown hK hP 3 rfl rfl 3 (by decide) (hts _ fl_X11_238) (fun _ h9 => h9) rfl dX11_sighting_111 ?_
                    have hPc := hP.sub (ws' := [(a_o, .inr (11, [.ref a_h, .ref a_im, .ref a_ke, .ref a_k, .ref a_wa, .ref a_th, .ref a_ha, .ref a_wk, .ref a_r, .ref a_x, .int e_tl, .int e_fd, .int e_fpl, .ref a_wd, .int e_wn, .ref a_rf, .int e_lr]))]) [0] rfl
                    have hDc := hD.sub (ws' := [(a_o, .inr (11, [.ref a_h, .ref a_im, .ref a_ke, .ref a_k, .ref a_wa, .ref a_th, .ref a_ha, .ref a_wk, .ref a_r, .ref a_x, .int e_tl, .int e_fd, .int e_fpl, .ref a_wd, .int e_wn, .ref a_rf, .int e_lr]))]) [0] (by decide) rfl
                    have hFc := va_free (wc := [(a_o, .inr (11, [.ref a_h, .ref a_im, .ref a_ke, .ref a_k, .ref a_wa, .ref a_th, .ref a_ha, .ref a_wk, .ref a_r, .ref a_x, .int e_tl, .int e_fd, .int e_fpl, .ref a_wd, .int e_wn, .ref a_rf, .int e_lr]))]) hD hS hA [0] rfl
                    refine va_calli (va_runV (As := [.int (e_s + 1)]) (rest := []) ⟨hx, hb, hml, hown, hts⟩ (x_done l G a_o a_h a_im a_ke a_k a_wa a_th a_ha a_wk a_r a_x a_wd a_rf H.size e_tl e_fd e_fpl e_wn e_lr (e_s + 1) ⟨by omega, by omega⟩ ⟨by omega, by omega⟩) (cwV 1 hts gV_X11_121 rfl rfl rfl hv_X11_done ⟨Nat.le_of_ble_eq_true rfl, Nat.le_of_ble_eq_true rfl⟩) (g5_preV hPc hK hDc hN hT hS hFc (ci := 11) (q0 := 0) rfl rfl) rfl rfl hl.1 rfl (lv_room (Nat.le_of_ble_eq_true rfl)) dX11_sighting_114 ⟨Nat.le_of_ble_eq_true rfl, Nat.le_of_ble_eq_true rfl⟩) hS (fun q _ h => hFc q h) hFc (fun r u t H1 locs ht hvm hw hB hz1 hk1 hS => ?_)
                    obtain ⟨hP1, hD1⟩ := hB
                    rw [ht] at hP1
                    obtain ⟨rfl, rfl⟩ := hw
                    obtain ⟨hP, hD⟩ := va_join (wr := [(a_rf, .inl (G.2 0, 5, .inl f_rf)), (a_h, .inr (1, [.long e_wa, .int e_le, .int e_st, .int e_fo, .int e_lc, .ref a_l, .ref a_g, .ref a_b, .ref a_s, .ref a_p, .ref a_w, .long e_gb, .ref a_bb])), (a_s, .inr (6, [.int 10, .int 4, .ref a_sn, .int (e_s + 1)])), (a_sn, .inl (G.2 0, 40, .inl z35))]) (w1 := [(a_o, .inr (11, [.ref a_h, .ref a_im, .ref a_ke, .ref a_k, .ref a_wa, .ref a_th, .ref a_ha, .ref a_wk, .ref a_r, .ref a_x, .int e_tl, .int e_fd, .int e_fpl, .ref a_wd, .int e_wn, .ref a_rf, .int 0]))]) hP hD [0] [1, 2, 3, 4] rfl rfl (by decide) (by decide) hk1 hFc hP1 hD1
                    generalize H1 = H at hP hS ⊢
                    have hP : va_P G.1 vwCl [(a_rf, .inl (G.2 0, 5, .inl f_rf)), (a_h, .inr (1, [.long e_wa, .int e_le, .int e_st, .int e_fo, .int e_lc, .ref a_l, .ref a_g, .ref a_b, .ref a_s, .ref a_p, .ref a_w, .long e_gb, .ref a_bb])), (a_s, .inr (6, [.int 10, .int 4, .ref a_sn, .int (e_s + 1)])), (a_sn, .inl (G.2 0, 40, .inl z35)), (a_o, .inr (11, [.ref a_h, .ref a_im, .ref a_ke, .ref a_k, .ref a_wa, .ref a_th, .ref a_ha, .ref a_wk, .ref a_r, .ref a_x, .int e_tl, .int e_fd, .int e_fpl, .ref a_wd, .int e_wn, .ref a_rf, .int 0]))] H := hP
                    have hD : va_D A [(a_rf, .inl (G.2 0, 5, .inl f_rf)), (a_h, .inr (1, [.long e_wa, .int e_le, .int e_st, .int e_fo, .int e_lc, .ref a_l, .ref a_g, .ref a_b, .ref a_s, .ref a_p, .ref a_w, .long e_gb, .ref a_bb])), (a_s, .inr (6, [.int 10, .int 4, .ref a_sn, .int (e_s + 1)])), (a_sn, .inl (G.2 0, 40, .inl z35)), (a_o, .inr (11, [.ref a_h, .ref a_im, .ref a_ke, .ref a_k, .ref a_wa, .ref a_th, .ref a_ha, .ref a_wk, .ref a_r, .ref a_x, .int e_tl, .int e_fd, .int e_fpl, .ref a_wd, .int e_wn, .ref a_rf, .int 0]))] := hD
                    exact W.iret (v := (e_s + 1)) hx hb hr (fun t ht hW => ⟨⟨(e_s + 1), [(a_o, .inr (11, [.ref a_h, .ref a_im, .ref a_ke, .ref a_k, .ref a_wa, .ref a_th, .ref a_ha, .ref a_wk, .ref a_r, .ref a_x, .int e_tl, .int e_fd, .int e_fpl, .ref a_wd, .int e_wn, .ref a_rf, .int 0])), (a_rf, .inl (G.2 0, 5, .inl f_rf)), (a_h, .inr (1, [.long e_wa, .int e_le, .int e_st, .int e_fo, .int e_lc, .ref a_l, .ref a_g, .ref a_b, .ref a_s, .ref a_p, .ref a_w, .long e_gb, .ref a_bb])), (a_s, .inr (6, [.int 10, .int 4, .ref a_sn, .int (e_s + 1)])), (a_sn, .inl (G.2 0, 40, .inl z35))], rfl, ⟨(e_s + 1), 0, f_rf, (e_s + 1), z35, ⟨by omega, by omega⟩, by rw [i_34, i_32, i_29]; exact sg_01 e_sh (by omega) (by omega) (by omega), by rw [i_34, i_32, i_29]; exact sg_5 (by omega) (by omega) (by omega), rfl, rfl⟩, by rw [ht]; exact hP.sub [4, 0, 1, 2, 3] rfl, hD.sub [4, 0, 1, 2, 3] (by decide) rfl⟩, hS.F ht⟩) hS.2.2 dX11_sighting_117
                ·
                  have i_25 : z23.toInt ≥ 5 := by have z := g5_ltN (a := z23.toInt) (b := 5) (by rfl) (by decide) c_25; omega
                  refine lv_aload_n hx hb dX11_sighting_53 rfl (lv_at hl 0 rfl) ?_
                  refine lv_bipush (v := (-5)) hx hb dX11_sighting_54 (by decide) ?_
                  have hPc := hP.sub (ws' := [(a_o, .inr (11, [.ref a_h, .ref a_im, .ref a_ke, .ref a_k, .ref a_wa, .ref a_th, .ref a_ha, .ref a_wk, .ref a_r, .ref a_x, .int e_tl, .int e_fd, .int e_fpl, .ref a_wd, .int e_wn, .ref a_rf, .int e_lr])), (a_rf, .inl (G.2 0, 5, .inl f_rf))]) [0, 1] rfl
                  have hDc := hD.sub (ws' := [(a_o, .inr (11, [.ref a_h, .ref a_im, .ref a_ke, .ref a_k, .ref a_wa, .ref a_th, .ref a_ha, .ref a_wk, .ref a_r, .ref a_x, .int e_tl, .int e_fd, .int e_fpl, .ref a_wd, .int e_wn, .ref a_rf, .int e_lr])), (a_rf, .inl (G.2 0, 5, .inl f_rf))]) [0, 1] (by decide) rfl
                  have hFc := va_free (wc := [(a_o, .inr (11, [.ref a_h, .ref a_im, .ref a_ke, .ref a_k, .ref a_wa, .ref a_th, .ref a_ha, .ref a_wk, .ref a_r, .ref a_x, .int e_tl, .int e_fd, .int e_fpl, .ref a_wd, .int e_wn, .ref a_rf, .int e_lr])), (a_rf, .inl (G.2 0, 5, .inl f_rf))]) hD hS hA [0, 1] rfl
                  refine va_calli (va_runV (As := [.int (-5)]) (rest := []) ⟨hx, hb, hml, hown, hts⟩ (x_refuse5 l G a_o a_rf a_h a_im a_ke a_k a_wa a_th a_ha a_wk a_r a_x a_wd H.size e_tl e_fd e_fpl e_wn e_lr f_rf ⟨by omega, by omega⟩ ⟨by omega, by omega⟩) (cwV 1 hts gV_X11_104 rfl rfl rfl hv_X11_refuse ⟨Nat.le_of_ble_eq_true rfl, Nat.le_of_ble_eq_true rfl⟩) (g5_preV hPc hK hDc hN hT hS hFc (ci := 11) (q0 := 0) rfl rfl) rfl rfl hl.1 rfl (lv_room (Nat.le_of_ble_eq_true rfl)) dX11_sighting_56 ⟨Nat.le_of_ble_eq_true rfl, Nat.le_of_ble_eq_true rfl⟩) hS (fun q _ h => hFc q h) hFc (fun r u t H1 locs ht hvm hw hB hz1 hk1 hS => ?_)
                  obtain ⟨hP1, hD1⟩ := hB
                  rw [ht] at hP1
                  obtain ⟨z36, rfl, rfl⟩ := hw
                  obtain ⟨hP, hD⟩ := va_join (wr := [(a_h, .inr (1, [.long e_wa, .int e_le, .int e_st, .int e_fo, .int e_lc, .ref a_l, .ref a_g, .ref a_b, .ref a_s, .ref a_p, .ref a_w, .long e_gb, .ref a_bb])), (a_s, .inr (6, [.int 10, .int 4, .ref a_sn, .int e_s])), (a_sn, .inl (G.2 0, 40, .inl f_s))]) (w1 := [(a_o, .inr (11, [.ref a_h, .ref a_im, .ref a_ke, .ref a_k, .ref a_wa, .ref a_th, .ref a_ha, .ref a_wk, .ref a_r, .ref a_x, .int e_tl, .int e_fd, .int e_fpl, .ref a_wd, .int e_wn, .ref a_rf, .int (-5)])), (a_rf, .inl (G.2 0, 5, .inl z36))]) hP hD [0, 1] [2, 3, 4] rfl rfl (by decide) (by decide) hk1 hFc hP1 hD1
                  generalize H1 = H at hP hS ⊢
                  have hP : va_P G.1 vwCl [(a_h, .inr (1, [.long e_wa, .int e_le, .int e_st, .int e_fo, .int e_lc, .ref a_l, .ref a_g, .ref a_b, .ref a_s, .ref a_p, .ref a_w, .long e_gb, .ref a_bb])), (a_s, .inr (6, [.int 10, .int 4, .ref a_sn, .int e_s])), (a_sn, .inl (G.2 0, 40, .inl f_s)), (a_o, .inr (11, [.ref a_h, .ref a_im, .ref a_ke, .ref a_k, .ref a_wa, .ref a_th, .ref a_ha, .ref a_wk, .ref a_r, .ref a_x, .int e_tl, .int e_fd, .int e_fpl, .ref a_wd, .int e_wn, .ref a_rf, .int (-5)])), (a_rf, .inl (G.2 0, 5, .inl z36))] H := hP
                  have hD : va_D A [(a_h, .inr (1, [.long e_wa, .int e_le, .int e_st, .int e_fo, .int e_lc, .ref a_l, .ref a_g, .ref a_b, .ref a_s, .ref a_p, .ref a_w, .long e_gb, .ref a_bb])), (a_s, .inr (6, [.int 10, .int 4, .ref a_sn, .int e_s])), (a_sn, .inl (G.2 0, 40, .inl f_s)), (a_o, .inr (11, [.ref a_h, .ref a_im, .ref a_ke, .ref a_k, .ref a_wa, .ref a_th, .ref a_ha, .ref a_wk, .ref a_r, .ref a_x, .int e_tl, .int e_fd, .int e_fpl, .ref a_wd, .int e_wn, .ref a_rf, .int (-5)])), (a_rf, .inl (G.2 0, 5, .inl z36))] := hD
                  exact W.iret (v := (-5)) hx hb hr (fun t ht hW => ⟨⟨(-5), [(a_o, .inr (11, [.ref a_h, .ref a_im, .ref a_ke, .ref a_k, .ref a_wa, .ref a_th, .ref a_ha, .ref a_wk, .ref a_r, .ref a_x, .int e_tl, .int e_fd, .int e_fpl, .ref a_wd, .int e_wn, .ref a_rf, .int (-5)])), (a_rf, .inl (G.2 0, 5, .inl z36)), (a_h, .inr (1, [.long e_wa, .int e_le, .int e_st, .int e_fo, .int e_lc, .ref a_l, .ref a_g, .ref a_b, .ref a_s, .ref a_p, .ref a_w, .long e_gb, .ref a_bb])), (a_s, .inr (6, [.int 10, .int 4, .ref a_sn, .int e_s])), (a_sn, .inl (G.2 0, 40, .inl f_s))], rfl, ⟨(-5), (-5), z36, e_s, f_s, ⟨by omega, by omega⟩, e_sh, e_s5, rfl, rfl⟩, by rw [ht]; exact hP.sub [3, 4, 0, 1, 2] rfl, hD.sub [3, 4, 0, 1, 2] (by decide) rfl⟩, hS.F ht⟩) hS.2.2 dX11_sighting_59
        ·
          exact absurd c_4 (by decide)
      ·
        have hP := g5_same hP hk1
        generalize H1 = H at hP hS ⊢
        refine lv_if_ne (tgt := 23) hx hb dX11_sighting_14 (by decide) (fun c_37 => ?_) (fun c_37 => ?_)
        ·
          exact absurd c_37 (by decide)
        ·
          refine lv_aload_n hx hb dX11_sighting_17 rfl (lv_at hl 0 rfl) ?_
          refine lv_iconst (v := (-1)) hx hb dX11_sighting_18 (by decide) ?_
          have hPc := hP.sub (ws' := [(a_o, .inr (11, [.ref a_h, .ref a_im, .ref a_ke, .ref a_k, .ref a_wa, .ref a_th, .ref a_ha, .ref a_wk, .ref a_r, .ref a_x, .int e_tl, .int e_fd, .int e_fpl, .ref a_wd, .int e_wn, .ref a_rf, .int e_lr])), (a_rf, .inl (G.2 0, 5, .inl f_rf))]) [0, 1] rfl
          have hDc := hD.sub (ws' := [(a_o, .inr (11, [.ref a_h, .ref a_im, .ref a_ke, .ref a_k, .ref a_wa, .ref a_th, .ref a_ha, .ref a_wk, .ref a_r, .ref a_x, .int e_tl, .int e_fd, .int e_fpl, .ref a_wd, .int e_wn, .ref a_rf, .int e_lr])), (a_rf, .inl (G.2 0, 5, .inl f_rf))]) [0, 1] (by decide) rfl
          have hFc := va_free (wc := [(a_o, .inr (11, [.ref a_h, .ref a_im, .ref a_ke, .ref a_k, .ref a_wa, .ref a_th, .ref a_ha, .ref a_wk, .ref a_r, .ref a_x, .int e_tl, .int e_fd, .int e_fpl, .ref a_wd, .int e_wn, .ref a_rf, .int e_lr])), (a_rf, .inl (G.2 0, 5, .inl f_rf))]) hD hS hA [0, 1] rfl
          refine va_calli (va_runV (As := [.int (-1)]) (rest := []) ⟨hx, hb, hml, hown, hts⟩ (x_refuse1 l G a_o a_rf a_h a_im a_ke a_k a_wa a_th a_ha a_wk a_r a_x a_wd H.size e_tl e_fd e_fpl e_wn e_lr f_rf ⟨by omega, by omega⟩ ⟨by omega, by omega⟩) (cwV 1 hts gV_X11_104 rfl rfl rfl hv_X11_refuse ⟨Nat.le_of_ble_eq_true rfl, Nat.le_of_ble_eq_true rfl⟩) (g5_preV hPc hK hDc hN hT hS hFc (ci := 11) (q0 := 0) rfl rfl) rfl rfl hl.1 rfl (lv_room (Nat.le_of_ble_eq_true rfl)) dX11_sighting_19 ⟨Nat.le_of_ble_eq_true rfl, Nat.le_of_ble_eq_true rfl⟩) hS (fun q _ h => hFc q h) hFc (fun r u t H1 locs ht hvm hw hB hz1 hk1 hS => ?_)
          obtain ⟨hP1, hD1⟩ := hB
          rw [ht] at hP1
          obtain ⟨z38, rfl, rfl⟩ := hw
          obtain ⟨hP, hD⟩ := va_join (wr := [(a_h, .inr (1, [.long e_wa, .int e_le, .int e_st, .int e_fo, .int e_lc, .ref a_l, .ref a_g, .ref a_b, .ref a_s, .ref a_p, .ref a_w, .long e_gb, .ref a_bb])), (a_s, .inr (6, [.int 10, .int 4, .ref a_sn, .int e_s])), (a_sn, .inl (G.2 0, 40, .inl f_s))]) (w1 := [(a_o, .inr (11, [.ref a_h, .ref a_im, .ref a_ke, .ref a_k, .ref a_wa, .ref a_th, .ref a_ha, .ref a_wk, .ref a_r, .ref a_x, .int e_tl, .int e_fd, .int e_fpl, .ref a_wd, .int e_wn, .ref a_rf, .int (-1)])), (a_rf, .inl (G.2 0, 5, .inl z38))]) hP hD [0, 1] [2, 3, 4] rfl rfl (by decide) (by decide) hk1 hFc hP1 hD1
          generalize H1 = H at hP hS ⊢
          have hP : va_P G.1 vwCl [(a_h, .inr (1, [.long e_wa, .int e_le, .int e_st, .int e_fo, .int e_lc, .ref a_l, .ref a_g, .ref a_b, .ref a_s, .ref a_p, .ref a_w, .long e_gb, .ref a_bb])), (a_s, .inr (6, [.int 10, .int 4, .ref a_sn, .int e_s])), (a_sn, .inl (G.2 0, 40, .inl f_s)), (a_o, .inr (11, [.ref a_h, .ref a_im, .ref a_ke, .ref a_k, .ref a_wa, .ref a_th, .ref a_ha, .ref a_wk, .ref a_r, .ref a_x, .int e_tl, .int e_fd, .int e_fpl, .ref a_wd, .int e_wn, .ref a_rf, .int (-1)])), (a_rf, .inl (G.2 0, 5, .inl z38))] H := hP
          have hD : va_D A [(a_h, .inr (1, [.long e_wa, .int e_le, .int e_st, .int e_fo, .int e_lc, .ref a_l, .ref a_g, .ref a_b, .ref a_s, .ref a_p, .ref a_w, .long e_gb, .ref a_bb])), (a_s, .inr (6, [.int 10, .int 4, .ref a_sn, .int e_s])), (a_sn, .inl (G.2 0, 40, .inl f_s)), (a_o, .inr (11, [.ref a_h, .ref a_im, .ref a_ke, .ref a_k, .ref a_wa, .ref a_th, .ref a_ha, .ref a_wk, .ref a_r, .ref a_x, .int e_tl, .int e_fd, .int e_fpl, .ref a_wd, .int e_wn, .ref a_rf, .int (-1)])), (a_rf, .inl (G.2 0, 5, .inl z38))] := hD
          exact W.iret (v := (-1)) hx hb hr (fun t ht hW => ⟨⟨(-1), [(a_o, .inr (11, [.ref a_h, .ref a_im, .ref a_ke, .ref a_k, .ref a_wa, .ref a_th, .ref a_ha, .ref a_wk, .ref a_r, .ref a_x, .int e_tl, .int e_fd, .int e_fpl, .ref a_wd, .int e_wn, .ref a_rf, .int (-1)])), (a_rf, .inl (G.2 0, 5, .inl z38)), (a_h, .inr (1, [.long e_wa, .int e_le, .int e_st, .int e_fo, .int e_lc, .ref a_l, .ref a_g, .ref a_b, .ref a_s, .ref a_p, .ref a_w, .long e_gb, .ref a_bb])), (a_s, .inr (6, [.int 10, .int 4, .ref a_sn, .int e_s])), (a_sn, .inl (G.2 0, 40, .inl f_s))], rfl, ⟨(-1), (-1), z38, e_s, f_s, ⟨by omega, by omega⟩, e_sh, e_s5, rfl, rfl⟩, by rw [ht]; exact hP.sub [3, 4, 0, 1, 2] rfl, hD.sub [3, 4, 0, 1, 2] (by decide) rfl⟩, hS.F ht⟩) hS.2.2 dX11_sighting_22
  ·
    have hP := g5_same hP hk1
    generalize H1 = H at hP hS ⊢
    refine lv_if_eq (tgt := 17) hx hb dX11_sighting_6 (by decide) (fun c_39 => ?_) (fun c_39 => ?_)
    ·
      refine lv_aload_n hx hb dX11_sighting_17 rfl (lv_at hl 0 rfl) ?_
      refine lv_iconst (v := (-1)) hx hb dX11_sighting_18 (by decide) ?_
      have hPc := hP.sub (ws' := [(a_o, .inr (11, [.ref a_h, .ref a_im, .ref a_ke, .ref a_k, .ref a_wa, .ref a_th, .ref a_ha, .ref a_wk, .ref a_r, .ref a_x, .int e_tl, .int e_fd, .int e_fpl, .ref a_wd, .int e_wn, .ref a_rf, .int e_lr])), (a_rf, .inl (G.2 0, 5, .inl f_rf))]) [0, 1] rfl
      have hDc := hD.sub (ws' := [(a_o, .inr (11, [.ref a_h, .ref a_im, .ref a_ke, .ref a_k, .ref a_wa, .ref a_th, .ref a_ha, .ref a_wk, .ref a_r, .ref a_x, .int e_tl, .int e_fd, .int e_fpl, .ref a_wd, .int e_wn, .ref a_rf, .int e_lr])), (a_rf, .inl (G.2 0, 5, .inl f_rf))]) [0, 1] (by decide) rfl
      have hFc := va_free (wc := [(a_o, .inr (11, [.ref a_h, .ref a_im, .ref a_ke, .ref a_k, .ref a_wa, .ref a_th, .ref a_ha, .ref a_wk, .ref a_r, .ref a_x, .int e_tl, .int e_fd, .int e_fpl, .ref a_wd, .int e_wn, .ref a_rf, .int e_lr])), (a_rf, .inl (G.2 0, 5, .inl f_rf))]) hD hS hA [0, 1] rfl
      refine va_calli (va_runV (As := [.int (-1)]) (rest := []) ⟨hx, hb, hml, hown, hts⟩ (x_refuse1 l G a_o a_rf a_h a_im a_ke a_k a_wa a_th a_ha a_wk a_r a_x a_wd H.size e_tl e_fd e_fpl e_wn e_lr f_rf ⟨by omega, by omega⟩ ⟨by omega, by omega⟩) (cwV 1 hts gV_X11_104 rfl rfl rfl hv_X11_refuse ⟨Nat.le_of_ble_eq_true rfl, Nat.le_of_ble_eq_true rfl⟩) (g5_preV hPc hK hDc hN hT hS hFc (ci := 11) (q0 := 0) rfl rfl) rfl rfl hl.1 rfl (lv_room (Nat.le_of_ble_eq_true rfl)) dX11_sighting_19 ⟨Nat.le_of_ble_eq_true rfl, Nat.le_of_ble_eq_true rfl⟩) hS (fun q _ h => hFc q h) hFc (fun r u t H1 locs ht hvm hw hB hz1 hk1 hS => ?_)
      obtain ⟨hP1, hD1⟩ := hB
      rw [ht] at hP1
      obtain ⟨z40, rfl, rfl⟩ := hw
      obtain ⟨hP, hD⟩ := va_join (wr := [(a_h, .inr (1, [.long e_wa, .int e_le, .int e_st, .int e_fo, .int e_lc, .ref a_l, .ref a_g, .ref a_b, .ref a_s, .ref a_p, .ref a_w, .long e_gb, .ref a_bb])), (a_s, .inr (6, [.int 10, .int 4, .ref a_sn, .int e_s])), (a_sn, .inl (G.2 0, 40, .inl f_s))]) (w1 := [(a_o, .inr (11, [.ref a_h, .ref a_im, .ref a_ke, .ref a_k, .ref a_wa, .ref a_th, .ref a_ha, .ref a_wk, .ref a_r, .ref a_x, .int e_tl, .int e_fd, .int e_fpl, .ref a_wd, .int e_wn, .ref a_rf, .int (-1)])), (a_rf, .inl (G.2 0, 5, .inl z40))]) hP hD [0, 1] [2, 3, 4] rfl rfl (by decide) (by decide) hk1 hFc hP1 hD1
      generalize H1 = H at hP hS ⊢
      have hP : va_P G.1 vwCl [(a_h, .inr (1, [.long e_wa, .int e_le, .int e_st, .int e_fo, .int e_lc, .ref a_l, .ref a_g, .ref a_b, .ref a_s, .ref a_p, .ref a_w, .long e_gb, .ref a_bb])), (a_s, .inr (6, [.int 10, .int 4, .ref a_sn, .int e_s])), (a_sn, .inl (G.2 0, 40, .inl f_s)), (a_o, .inr (11, [.ref a_h, .ref a_im, .ref a_ke, .ref a_k, .ref a_wa, .ref a_th, .ref a_ha, .ref a_wk, .ref a_r, .ref a_x, .int e_tl, .int e_fd, .int e_fpl, .ref a_wd, .int e_wn, .ref a_rf, .int (-1)])), (a_rf, .inl (G.2 0, 5, .inl z40))] H := hP
      have hD : va_D A [(a_h, .inr (1, [.long e_wa, .int e_le, .int e_st, .int e_fo, .int e_lc, .ref a_l, .ref a_g, .ref a_b, .ref a_s, .ref a_p, .ref a_w, .long e_gb, .ref a_bb])), (a_s, .inr (6, [.int 10, .int 4, .ref a_sn, .int e_s])), (a_sn, .inl (G.2 0, 40, .inl f_s)), (a_o, .inr (11, [.ref a_h, .ref a_im, .ref a_ke, .ref a_k, .ref a_wa, .ref a_th, .ref a_ha, .ref a_wk, .ref a_r, .ref a_x, .int e_tl, .int e_fd, .int e_fpl, .ref a_wd, .int e_wn, .ref a_rf, .int (-1)])), (a_rf, .inl (G.2 0, 5, .inl z40))] := hD
      exact W.iret (v := (-1)) hx hb hr (fun t ht hW => ⟨⟨(-1), [(a_o, .inr (11, [.ref a_h, .ref a_im, .ref a_ke, .ref a_k, .ref a_wa, .ref a_th, .ref a_ha, .ref a_wk, .ref a_r, .ref a_x, .int e_tl, .int e_fd, .int e_fpl, .ref a_wd, .int e_wn, .ref a_rf, .int (-1)])), (a_rf, .inl (G.2 0, 5, .inl z40)), (a_h, .inr (1, [.long e_wa, .int e_le, .int e_st, .int e_fo, .int e_lc, .ref a_l, .ref a_g, .ref a_b, .ref a_s, .ref a_p, .ref a_w, .long e_gb, .ref a_bb])), (a_s, .inr (6, [.int 10, .int 4, .ref a_sn, .int e_s])), (a_sn, .inl (G.2 0, 40, .inl f_s))], rfl, ⟨(-1), (-1), z40, e_s, f_s, ⟨by omega, by omega⟩, e_sh, e_s5, rfl, rfl⟩, by rw [ht]; exact hP.sub [3, 4, 0, 1, 2] rfl, hD.sub [3, 4, 0, 1, 2] (by decide) rfl⟩, hS.F ht⟩) hS.2.2 dX11_sighting_22
    ·
      exact absurd c_39 (by decide)
theorem dX11_drop_0 : decode cX11_drop 0 = .ok (.aload_n 0, 1) := by decide +kernel
theorem dX11_drop_1 : decode cX11_drop 1 = .ok (.getfield 12, 3) := by decide +kernel
theorem dX11_drop_4 : decode cX11_drop 4 = .ok (.getfield 261, 3) := by decide +kernel
theorem dX11_drop_7 : decode cX11_drop 7 = .ok (.iload_n 1, 1) := by decide +kernel
theorem dX11_drop_8 : decode cX11_drop 8 = .ok (.invokevirtual 160, 3) := by decide +kernel
theorem dX11_drop_11 : decode cX11_drop 11 = .ok (.ifCond .ne 10, 3) := by decide +kernel
theorem dX11_drop_14 : decode cX11_drop 14 = .ok (.aload_n 0, 1) := by decide +kernel
theorem dX11_drop_15 : decode cX11_drop 15 = .ok (.bipush (-2), 2) := by decide +kernel
theorem dX11_drop_17 : decode cX11_drop 17 = .ok (.invokevirtual 104, 3) := by decide +kernel
theorem dX11_drop_20 : decode cX11_drop 20 = .ok (.ireturn, 1) := by decide +kernel
theorem dX11_drop_21 : decode cX11_drop 21 = .ok (.aload_n 0, 1) := by decide +kernel
theorem dX11_drop_22 : decode cX11_drop 22 = .ok (.getfield 12, 3) := by decide +kernel
theorem dX11_drop_25 : decode cX11_drop 25 = .ok (.getfield 261, 3) := by decide +kernel
theorem dX11_drop_28 : decode cX11_drop 28 = .ok (.iload_n 1, 1) := by decide +kernel
theorem dX11_drop_29 : decode cX11_drop 29 = .ok (.invokevirtual 271, 3) := by decide +kernel
theorem dX11_drop_32 : decode cX11_drop 32 = .ok (.aload_n 0, 1) := by decide +kernel
theorem dX11_drop_33 : decode cX11_drop 33 = .ok (.aload_n 0, 1) := by decide +kernel
theorem dX11_drop_34 : decode cX11_drop 34 = .ok (.getfield 12, 3) := by decide +kernel
theorem dX11_drop_37 : decode cX11_drop 37 = .ok (.getfield 261, 3) := by decide +kernel
theorem dX11_drop_40 : decode cX11_drop 40 = .ok (.getfield 238, 3) := by decide +kernel
theorem dX11_drop_43 : decode cX11_drop 43 = .ok (.invokevirtual 121, 3) := by decide +kernel
theorem dX11_drop_46 : decode cX11_drop 46 = .ok (.ireturn, 1) := by decide +kernel
theorem ml_X11_271 : Cond.methodLink RX11 271 yX6_remove ∈ tblG := tg 942 (by decide +kernel) (by decide +kernel)
theorem im_X6_remove : Cond.instanceMethod yX6_remove ∈ tblG := tg 943 (by decide +kernel) (by decide +kernel)
theorem se_X6_remove : Cond.selects RX6 yX6_remove yX6_remove ∈ tblG := tg 944 (by decide +kernel) (by decide +kernel)
theorem cd_X6_remove : Cond.code yX6_remove cX6_remove 3 none ∈ tblG := tg 945 (by decide +kernel) (by decide +kernel)
theorem gW_X6_remove : GoodIn tblG (wsG yX6_remove cX6_remove 3 none) := tgi cd_X6_remove
theorem gV_X11_271 : GoodIn tblG (wsV RX11 271 RX6 yX6_remove (wsG yX6_remove cX6_remove 3 none)) := tgV ml_X11_271 im_X6_remove se_X6_remove ini_X6 gW_X6_remove
theorem hv_X6_remove : yX6_remove.cls = RX6 ∧ yX6_remove.cls ≠ "java/lang/invoke/MethodHandle" ∧ yX6_remove.cls ≠ "java/lang/invoke/VarHandle" ∧ (parseMethodDescriptor yX6_remove.desc).map (fun d => d.parameters.length) = some 1 := by decide +kernel
set_option maxHeartbeats 4000000 in
set_option maxRecDepth 100000 in
theorem x_drop (l : Launch) (G : g5_G) (a_o a_rf a_h a_s a_sn a_im a_ke a_k a_wa a_th a_ha a_wk a_r a_x a_wd a_l a_g a_b a_p a_w a_bb : Nat) (sz : Nat) (e_tl : Int32) (e_fd : Int32) (e_fpl : Int32) (e_wn : Int32) (e_lr : Int32) (e_le : Int32) (e_st : Int32) (e_fo : Int32) (e_lc : Int32) (e_s : Int32) (p_i : Int32) (e_wa : Int64) (e_gb : Int64) (f_rf : Nat → Int32) (f_s : Nat → Int32) (h_e_tl : 0 ≤ e_tl.toInt ∧ e_tl.toInt ≤ 400) (h_e_wn : 0 ≤ e_wn.toInt ∧ e_wn.toInt ≤ 1) (h_e_s : 0 ≤ e_s.toInt ∧ e_s.toInt ≤ 10) (e_sh : ∀ r : Int, 0 ≤ r → r < e_s.toInt → 0 ≤ (tget f_s e_s.toInt 4 r (3 : Int32).toInt).toInt ∧ (tget f_s e_s.toInt 4 r (3 : Int32).toInt).toInt ≤ 1) (e_s5 : snS f_s e_s.toInt e_s.toInt.toNat ≤ 5) : Met l yX11_drop (wsG yX11_drop cX11_drop 2 (some .int)) ({ frames := 2, cells := 0, slots := 0, locals := 82 }) (va_Pc [.ref a_o, .int p_i] (g5_P G [(a_o, .inr (11, [.ref a_h, .ref a_im, .ref a_ke, .ref a_k, .ref a_wa, .ref a_th, .ref a_ha, .ref a_wk, .ref a_r, .ref a_x, .int e_tl, .int e_fd, .int e_fpl, .ref a_wd, .int e_wn, .ref a_rf, .int e_lr])), (a_rf, .inl (G.2 0, 5, .inl f_rf)), (a_h, .inr (1, [.long e_wa, .int e_le, .int e_st, .int e_fo, .int e_lc, .ref a_l, .ref a_g, .ref a_b, .ref a_s, .ref a_p, .ref a_w, .long e_gb, .ref a_bb])), (a_s, .inr (6, [.int 10, .int 4, .ref a_sn, .int e_s])), (a_sn, .inl (G.2 0, 40, .inl f_s))] sz)) (va_Qi (fun (r : Int32) (u : va_W) => (∃ (o_r : Int32) (o_lr : Int32) (o_rf : Nat → Int32) (o_n : Int32) (o_f : Nat → Int32), (0 ≤ o_n.toInt ∧ o_n.toInt ≤ 10) ∧ (∀ r : Int, 0 ≤ r → r < o_n.toInt → 0 ≤ (tget o_f o_n.toInt 4 r (3 : Int32).toInt).toInt ∧ (tget o_f o_n.toInt 4 r (3 : Int32).toInt).toInt ≤ 1) ∧ (snS o_f o_n.toInt o_n.toInt.toNat ≤ 5) ∧ (r = o_r) ∧ (u = [(a_o, .inr (11, [.ref a_h, .ref a_im, .ref a_ke, .ref a_k, .ref a_wa, .ref a_th, .ref a_ha, .ref a_wk, .ref a_r, .ref a_x, .int e_tl, .int e_fd, .int e_fpl, .ref a_wd, .int e_wn, .ref a_rf, .int o_lr])), (a_rf, .inl (G.2 0, 5, .inl o_rf)), (a_h, .inr (1, [.long e_wa, .int e_le, .int e_st, .int e_fo, .int e_lc, .ref a_l, .ref a_g, .ref a_b, .ref a_s, .ref a_p, .ref a_w, .long e_gb, .ref a_bb])), (a_s, .inr (6, [.int 10, .int 4, .ref a_sn, .int o_n])), (a_sn, .inl (G.2 0, 40, .inl o_f))]))) (g5_B G (va_A [(a_o, .inr (11, [.ref a_h, .ref a_im, .ref a_ke, .ref a_k, .ref a_wa, .ref a_th, .ref a_ha, .ref a_wk, .ref a_r, .ref a_x, .int e_tl, .int e_fd, .int e_fpl, .ref a_wd, .int e_wn, .ref a_rf, .int e_lr])), (a_rf, .inl (G.2 0, 5, .inl f_rf)), (a_h, .inr (1, [.long e_wa, .int e_le, .int e_st, .int e_fo, .int e_lc, .ref a_l, .ref a_g, .ref a_b, .ref a_s, .ref a_p, .ref a_w, .long e_gb, .ref a_bb])), (a_s, .inr (6, [.int 10, .int 4, .ref a_sn, .int e_s])), (a_sn, .inl (G.2 0, 40, .inl f_s))] sz)) (va_A [(a_o, .inr (11, [.ref a_h, .ref a_im, .ref a_ke, .ref a_k, .ref a_wa, .ref a_th, .ref a_ha, .ref a_wk, .ref a_r, .ref a_x, .int e_tl, .int e_fd, .int e_fpl, .ref a_wd, .int e_wn, .ref a_rf, .int e_lr])), (a_rf, .inl (G.2 0, 5, .inl f_rf)), (a_h, .inr (1, [.long e_wa, .int e_le, .int e_st, .int e_fo, .int e_lc, .ref a_l, .ref a_g, .ref a_b, .ref a_s, .ref a_p, .ref a_w, .long e_gb, .ref a_bb])), (a_s, .inr (6, [.int 10, .int 4, .ref a_sn, .int e_s])), (a_sn, .inl (G.2 0, 40, .inl f_s))] sz)) 0 0 (va_A [(a_o, .inr (11, [.ref a_h, .ref a_im, .ref a_ke, .ref a_k, .ref a_wa, .ref a_th, .ref a_ha, .ref a_wk, .ref a_r, .ref a_x, .int e_tl, .int e_fd, .int e_fpl, .ref a_wd, .int e_wn, .ref a_rf, .int e_lr])), (a_rf, .inl (G.2 0, 5, .inl f_rf)), (a_h, .inr (1, [.long e_wa, .int e_le, .int e_st, .int e_fo, .int e_lc, .ref a_l, .ref a_g, .ref a_b, .ref a_s, .ref a_p, .ref a_w, .long e_gb, .ref a_bb])), (a_s, .inr (6, [.int 10, .int 4, .ref a_sn, .int e_s])), (a_sn, .inl (G.2 0, 40, .inl f_s))] sz) := by
  refine Met.ofW (cc := cX11_drop) (maxL := 2) (ret := (some .int)) (by decide) rfl ?_
  intro p e s m args below meth c s₁ B hml hv
  obtain ⟨rfl, hsz, hP, hK, hD0, hN, hT⟩ := hv
  have hx := B.exec
  have hb := B.bytes
  have hr := B.returns
  have hts : ∀ w ∈ tblG, w.before _ s = true := fun w h => atoms_spec (ws := (wsG yX11_drop cX11_drop 2 (some .int))) B.pre w (List.mem_cons_of_mem _ h)
  have hown : s.vm.findClass RX11 = some m.cls := findClass_of_methodNamed B.named
  have hlocks := B.notSynchronized
  subst hsz
  have hD := hD0.self (sz := s.heap.size)
  generalize hAe : va_A [(a_o, .inr (11, [.ref a_h, .ref a_im, .ref a_ke, .ref a_k, .ref a_wa, .ref a_th, .ref a_ha, .ref a_wk, .ref a_r, .ref a_x, .int e_tl, .int e_fd, .int e_fpl, .ref a_wd, .int e_wn, .ref a_rf, .int e_lr])), (a_rf, .inl (G.2 0, 5, .inl f_rf)), (a_h, .inr (1, [.long e_wa, .int e_le, .int e_st, .int e_fo, .int e_lc, .ref a_l, .ref a_g, .ref a_b, .ref a_s, .ref a_p, .ref a_w, .long e_gb, .ref a_bb])), (a_s, .inr (6, [.int 10, .int 4, .ref a_sn, .int e_s])), (a_sn, .inl (G.2 0, 40, .inl f_s))] s.heap.size = A at hD hT ⊢
  have hA : ∀ q : Nat, s.heap.size ≤ q → A q := fun q h => by rw [← hAe]; exact Or.inr h
  have hS : va_S A s.heap s.heap [] := va_S.rf
  have hP : va_P G.1 vwCl [(a_o, .inr (11, [.ref a_h, .ref a_im, .ref a_ke, .ref a_k, .ref a_wa, .ref a_th, .ref a_ha, .ref a_wk, .ref a_r, .ref a_x, .int e_tl, .int e_fd, .int e_fpl, .ref a_wd, .int e_wn, .ref a_rf, .int e_lr])), (a_rf, .inl (G.2 0, 5, .inl f_rf)), (a_h, .inr (1, [.long e_wa, .int e_le, .int e_st, .int e_fo, .int e_lc, .ref a_l, .ref a_g, .ref a_b, .ref a_s, .ref a_p, .ref a_w, .long e_gb, .ref a_bb])), (a_s, .inr (6, [.int 10, .int 4, .ref a_sn, .int e_s])), (a_sn, .inl (G.2 0, 40, .inl f_s))] s.heap := hP
  have hl := lv_entry ([.ref a_o, .int p_i]) (n := 2) (Nat.le_of_ble_eq_true rfl)
  rw [lg_entry_eq]
  generalize (lg_sl ([.ref a_o, .int p_i]) ++ List.replicate (2 - (lg_sl ([.ref a_o, .int p_i])).length) Slot.unset).toArray = ls at hl ⊢
  have hl : lv_has ls 2 [(0, .ref a_o), (1, .int p_i)] := hl
  refine lv_aload_n hx hb dX11_drop_0 rfl (lv_at hl 0 rfl) ?_
  refine va_get (D := G.1) (ci := 11) (v := .ref a_h) (C := RX11) (T := TX11) (N := 17) hx hb hts inG_X11 hown hK hP 0 rfl rfl 0 (by decide) (hts _ fl_X11_12) (fun _ h9 => h9) rfl dX11_drop_1 ?_
  refine va_get (D := G.1) (ci := 1) (v := .ref a_s) (C := RX1) (T := TX1) (N := 13) hx hb hts inG_X1 hown hK hP 2 rfl rfl 8 (by decide) (hts _ fl_X11_261) (fun _ h9 => h9) rfl dX11_drop_4 ?_
  refine lv_iload_n hx hb dX11_drop_7 rfl (lv_at hl 1 rfl) ?_
  have hPc := hP.sub (ws' := [(a_s, .inr (6, [.int 10, .int 4, .ref a_sn, .int e_s]))]) [3] rfl
  have hDc := hD.sub (ws' := [(a_s, .inr (6, [.int 10, .int 4, .ref a_sn, .int e_s]))]) [3] (by decide) rfl
  have hFc := va_free (wc := [(a_s, .inr (6, [.int 10, .int 4, .ref a_sn, .int e_s]))]) hD hS hA [3] rfl
  refine va_calli (va_runV (As := [.int p_i]) (rest := []) ⟨hx, hb, hml, hown, hts⟩ (t_has_S l G a_s a_sn s.heap.size e_s p_i ⟨by omega, by omega⟩) (cwV 1 hts gV_X11_160 rfl rfl rfl hv_X6_has ⟨Nat.le_of_ble_eq_true rfl, Nat.le_of_ble_eq_true rfl⟩) (g5_preV hPc hK hDc hN hT hS hFc (ci := 6) (q0 := 0) rfl rfl) rfl rfl hl.1 rfl (lv_room (Nat.le_of_ble_eq_true rfl)) dX11_drop_8 ⟨Nat.le_of_ble_eq_true rfl, Nat.le_of_ble_eq_true rfl⟩) hS (fun q _ h => hFc q h) hFc (fun r u t H1 locs ht hvm hw hB hz1 hk1 hS => ?_)
  obtain ⟨hP1, hD1⟩ := hB
  rw [ht] at hP1
  rcases hw with ⟨i_1, rfl, rfl⟩ | ⟨i_2, rfl, rfl⟩
  ·
    have i_1 : 0 ≤ p_i.toInt ∧ p_i.toInt < e_s.toInt := i_1
    obtain ⟨hP, hD⟩ := va_join (wr := [(a_o, .inr (11, [.ref a_h, .ref a_im, .ref a_ke, .ref a_k, .ref a_wa, .ref a_th, .ref a_ha, .ref a_wk, .ref a_r, .ref a_x, .int e_tl, .int e_fd, .int e_fpl, .ref a_wd, .int e_wn, .ref a_rf, .int e_lr])), (a_rf, .inl (G.2 0, 5, .inl f_rf)), (a_h, .inr (1, [.long e_wa, .int e_le, .int e_st, .int e_fo, .int e_lc, .ref a_l, .ref a_g, .ref a_b, .ref a_s, .ref a_p, .ref a_w, .long e_gb, .ref a_bb])), (a_sn, .inl (G.2 0, 40, .inl f_s))]) (w1 := [(a_s, .inr (6, [.int 10, .int 4, .ref a_sn, .int e_s]))]) hP hD [3] [0, 1, 2, 4] rfl rfl (by decide) (by decide) hk1 hFc hP1 hD1
    generalize H1 = H at hP hS ⊢
    have hP : va_P G.1 vwCl [(a_o, .inr (11, [.ref a_h, .ref a_im, .ref a_ke, .ref a_k, .ref a_wa, .ref a_th, .ref a_ha, .ref a_wk, .ref a_r, .ref a_x, .int e_tl, .int e_fd, .int e_fpl, .ref a_wd, .int e_wn, .ref a_rf, .int e_lr])), (a_rf, .inl (G.2 0, 5, .inl f_rf)), (a_h, .inr (1, [.long e_wa, .int e_le, .int e_st, .int e_fo, .int e_lc, .ref a_l, .ref a_g, .ref a_b, .ref a_s, .ref a_p, .ref a_w, .long e_gb, .ref a_bb])), (a_sn, .inl (G.2 0, 40, .inl f_s)), (a_s, .inr (6, [.int 10, .int 4, .ref a_sn, .int e_s]))] H := hP
    have hD : va_D A [(a_o, .inr (11, [.ref a_h, .ref a_im, .ref a_ke, .ref a_k, .ref a_wa, .ref a_th, .ref a_ha, .ref a_wk, .ref a_r, .ref a_x, .int e_tl, .int e_fd, .int e_fpl, .ref a_wd, .int e_wn, .ref a_rf, .int e_lr])), (a_rf, .inl (G.2 0, 5, .inl f_rf)), (a_h, .inr (1, [.long e_wa, .int e_le, .int e_st, .int e_fo, .int e_lc, .ref a_l, .ref a_g, .ref a_b, .ref a_s, .ref a_p, .ref a_w, .long e_gb, .ref a_bb])), (a_sn, .inl (G.2 0, 40, .inl f_s)), (a_s, .inr (6, [.int 10, .int 4, .ref a_sn, .int e_s]))] := hD
    refine lv_if_ne (tgt := 21) hx hb dX11_drop_11 (by decide) (fun c_3 => ?_) (fun c_3 => ?_)
    ·
      refine lv_aload_n hx hb dX11_drop_21 rfl (lv_at hl 0 rfl) ?_
      refine va_get (D := G.1) (ci := 11) (v := .ref a_h) (C := RX11) (T := TX11) (N := 17) hx hb hts inG_X11 hown hK hP 0 rfl rfl 0 (by decide) (hts _ fl_X11_12) (fun _ h9 => h9) rfl dX11_drop_22 ?_
      refine va_get (D := G.1) (ci := 1) (v := .ref a_s) (C := RX1) (T := TX1) (N := 13) hx hb hts inG_X1 hown hK hP 2 rfl rfl 8 (by decide) (hts _ fl_X11_261) (fun _ h9 => h9) rfl dX11_drop_25 ?_
      refine lv_iload_n hx hb dX11_drop_28 rfl (lv_at hl 1 rfl) ?_
      have hPc := hP.sub (ws' := [(a_s, .inr (6, [.int 10, .int 4, .ref a_sn, .int e_s])), (a_sn, .inl (G.2 0, 40, .inl f_s))]) [4, 3] rfl
      have hDc := hD.sub (ws' := [(a_s, .inr (6, [.int 10, .int 4, .ref a_sn, .int e_s])), (a_sn, .inl (G.2 0, 40, .inl f_s))]) [4, 3] (by decide) rfl
      have hFc := va_free (wc := [(a_s, .inr (6, [.int 10, .int 4, .ref a_sn, .int e_s])), (a_sn, .inl (G.2 0, 40, .inl f_s))]) hD hS hA [4, 3] rfl
      refine va_callv (va_runV (As := [.int p_i]) (rest := []) ⟨hx, hb, hml, hown, hts⟩ (t_remove_S l G a_s a_sn H.size e_s p_i f_s ⟨by omega, by omega⟩) (cwV 1 hts gV_X11_271 rfl rfl rfl hv_X6_remove ⟨Nat.le_of_ble_eq_true rfl, Nat.le_of_ble_eq_true rfl⟩) (g5_preV hPc hK hDc hN hT hS hFc (ci := 6) (q0 := 0) rfl rfl) rfl rfl hl.1 rfl (lv_room (Nat.le_of_ble_eq_true rfl)) dX11_drop_29 ⟨Nat.le_of_ble_eq_true rfl, Nat.le_of_ble_eq_true rfl⟩) hS (fun q _ h => hFc q h) hFc (fun u t H1 locs ht hvm hw hB hz1 hk1 hS => ?_)
      obtain ⟨hP1, hD1⟩ := hB
      rw [ht] at hP1
      rcases hw with ⟨i_4, rfl⟩ | ⟨z8, i_5, i_6, i_7, rfl⟩
      ·
        have i_4 : p_i.toInt < 0 ∨ e_s.toInt ≤ p_i.toInt := i_4
        obtain ⟨hP, hD⟩ := va_join (wr := [(a_o, .inr (11, [.ref a_h, .ref a_im, .ref a_ke, .ref a_k, .ref a_wa, .ref a_th, .ref a_ha, .ref a_wk, .ref a_r, .ref a_x, .int e_tl, .int e_fd, .int e_fpl, .ref a_wd, .int e_wn, .ref a_rf, .int e_lr])), (a_rf, .inl (G.2 0, 5, .inl f_rf)), (a_h, .inr (1, [.long e_wa, .int e_le, .int e_st, .int e_fo, .int e_lc, .ref a_l, .ref a_g, .ref a_b, .ref a_s, .ref a_p, .ref a_w, .long e_gb, .ref a_bb]))]) (w1 := [(a_s, .inr (6, [.int 10, .int 4, .ref a_sn, .int e_s])), (a_sn, .inl (G.2 0, 40, .inl f_s))]) hP hD [4, 3] [0, 1, 2] rfl rfl (by decide) (by decide) hk1 hFc hP1 hD1
        generalize H1 = H at hP hS ⊢
        have hP : va_P G.1 vwCl [(a_o, .inr (11, [.ref a_h, .ref a_im, .ref a_ke, .ref a_k, .ref a_wa, .ref a_th, .ref a_ha, .ref a_wk, .ref a_r, .ref a_x, .int e_tl, .int e_fd, .int e_fpl, .ref a_wd, .int e_wn, .ref a_rf, .int e_lr])), (a_rf, .inl (G.2 0, 5, .inl f_rf)), (a_h, .inr (1, [.long e_wa, .int e_le, .int e_st, .int e_fo, .int e_lc, .ref a_l, .ref a_g, .ref a_b, .ref a_s, .ref a_p, .ref a_w, .long e_gb, .ref a_bb])), (a_s, .inr (6, [.int 10, .int 4, .ref a_sn, .int e_s])), (a_sn, .inl (G.2 0, 40, .inl f_s))] H := hP
        have hD : va_D A [(a_o, .inr (11, [.ref a_h, .ref a_im, .ref a_ke, .ref a_k, .ref a_wa, .ref a_th, .ref a_ha, .ref a_wk, .ref a_r, .ref a_x, .int e_tl, .int e_fd, .int e_fpl, .ref a_wd, .int e_wn, .ref a_rf, .int e_lr])), (a_rf, .inl (G.2 0, 5, .inl f_rf)), (a_h, .inr (1, [.long e_wa, .int e_le, .int e_st, .int e_fo, .int e_lc, .ref a_l, .ref a_g, .ref a_b, .ref a_s, .ref a_p, .ref a_w, .long e_gb, .ref a_bb])), (a_s, .inr (6, [.int 10, .int 4, .ref a_sn, .int e_s])), (a_sn, .inl (G.2 0, 40, .inl f_s))] := hD
        refine lv_aload_n hx hb dX11_drop_32 rfl (lv_at hl 0 rfl) ?_
        refine lv_aload_n hx hb dX11_drop_33 rfl (lv_at hl 0 rfl) ?_
        refine va_get (D := G.1) (ci := 11) (v := .ref a_h) (C := RX11) (T := TX11) (N := 17) hx hb hts inG_X11 hown hK hP 0 rfl rfl 0 (by decide) (hts _ fl_X11_12) (fun _ h9 => h9) rfl dX11_drop_34 ?_
        refine va_get (D := G.1) (ci := 1) (v := .ref a_s) (C := RX1) (T := TX1) (N := 13) hx hb hts inG_X1 hown hK hP 2 rfl rfl 8 (by decide) (hts _ fl_X11_261) (fun _ h9 => h9) rfl dX11_drop_37 ?_
        refine va_get (D := G.1) (ci := 6) (v := .int e_s) (C := RX6) (T := TX6) (N := 4) hx hb hts inG_X6 hown hK hP 3 rfl rfl 3 (by decide) (hts _ fl_X11_238) (fun _ h9 => h9) rfl dX11_drop_40 ?_
        have hPc := hP.sub (ws' := [(a_o, .inr (11, [.ref a_h, .ref a_im, .ref a_ke, .ref a_k, .ref a_wa, .ref a_th, .ref a_ha, .ref a_wk, .ref a_r, .ref a_x, .int e_tl, .int e_fd, .int e_fpl, .ref a_wd, .int e_wn, .ref a_rf, .int e_lr]))]) [0] rfl
        have hDc := hD.sub (ws' := [(a_o, .inr (11, [.ref a_h, .ref a_im, .ref a_ke, .ref a_k, .ref a_wa, .ref a_th, .ref a_ha, .ref a_wk, .ref a_r, .ref a_x, .int e_tl, .int e_fd, .int e_fpl, .ref a_wd, .int e_wn, .ref a_rf, .int e_lr]))]) [0] (by decide) rfl
        have hFc := va_free (wc := [(a_o, .inr (11, [.ref a_h, .ref a_im, .ref a_ke, .ref a_k, .ref a_wa, .ref a_th, .ref a_ha, .ref a_wk, .ref a_r, .ref a_x, .int e_tl, .int e_fd, .int e_fpl, .ref a_wd, .int e_wn, .ref a_rf, .int e_lr]))]) hD hS hA [0] rfl
        refine va_calli (va_runV (As := [.int e_s]) (rest := []) ⟨hx, hb, hml, hown, hts⟩ (x_done l G a_o a_h a_im a_ke a_k a_wa a_th a_ha a_wk a_r a_x a_wd a_rf H.size e_tl e_fd e_fpl e_wn e_lr e_s ⟨by omega, by omega⟩ ⟨by omega, by omega⟩) (cwV 1 hts gV_X11_121 rfl rfl rfl hv_X11_done ⟨Nat.le_of_ble_eq_true rfl, Nat.le_of_ble_eq_true rfl⟩) (g5_preV hPc hK hDc hN hT hS hFc (ci := 11) (q0 := 0) rfl rfl) rfl rfl hl.1 rfl (lv_room (Nat.le_of_ble_eq_true rfl)) dX11_drop_43 ⟨Nat.le_of_ble_eq_true rfl, Nat.le_of_ble_eq_true rfl⟩) hS (fun q _ h => hFc q h) hFc (fun r u t H1 locs ht hvm hw hB hz1 hk1 hS => ?_)
        obtain ⟨hP1, hD1⟩ := hB
        rw [ht] at hP1
        obtain ⟨y9, rfl⟩ := hw
        obtain ⟨hP, hD⟩ := va_join (wr := [(a_rf, .inl (G.2 0, 5, .inl f_rf)), (a_h, .inr (1, [.long e_wa, .int e_le, .int e_st, .int e_fo, .int e_lc, .ref a_l, .ref a_g, .ref a_b, .ref a_s, .ref a_p, .ref a_w, .long e_gb, .ref a_bb])), (a_s, .inr (6, [.int 10, .int 4, .ref a_sn, .int e_s])), (a_sn, .inl (G.2 0, 40, .inl f_s))]) (w1 := [(a_o, .inr (11, [.ref a_h, .ref a_im, .ref a_ke, .ref a_k, .ref a_wa, .ref a_th, .ref a_ha, .ref a_wk, .ref a_r, .ref a_x, .int e_tl, .int e_fd, .int e_fpl, .ref a_wd, .int e_wn, .ref a_rf, .int 0]))]) hP hD [0] [1, 2, 3, 4] rfl rfl (by decide) (by decide) hk1 hFc hP1 hD1
        generalize H1 = H at hP hS ⊢
        have hP : va_P G.1 vwCl [(a_rf, .inl (G.2 0, 5, .inl f_rf)), (a_h, .inr (1, [.long e_wa, .int e_le, .int e_st, .int e_fo, .int e_lc, .ref a_l, .ref a_g, .ref a_b, .ref a_s, .ref a_p, .ref a_w, .long e_gb, .ref a_bb])), (a_s, .inr (6, [.int 10, .int 4, .ref a_sn, .int e_s])), (a_sn, .inl (G.2 0, 40, .inl f_s)), (a_o, .inr (11, [.ref a_h, .ref a_im, .ref a_ke, .ref a_k, .ref a_wa, .ref a_th, .ref a_ha, .ref a_wk, .ref a_r, .ref a_x, .int e_tl, .int e_fd, .int e_fpl, .ref a_wd, .int e_wn, .ref a_rf, .int 0]))] H := hP
        have hD : va_D A [(a_rf, .inl (G.2 0, 5, .inl f_rf)), (a_h, .inr (1, [.long e_wa, .int e_le, .int e_st, .int e_fo, .int e_lc, .ref a_l, .ref a_g, .ref a_b, .ref a_s, .ref a_p, .ref a_w, .long e_gb, .ref a_bb])), (a_s, .inr (6, [.int 10, .int 4, .ref a_sn, .int e_s])), (a_sn, .inl (G.2 0, 40, .inl f_s)), (a_o, .inr (11, [.ref a_h, .ref a_im, .ref a_ke, .ref a_k, .ref a_wa, .ref a_th, .ref a_ha, .ref a_wk, .ref a_r, .ref a_x, .int e_tl, .int e_fd, .int e_fpl, .ref a_wd, .int e_wn, .ref a_rf, .int 0]))] := hD
        refine g5_ti (v := e_s) y9 ?_
        exact W.iret (v := e_s) hx hb hr (fun t ht hW => ⟨⟨e_s, [(a_o, .inr (11, [.ref a_h, .ref a_im, .ref a_ke, .ref a_k, .ref a_wa, .ref a_th, .ref a_ha, .ref a_wk, .ref a_r, .ref a_x, .int e_tl, .int e_fd, .int e_fpl, .ref a_wd, .int e_wn, .ref a_rf, .int 0])), (a_rf, .inl (G.2 0, 5, .inl f_rf)), (a_h, .inr (1, [.long e_wa, .int e_le, .int e_st, .int e_fo, .int e_lc, .ref a_l, .ref a_g, .ref a_b, .ref a_s, .ref a_p, .ref a_w, .long e_gb, .ref a_bb])), (a_s, .inr (6, [.int 10, .int 4, .ref a_sn, .int e_s])), (a_sn, .inl (G.2 0, 40, .inl f_s))], rfl, ⟨e_s, 0, f_rf, e_s, f_s, ⟨by omega, by omega⟩, e_sh, e_s5, rfl, rfl⟩, by rw [ht]; exact hP.sub [4, 0, 1, 2, 3] rfl, hD.sub [4, 0, 1, 2, 3] (by decide) rfl⟩, hS.F ht⟩) hS.2.2 dX11_drop_46
      ·
        have i_5 : 0 ≤ p_i.toInt ∧ p_i.toInt < e_s.toInt := i_5
        have i_6 : (e_s - 1).toInt = e_s.toInt - 1 := i_6
        have i_7 : z8 = trem f_s e_s.toInt 4 p_i.toInt := i_7
        obtain ⟨hP, hD⟩ := va_join (wr := [(a_o, .inr (11, [.ref a_h, .ref a_im, .ref a_ke, .ref a_k, .ref a_wa, .ref a_th, .ref a_ha, .ref a_wk, .ref a_r, .ref a_x, .int e_tl, .int e_fd, .int e_fpl, .ref a_wd, .int e_wn, .ref a_rf, .int e_lr])), (a_rf, .inl (G.2 0, 5, .inl f_rf)), (a_h, .inr (1, [.long e_wa, .int e_le, .int e_st, .int e_fo, .int e_lc, .ref a_l, .ref a_g, .ref a_b, .ref a_s, .ref a_p, .ref a_w, .long e_gb, .ref a_bb]))]) (w1 := [(a_s, .inr (6, [.int 10, .int 4, .ref a_sn, .int (e_s - 1)])), (a_sn, .inl (G.2 0, 40, .inl z8))]) hP hD [4, 3] [0, 1, 2] rfl rfl (by decide) (by decide) hk1 hFc hP1 hD1
        generalize H1 = H at hP hS ⊢
        have hP : va_P G.1 vwCl [(a_o, .inr (11, [.ref a_h, .ref a_im, .ref a_ke, .ref a_k, .ref a_wa, .ref a_th, .ref a_ha, .ref a_wk, .ref a_r, .ref a_x, .int e_tl, .int e_fd, .int e_fpl, .ref a_wd, .int e_wn, .ref a_rf, .int e_lr])), (a_rf, .inl (G.2 0, 5, .inl f_rf)), (a_h, .inr (1, [.long e_wa, .int e_le, .int e_st, .int e_fo, .int e_lc, .ref a_l, .ref a_g, .ref a_b, .ref a_s, .ref a_p, .ref a_w, .long e_gb, .ref a_bb])), (a_s, .inr (6, [.int 10, .int 4, .ref a_sn, .int (e_s - 1)])), (a_sn, .inl (G.2 0, 40, .inl z8))] H := hP
        have hD : va_D A [(a_o, .inr (11, [.ref a_h, .ref a_im, .ref a_ke, .ref a_k, .ref a_wa, .ref a_th, .ref a_ha, .ref a_wk, .ref a_r, .ref a_x, .int e_tl, .int e_fd, .int e_fpl, .ref a_wd, .int e_wn, .ref a_rf, .int e_lr])), (a_rf, .inl (G.2 0, 5, .inl f_rf)), (a_h, .inr (1, [.long e_wa, .int e_le, .int e_st, .int e_fo, .int e_lc, .ref a_l, .ref a_g, .ref a_b, .ref a_s, .ref a_p, .ref a_w, .long e_gb, .ref a_bb])), (a_s, .inr (6, [.int 10, .int 4, .ref a_sn, .int (e_s - 1)])), (a_sn, .inl (G.2 0, 40, .inl z8))] := hD
        refine lv_aload_n hx hb dX11_drop_32 rfl (lv_at hl 0 rfl) ?_
        refine lv_aload_n hx hb dX11_drop_33 rfl (lv_at hl 0 rfl) ?_
        refine va_get (D := G.1) (ci := 11) (v := .ref a_h) (C := RX11) (T := TX11) (N := 17) hx hb hts inG_X11 hown hK hP 0 rfl rfl 0 (by decide) (hts _ fl_X11_12) (fun _ h9 => h9) rfl dX11_drop_34 ?_
        refine va_get (D := G.1) (ci := 1) (v := .ref a_s) (C := RX1) (T := TX1) (N := 13) hx hb hts inG_X1 hown hK hP 2 rfl rfl 8 (by decide) (hts _ fl_X11_261) (fun _ h9 => h9) rfl dX11_drop_37 ?_
        refine va_get (D := G.1) (ci := 6) (v := .int (e_s - 1)) (C := RX6) (T := TX6) (N := 4) hx hb hts inG_X6 hown hK hP 3 rfl rfl 3 (by decide) (hts _ fl_X11_238) (fun _ h9 => h9) rfl dX11_drop_40 ?_
        have hPc := hP.sub (ws' := [(a_o, .inr (11, [.ref a_h, .ref a_im, .ref a_ke, .ref a_k, .ref a_wa, .ref a_th, .ref a_ha, .ref a_wk, .ref a_r, .ref a_x, .int e_tl, .int e_fd, .int e_fpl, .ref a_wd, .int e_wn, .ref a_rf, .int e_lr]))]) [0] rfl
        have hDc := hD.sub (ws' := [(a_o, .inr (11, [.ref a_h, .ref a_im, .ref a_ke, .ref a_k, .ref a_wa, .ref a_th, .ref a_ha, .ref a_wk, .ref a_r, .ref a_x, .int e_tl, .int e_fd, .int e_fpl, .ref a_wd, .int e_wn, .ref a_rf, .int e_lr]))]) [0] (by decide) rfl
        have hFc := va_free (wc := [(a_o, .inr (11, [.ref a_h, .ref a_im, .ref a_ke, .ref a_k, .ref a_wa, .ref a_th, .ref a_ha, .ref a_wk, .ref a_r, .ref a_x, .int e_tl, .int e_fd, .int e_fpl, .ref a_wd, .int e_wn, .ref a_rf, .int e_lr]))]) hD hS hA [0] rfl
        refine va_calli (va_runV (As := [.int (e_s - 1)]) (rest := []) ⟨hx, hb, hml, hown, hts⟩ (x_done l G a_o a_h a_im a_ke a_k a_wa a_th a_ha a_wk a_r a_x a_wd a_rf H.size e_tl e_fd e_fpl e_wn e_lr (e_s - 1) ⟨by omega, by omega⟩ ⟨by omega, by omega⟩) (cwV 1 hts gV_X11_121 rfl rfl rfl hv_X11_done ⟨Nat.le_of_ble_eq_true rfl, Nat.le_of_ble_eq_true rfl⟩) (g5_preV hPc hK hDc hN hT hS hFc (ci := 11) (q0 := 0) rfl rfl) rfl rfl hl.1 rfl (lv_room (Nat.le_of_ble_eq_true rfl)) dX11_drop_43 ⟨Nat.le_of_ble_eq_true rfl, Nat.le_of_ble_eq_true rfl⟩) hS (fun q _ h => hFc q h) hFc (fun r u t H1 locs ht hvm hw hB hz1 hk1 hS => ?_)
        obtain ⟨hP1, hD1⟩ := hB
        rw [ht] at hP1
        obtain ⟨rfl, rfl⟩ := hw
        obtain ⟨hP, hD⟩ := va_join (wr := [(a_rf, .inl (G.2 0, 5, .inl f_rf)), (a_h, .inr (1, [.long e_wa, .int e_le, .int e_st, .int e_fo, .int e_lc, .ref a_l, .ref a_g, .ref a_b, .ref a_s, .ref a_p, .ref a_w, .long e_gb, .ref a_bb])), (a_s, .inr (6, [.int 10, .int 4, .ref a_sn, .int (e_s - 1)])), (a_sn, .inl (G.2 0, 40, .inl z8))]) (w1 := [(a_o, .inr (11, [.ref a_h, .ref a_im, .ref a_ke, .ref a_k, .ref a_wa, .ref a_th, .ref a_ha, .ref a_wk, .ref a_r, .ref a_x, .int e_tl, .int e_fd, .int e_fpl, .ref a_wd, .int e_wn, .ref a_rf, .int 0]))]) hP hD [0] [1, 2, 3, 4] rfl rfl (by decide) (by decide) hk1 hFc hP1 hD1
        generalize H1 = H at hP hS ⊢
        have hP : va_P G.1 vwCl [(a_rf, .inl (G.2 0, 5, .inl f_rf)), (a_h, .inr (1, [.long e_wa, .int e_le, .int e_st, .int e_fo, .int e_lc, .ref a_l, .ref a_g, .ref a_b, .ref a_s, .ref a_p, .ref a_w, .long e_gb, .ref a_bb])), (a_s, .inr (6, [.int 10, .int 4, .ref a_sn, .int (e_s - 1)])), (a_sn, .inl (G.2 0, 40, .inl z8)), (a_o, .inr (11, [.ref a_h, .ref a_im, .ref a_ke, .ref a_k, .ref a_wa, .ref a_th, .ref a_ha, .ref a_wk, .ref a_r, .ref a_x, .int e_tl, .int e_fd, .int e_fpl, .ref a_wd, .int e_wn, .ref a_rf, .int 0]))] H := hP
        have hD : va_D A [(a_rf, .inl (G.2 0, 5, .inl f_rf)), (a_h, .inr (1, [.long e_wa, .int e_le, .int e_st, .int e_fo, .int e_lc, .ref a_l, .ref a_g, .ref a_b, .ref a_s, .ref a_p, .ref a_w, .long e_gb, .ref a_bb])), (a_s, .inr (6, [.int 10, .int 4, .ref a_sn, .int (e_s - 1)])), (a_sn, .inl (G.2 0, 40, .inl z8)), (a_o, .inr (11, [.ref a_h, .ref a_im, .ref a_ke, .ref a_k, .ref a_wa, .ref a_th, .ref a_ha, .ref a_wk, .ref a_r, .ref a_x, .int e_tl, .int e_fd, .int e_fpl, .ref a_wd, .int e_wn, .ref a_rf, .int 0]))] := hD
        exact W.iret (v := (e_s - 1)) hx hb hr (fun t ht hW => ⟨⟨(e_s - 1), [(a_o, .inr (11, [.ref a_h, .ref a_im, .ref a_ke, .ref a_k, .ref a_wa, .ref a_th, .ref a_ha, .ref a_wk, .ref a_r, .ref a_x, .int e_tl, .int e_fd, .int e_fpl, .ref a_wd, .int e_wn, .ref a_rf, .int 0])), (a_rf, .inl (G.2 0, 5, .inl f_rf)), (a_h, .inr (1, [.long e_wa, .int e_le, .int e_st, .int e_fo, .int e_lc, .ref a_l, .ref a_g, .ref a_b, .ref a_s, .ref a_p, .ref a_w, .long e_gb, .ref a_bb])), (a_s, .inr (6, [.int 10, .int 4, .ref a_sn, .int (e_s - 1)])), (a_sn, .inl (G.2 0, 40, .inl z8))], rfl, ⟨(e_s - 1), 0, f_rf, (e_s - 1), z8, ⟨by omega, by omega⟩, by rw [i_7]; exact sg_rem01 e_sh (by omega) (by omega), by rw [i_7]; exact sg_rem5 e_sh e_s5 (by omega) (by omega), rfl, rfl⟩, by rw [ht]; exact hP.sub [4, 0, 1, 2, 3] rfl, hD.sub [4, 0, 1, 2, 3] (by decide) rfl⟩, hS.F ht⟩) hS.2.2 dX11_drop_46
    ·
      exact absurd c_3 (by decide)
  ·
    have i_2 : p_i.toInt < 0 ∨ e_s.toInt ≤ p_i.toInt := i_2
    obtain ⟨hP, hD⟩ := va_join (wr := [(a_o, .inr (11, [.ref a_h, .ref a_im, .ref a_ke, .ref a_k, .ref a_wa, .ref a_th, .ref a_ha, .ref a_wk, .ref a_r, .ref a_x, .int e_tl, .int e_fd, .int e_fpl, .ref a_wd, .int e_wn, .ref a_rf, .int e_lr])), (a_rf, .inl (G.2 0, 5, .inl f_rf)), (a_h, .inr (1, [.long e_wa, .int e_le, .int e_st, .int e_fo, .int e_lc, .ref a_l, .ref a_g, .ref a_b, .ref a_s, .ref a_p, .ref a_w, .long e_gb, .ref a_bb])), (a_sn, .inl (G.2 0, 40, .inl f_s))]) (w1 := [(a_s, .inr (6, [.int 10, .int 4, .ref a_sn, .int e_s]))]) hP hD [3] [0, 1, 2, 4] rfl rfl (by decide) (by decide) hk1 hFc hP1 hD1
    generalize H1 = H at hP hS ⊢
    have hP : va_P G.1 vwCl [(a_o, .inr (11, [.ref a_h, .ref a_im, .ref a_ke, .ref a_k, .ref a_wa, .ref a_th, .ref a_ha, .ref a_wk, .ref a_r, .ref a_x, .int e_tl, .int e_fd, .int e_fpl, .ref a_wd, .int e_wn, .ref a_rf, .int e_lr])), (a_rf, .inl (G.2 0, 5, .inl f_rf)), (a_h, .inr (1, [.long e_wa, .int e_le, .int e_st, .int e_fo, .int e_lc, .ref a_l, .ref a_g, .ref a_b, .ref a_s, .ref a_p, .ref a_w, .long e_gb, .ref a_bb])), (a_sn, .inl (G.2 0, 40, .inl f_s)), (a_s, .inr (6, [.int 10, .int 4, .ref a_sn, .int e_s]))] H := hP
    have hD : va_D A [(a_o, .inr (11, [.ref a_h, .ref a_im, .ref a_ke, .ref a_k, .ref a_wa, .ref a_th, .ref a_ha, .ref a_wk, .ref a_r, .ref a_x, .int e_tl, .int e_fd, .int e_fpl, .ref a_wd, .int e_wn, .ref a_rf, .int e_lr])), (a_rf, .inl (G.2 0, 5, .inl f_rf)), (a_h, .inr (1, [.long e_wa, .int e_le, .int e_st, .int e_fo, .int e_lc, .ref a_l, .ref a_g, .ref a_b, .ref a_s, .ref a_p, .ref a_w, .long e_gb, .ref a_bb])), (a_sn, .inl (G.2 0, 40, .inl f_s)), (a_s, .inr (6, [.int 10, .int 4, .ref a_sn, .int e_s]))] := hD
    refine lv_if_ne (tgt := 21) hx hb dX11_drop_11 (by decide) (fun c_10 => ?_) (fun c_10 => ?_)
    ·
      exact absurd c_10 (by decide)
    ·
      refine lv_aload_n hx hb dX11_drop_14 rfl (lv_at hl 0 rfl) ?_
      refine lv_bipush (v := (-2)) hx hb dX11_drop_15 (by decide) ?_
      have hPc := hP.sub (ws' := [(a_o, .inr (11, [.ref a_h, .ref a_im, .ref a_ke, .ref a_k, .ref a_wa, .ref a_th, .ref a_ha, .ref a_wk, .ref a_r, .ref a_x, .int e_tl, .int e_fd, .int e_fpl, .ref a_wd, .int e_wn, .ref a_rf, .int e_lr])), (a_rf, .inl (G.2 0, 5, .inl f_rf))]) [0, 1] rfl
      have hDc := hD.sub (ws' := [(a_o, .inr (11, [.ref a_h, .ref a_im, .ref a_ke, .ref a_k, .ref a_wa, .ref a_th, .ref a_ha, .ref a_wk, .ref a_r, .ref a_x, .int e_tl, .int e_fd, .int e_fpl, .ref a_wd, .int e_wn, .ref a_rf, .int e_lr])), (a_rf, .inl (G.2 0, 5, .inl f_rf))]) [0, 1] (by decide) rfl
      have hFc := va_free (wc := [(a_o, .inr (11, [.ref a_h, .ref a_im, .ref a_ke, .ref a_k, .ref a_wa, .ref a_th, .ref a_ha, .ref a_wk, .ref a_r, .ref a_x, .int e_tl, .int e_fd, .int e_fpl, .ref a_wd, .int e_wn, .ref a_rf, .int e_lr])), (a_rf, .inl (G.2 0, 5, .inl f_rf))]) hD hS hA [0, 1] rfl
      refine va_calli (va_runV (As := [.int (-2)]) (rest := []) ⟨hx, hb, hml, hown, hts⟩ (x_refuse2 l G a_o a_rf a_h a_im a_ke a_k a_wa a_th a_ha a_wk a_r a_x a_wd H.size e_tl e_fd e_fpl e_wn e_lr f_rf ⟨by omega, by omega⟩ ⟨by omega, by omega⟩) (cwV 1 hts gV_X11_104 rfl rfl rfl hv_X11_refuse ⟨Nat.le_of_ble_eq_true rfl, Nat.le_of_ble_eq_true rfl⟩) (g5_preV hPc hK hDc hN hT hS hFc (ci := 11) (q0 := 0) rfl rfl) rfl rfl hl.1 rfl (lv_room (Nat.le_of_ble_eq_true rfl)) dX11_drop_17 ⟨Nat.le_of_ble_eq_true rfl, Nat.le_of_ble_eq_true rfl⟩) hS (fun q _ h => hFc q h) hFc (fun r u t H1 locs ht hvm hw hB hz1 hk1 hS => ?_)
      obtain ⟨hP1, hD1⟩ := hB
      rw [ht] at hP1
      obtain ⟨z11, rfl, rfl⟩ := hw
      obtain ⟨hP, hD⟩ := va_join (wr := [(a_h, .inr (1, [.long e_wa, .int e_le, .int e_st, .int e_fo, .int e_lc, .ref a_l, .ref a_g, .ref a_b, .ref a_s, .ref a_p, .ref a_w, .long e_gb, .ref a_bb])), (a_sn, .inl (G.2 0, 40, .inl f_s)), (a_s, .inr (6, [.int 10, .int 4, .ref a_sn, .int e_s]))]) (w1 := [(a_o, .inr (11, [.ref a_h, .ref a_im, .ref a_ke, .ref a_k, .ref a_wa, .ref a_th, .ref a_ha, .ref a_wk, .ref a_r, .ref a_x, .int e_tl, .int e_fd, .int e_fpl, .ref a_wd, .int e_wn, .ref a_rf, .int (-2)])), (a_rf, .inl (G.2 0, 5, .inl z11))]) hP hD [0, 1] [2, 3, 4] rfl rfl (by decide) (by decide) hk1 hFc hP1 hD1
      generalize H1 = H at hP hS ⊢
      have hP : va_P G.1 vwCl [(a_h, .inr (1, [.long e_wa, .int e_le, .int e_st, .int e_fo, .int e_lc, .ref a_l, .ref a_g, .ref a_b, .ref a_s, .ref a_p, .ref a_w, .long e_gb, .ref a_bb])), (a_sn, .inl (G.2 0, 40, .inl f_s)), (a_s, .inr (6, [.int 10, .int 4, .ref a_sn, .int e_s])), (a_o, .inr (11, [.ref a_h, .ref a_im, .ref a_ke, .ref a_k, .ref a_wa, .ref a_th, .ref a_ha, .ref a_wk, .ref a_r, .ref a_x, .int e_tl, .int e_fd, .int e_fpl, .ref a_wd, .int e_wn, .ref a_rf, .int (-2)])), (a_rf, .inl (G.2 0, 5, .inl z11))] H := hP
      have hD : va_D A [(a_h, .inr (1, [.long e_wa, .int e_le, .int e_st, .int e_fo, .int e_lc, .ref a_l, .ref a_g, .ref a_b, .ref a_s, .ref a_p, .ref a_w, .long e_gb, .ref a_bb])), (a_sn, .inl (G.2 0, 40, .inl f_s)), (a_s, .inr (6, [.int 10, .int 4, .ref a_sn, .int e_s])), (a_o, .inr (11, [.ref a_h, .ref a_im, .ref a_ke, .ref a_k, .ref a_wa, .ref a_th, .ref a_ha, .ref a_wk, .ref a_r, .ref a_x, .int e_tl, .int e_fd, .int e_fpl, .ref a_wd, .int e_wn, .ref a_rf, .int (-2)])), (a_rf, .inl (G.2 0, 5, .inl z11))] := hD
      exact W.iret (v := (-2)) hx hb hr (fun t ht hW => ⟨⟨(-2), [(a_o, .inr (11, [.ref a_h, .ref a_im, .ref a_ke, .ref a_k, .ref a_wa, .ref a_th, .ref a_ha, .ref a_wk, .ref a_r, .ref a_x, .int e_tl, .int e_fd, .int e_fpl, .ref a_wd, .int e_wn, .ref a_rf, .int (-2)])), (a_rf, .inl (G.2 0, 5, .inl z11)), (a_h, .inr (1, [.long e_wa, .int e_le, .int e_st, .int e_fo, .int e_lc, .ref a_l, .ref a_g, .ref a_b, .ref a_s, .ref a_p, .ref a_w, .long e_gb, .ref a_bb])), (a_s, .inr (6, [.int 10, .int 4, .ref a_sn, .int e_s])), (a_sn, .inl (G.2 0, 40, .inl f_s))], rfl, ⟨(-2), (-2), z11, e_s, f_s, ⟨by omega, by omega⟩, e_sh, e_s5, rfl, rfl⟩, by rw [ht]; exact hP.sub [3, 4, 0, 2, 1] rfl, hD.sub [3, 4, 0, 2, 1] (by decide) rfl⟩, hS.F ht⟩) hS.2.2 dX11_drop_20
theorem dX11_spot_0 : decode cX11_spot 0 = .ok (.iload_n 1, 1) := by decide +kernel
theorem dX11_spot_1 : decode cX11_spot 1 = .ok (.invokestatic 97, 3) := by decide +kernel
theorem dX11_spot_4 : decode cX11_spot 4 = .ok (.ifCond .eq 17, 3) := by decide +kernel
theorem dX11_spot_7 : decode cX11_spot 7 = .ok (.iload_n 2, 1) := by decide +kernel
theorem dX11_spot_8 : decode cX11_spot 8 = .ok (.invokestatic 124, 3) := by decide +kernel
theorem dX11_spot_11 : decode cX11_spot 11 = .ok (.ifCond .eq 10, 3) := by decide +kernel
theorem dX11_spot_14 : decode cX11_spot 14 = .ok (.iload_n 3, 1) := by decide +kernel
theorem dX11_spot_15 : decode cX11_spot 15 = .ok (.invokestatic 127, 3) := by decide +kernel
theorem dX11_spot_18 : decode cX11_spot 18 = .ok (.ifCond .ne 9, 3) := by decide +kernel
theorem dX11_spot_21 : decode cX11_spot 21 = .ok (.aload_n 0, 1) := by decide +kernel
theorem dX11_spot_22 : decode cX11_spot 22 = .ok (.iconst (-1), 1) := by decide +kernel
theorem dX11_spot_23 : decode cX11_spot 23 = .ok (.invokevirtual 104, 3) := by decide +kernel
theorem dX11_spot_26 : decode cX11_spot 26 = .ok (.ireturn, 1) := by decide +kernel
theorem dX11_spot_27 : decode cX11_spot 27 = .ok (.aload_n 0, 1) := by decide +kernel
theorem dX11_spot_28 : decode cX11_spot 28 = .ok (.getfield 12, 3) := by decide +kernel
theorem dX11_spot_31 : decode cX11_spot 31 = .ok (.iload_n 1, 1) := by decide +kernel
theorem dX11_spot_32 : decode cX11_spot 32 = .ok (.invokevirtual 133, 3) := by decide +kernel
theorem dX11_spot_35 : decode cX11_spot 35 = .ok (.ifCond .ne 10, 3) := by decide +kernel
theorem dX11_spot_38 : decode cX11_spot 38 = .ok (.aload_n 0, 1) := by decide +kernel
theorem dX11_spot_39 : decode cX11_spot 39 = .ok (.bipush (-3), 2) := by decide +kernel
theorem dX11_spot_41 : decode cX11_spot 41 = .ok (.invokevirtual 104, 3) := by decide +kernel
theorem dX11_spot_44 : decode cX11_spot 44 = .ok (.ireturn, 1) := by decide +kernel
theorem dX11_spot_45 : decode cX11_spot 45 = .ok (.aload_n 0, 1) := by decide +kernel
theorem dX11_spot_46 : decode cX11_spot 46 = .ok (.getfield 12, 3) := by decide +kernel
theorem dX11_spot_49 : decode cX11_spot 49 = .ok (.getfield 306, 3) := by decide +kernel
theorem dX11_spot_52 : decode cX11_spot 52 = .ok (.invokevirtual 140, 3) := by decide +kernel
theorem dX11_spot_55 : decode cX11_spot 55 = .ok (.ifCond .eq 10, 3) := by decide +kernel
theorem dX11_spot_58 : decode cX11_spot 58 = .ok (.aload_n 0, 1) := by decide +kernel
theorem dX11_spot_59 : decode cX11_spot 59 = .ok (.bipush (-5), 2) := by decide +kernel
theorem dX11_spot_61 : decode cX11_spot 61 = .ok (.invokevirtual 104, 3) := by decide +kernel
theorem dX11_spot_64 : decode cX11_spot 64 = .ok (.ireturn, 1) := by decide +kernel
theorem dX11_spot_65 : decode cX11_spot 65 = .ok (.aload_n 0, 1) := by decide +kernel
theorem dX11_spot_66 : decode cX11_spot 66 = .ok (.getfield 12, 3) := by decide +kernel
theorem dX11_spot_69 : decode cX11_spot 69 = .ok (.getfield 306, 3) := by decide +kernel
theorem dX11_spot_72 : decode cX11_spot 72 = .ok (.iconst 0, 1) := by decide +kernel
theorem dX11_spot_73 : decode cX11_spot 73 = .ok (.invokevirtual 146, 3) := by decide +kernel
theorem dX11_spot_76 : decode cX11_spot 76 = .ok (.istore 4, 2) := by decide +kernel
theorem dX11_spot_78 : decode cX11_spot 78 = .ok (.aload_n 0, 1) := by decide +kernel
theorem dX11_spot_79 : decode cX11_spot 79 = .ok (.getfield 12, 3) := by decide +kernel
theorem dX11_spot_82 : decode cX11_spot 82 = .ok (.getfield 306, 3) := by decide +kernel
theorem dX11_spot_85 : decode cX11_spot 85 = .ok (.iload 4, 2) := by decide +kernel
theorem dX11_spot_87 : decode cX11_spot 87 = .ok (.iconst 0, 1) := by decide +kernel
theorem dX11_spot_88 : decode cX11_spot 88 = .ok (.iload_n 1, 1) := by decide +kernel
theorem dX11_spot_89 : decode cX11_spot 89 = .ok (.invokevirtual 149, 3) := by decide +kernel
theorem dX11_spot_92 : decode cX11_spot 92 = .ok (.aload_n 0, 1) := by decide +kernel
theorem dX11_spot_93 : decode cX11_spot 93 = .ok (.getfield 12, 3) := by decide +kernel
theorem dX11_spot_96 : decode cX11_spot 96 = .ok (.getfield 306, 3) := by decide +kernel
theorem dX11_spot_99 : decode cX11_spot 99 = .ok (.iload 4, 2) := by decide +kernel
theorem dX11_spot_101 : decode cX11_spot 101 = .ok (.iconst 1, 1) := by decide +kernel
theorem dX11_spot_102 : decode cX11_spot 102 = .ok (.iload_n 2, 1) := by decide +kernel
theorem dX11_spot_103 : decode cX11_spot 103 = .ok (.invokevirtual 149, 3) := by decide +kernel
theorem dX11_spot_106 : decode cX11_spot 106 = .ok (.aload_n 0, 1) := by decide +kernel
theorem dX11_spot_107 : decode cX11_spot 107 = .ok (.getfield 12, 3) := by decide +kernel
theorem dX11_spot_110 : decode cX11_spot 110 = .ok (.getfield 306, 3) := by decide +kernel
theorem dX11_spot_113 : decode cX11_spot 113 = .ok (.iload 4, 2) := by decide +kernel
theorem dX11_spot_115 : decode cX11_spot 115 = .ok (.iconst 2, 1) := by decide +kernel
theorem dX11_spot_116 : decode cX11_spot 116 = .ok (.iload_n 3, 1) := by decide +kernel
theorem dX11_spot_117 : decode cX11_spot 117 = .ok (.invokevirtual 149, 3) := by decide +kernel
theorem dX11_spot_120 : decode cX11_spot 120 = .ok (.aload_n 0, 1) := by decide +kernel
theorem dX11_spot_121 : decode cX11_spot 121 = .ok (.iload 4, 2) := by decide +kernel
theorem dX11_spot_123 : decode cX11_spot 123 = .ok (.invokevirtual 121, 3) := by decide +kernel
theorem dX11_spot_126 : decode cX11_spot 126 = .ok (.ireturn, 1) := by decide +kernel
theorem fl_X11_306 : Cond.fieldLink RX11 306 "LateGlass$House" "spots" "LLateGlass$Table;" ∈ tblG := tg 184 (by decide +kernel) (by decide +kernel)
