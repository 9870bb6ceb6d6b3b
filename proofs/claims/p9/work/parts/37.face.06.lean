set_option maxHeartbeats 4000000 in
set_option maxRecDepth 100000 in
theorem x_litL (l : Launch) (G : g5_G) (a_o a_k a_h a_g a_gn a_b a_bn a_p a_pn a_bb a_j a_as a_sk a_l a_lo a_sr a_cd a_hd a_pt a_im a_ke a_wa a_th a_ha a_wk a_r a_x a_wd a_rf a_s a_w : Nat) (sz : Nat) (e_tl : Int32) (e_fd : Int32) (e_fpl : Int32) (e_wn : Int32) (e_lr : Int32) (e_le : Int32) (e_st : Int32) (e_fo : Int32) (e_lc : Int32) (e_g : Int32) (e_b : Int32) (e_p : Int32) (e_cl : Int32) (e_ln : Int32) (e_se : Int32) (e_lh : Int32) (e_br : Int32) (e_we : Int32) (e_me : Int32) (e_ce : Int32) (e_wy : Int32) (e_ho : Int32) (e_ov : Int32) (p_c : Int32) (p_h : Int32) (p_t : Int32) (e_wa : Int64) (e_gb : Int64) (f_g : Nat → Int32) (f_b : Nat → Int32) (f_p : Nat → Int32) (f_bb : Nat → Int64) (f_as : Nat → Int32) (f_sk : Nat → Int64) (f_l : Nat → Option Nat) (f_sr : Nat → Int32) (f_cd : Nat → Int32) (f_hd : Nat → Int32) (f_pt : Nat → Int32) (n_sr : Nat) (n_cd : Nat) (n_hd : Nat) (h_e_tl : 0 ≤ e_tl.toInt ∧ e_tl.toInt ≤ 400) (h_e_wn : 0 ≤ e_wn.toInt ∧ e_wn.toInt ≤ 1) (h_e_g : 0 ≤ e_g.toInt ∧ e_g.toInt ≤ 6) (h_e_b : 0 ≤ e_b.toInt ∧ e_b.toInt ≤ 5) (h_e_p : 0 ≤ e_p.toInt ∧ e_p.toInt ≤ 8) (h_e_cl : 0 ≤ e_cl.toInt ∧ e_cl.toInt ≤ 12) (h_e_ov : 0 ≤ e_ov.toInt ∧ e_ov.toInt ≤ 1) (e_gk : gOK f_g e_g.toInt) (e_pk : gOK f_p e_p.toInt) (e_gi : inT e_gb f_g e_g.toInt) (e_f : 0 ≤ e_fo.toInt ∧ e_fo.toInt < e_lc.toInt ∧ e_lc.toInt ≤ 6) (e_a : f_l e_fo.toNatClampNeg = some a_lo) (e_hn : n_cd ≤ 400) (e_hs : ∀ j : Nat, j < n_sr → 0 ≤ (f_sr j).toInt ∧ (f_sr j).toInt ≤ (n_cd : Int)) (e_hk : ∀ j : Nat, j < n_cd → (f_cd j >>> (12 &&& 31)).toInt = 1 → (f_cd j &&& 4095).toInt < 8) (e_c : (e_cl.toInt : Int) ≤ (n_hd : Int) ∧ (e_cl.toInt + 1 : Int) ≤ (n_sr : Int)) : Met l yX11_lit (wsG yX11_lit cX11_lit 6 (some .int)) ({ frames := 15, cells := 0, slots := 0, locals := 582 }) (va_Pc [.ref a_o, .int p_c, .int p_h, .int p_t] (g5_P G [(a_o, (oc11 a_h a_im a_ke a_k a_wa a_th a_ha a_wk a_r a_x e_tl e_fd e_fpl a_wd e_wn a_rf e_lr)), (a_k, (oc5 a_h a_j a_pt e_ln e_se e_lh e_br e_we e_me e_ce e_wy e_ho e_ov)), (a_h, (oc1 e_wa e_le e_st e_fo e_lc a_l a_g a_b a_s a_p a_w e_gb a_bb)), (a_g, (oc6 6 5 a_gn e_g)), (a_gn, (arI G 30 f_g)), (a_b, (oc6 5 24 a_bn e_b)), (a_bn, (arI G 120 f_b)), (a_p, (oc6 8 5 a_pn e_p)), (a_pn, (arI G 40 f_p)), (a_bb, (arJ G 24 f_bb)), (a_j, (oc2 a_as a_sk)), (a_as, (arI G 8 f_as)), (a_sk, (arJ G 50 f_sk)), (a_l, (arW G 6 f_l)), (a_lo, (oc3 e_cl a_hd a_sr a_cd)), (a_sr, (arI G n_sr f_sr)), (a_cd, (arI G n_cd f_cd)), (a_hd, (arI G n_hd f_hd)), (a_pt, (arI G 200 f_pt))] sz)) (va_Qi (fun (r : Int32) (u : va_W) => (∃ (o_r : Int32) (o_ln : Int32) (o_se : Int32) (o_lh : Int32) (o_br : Int32) (o_we : Int32) (o_me : Int32) (o_ce : Int32) (o_wy : Int32) (o_ho : Int32) (o_ov : Int32) (o_pt : Nat → Int32) (o_as : Nat → Int32) (o_sk : Nat → Int64), (0 ≤ o_ov.toInt ∧ o_ov.toInt ≤ 1) ∧ (r = o_r) ∧ (u = [(a_o, (oc11 a_h a_im a_ke a_k a_wa a_th a_ha a_wk a_r a_x e_tl e_fd e_fpl a_wd e_wn a_rf e_lr)), (a_k, (oc5 a_h a_j a_pt o_ln o_se o_lh o_br o_we o_me o_ce o_wy o_ho o_ov)), (a_h, (oc1 e_wa e_le e_st e_fo e_lc a_l a_g a_b a_s a_p a_w e_gb a_bb)), (a_g, (oc6 6 5 a_gn e_g)), (a_gn, (arI G 30 f_g)), (a_b, (oc6 5 24 a_bn e_b)), (a_bn, (arI G 120 f_b)), (a_p, (oc6 8 5 a_pn e_p)), (a_pn, (arI G 40 f_p)), (a_bb, (arJ G 24 f_bb)), (a_j, (oc2 a_as a_sk)), (a_as, (arI G 8 o_as)), (a_sk, (arJ G 50 o_sk)), (a_l, (arW G 6 f_l)), (a_lo, (oc3 e_cl a_hd a_sr a_cd)), (a_sr, (arI G n_sr f_sr)), (a_cd, (arI G n_cd f_cd)), (a_hd, (arI G n_hd f_hd)), (a_pt, (arI G 200 o_pt))]))) (g5_B G (va_A [(a_o, (oc11 a_h a_im a_ke a_k a_wa a_th a_ha a_wk a_r a_x e_tl e_fd e_fpl a_wd e_wn a_rf e_lr)), (a_k, (oc5 a_h a_j a_pt e_ln e_se e_lh e_br e_we e_me e_ce e_wy e_ho e_ov)), (a_h, (oc1 e_wa e_le e_st e_fo e_lc a_l a_g a_b a_s a_p a_w e_gb a_bb)), (a_g, (oc6 6 5 a_gn e_g)), (a_gn, (arI G 30 f_g)), (a_b, (oc6 5 24 a_bn e_b)), (a_bn, (arI G 120 f_b)), (a_p, (oc6 8 5 a_pn e_p)), (a_pn, (arI G 40 f_p)), (a_bb, (arJ G 24 f_bb)), (a_j, (oc2 a_as a_sk)), (a_as, (arI G 8 f_as)), (a_sk, (arJ G 50 f_sk)), (a_l, (arW G 6 f_l)), (a_lo, (oc3 e_cl a_hd a_sr a_cd)), (a_sr, (arI G n_sr f_sr)), (a_cd, (arI G n_cd f_cd)), (a_hd, (arI G n_hd f_hd)), (a_pt, (arI G 200 f_pt))] sz)) (va_A [(a_o, (oc11 a_h a_im a_ke a_k a_wa a_th a_ha a_wk a_r a_x e_tl e_fd e_fpl a_wd e_wn a_rf e_lr)), (a_k, (oc5 a_h a_j a_pt e_ln e_se e_lh e_br e_we e_me e_ce e_wy e_ho e_ov)), (a_h, (oc1 e_wa e_le e_st e_fo e_lc a_l a_g a_b a_s a_p a_w e_gb a_bb)), (a_g, (oc6 6 5 a_gn e_g)), (a_gn, (arI G 30 f_g)), (a_b, (oc6 5 24 a_bn e_b)), (a_bn, (arI G 120 f_b)), (a_p, (oc6 8 5 a_pn e_p)), (a_pn, (arI G 40 f_p)), (a_bb, (arJ G 24 f_bb)), (a_j, (oc2 a_as a_sk)), (a_as, (arI G 8 f_as)), (a_sk, (arJ G 50 f_sk)), (a_l, (arW G 6 f_l)), (a_lo, (oc3 e_cl a_hd a_sr a_cd)), (a_sr, (arI G n_sr f_sr)), (a_cd, (arI G n_cd f_cd)), (a_hd, (arI G n_hd f_hd)), (a_pt, (arI G 200 f_pt))] sz)) 0 0 (va_A [(a_o, (oc11 a_h a_im a_ke a_k a_wa a_th a_ha a_wk a_r a_x e_tl e_fd e_fpl a_wd e_wn a_rf e_lr)), (a_k, (oc5 a_h a_j a_pt e_ln e_se e_lh e_br e_we e_me e_ce e_wy e_ho e_ov)), (a_h, (oc1 e_wa e_le e_st e_fo e_lc a_l a_g a_b a_s a_p a_w e_gb a_bb)), (a_g, (oc6 6 5 a_gn e_g)), (a_gn, (arI G 30 f_g)), (a_b, (oc6 5 24 a_bn e_b)), (a_bn, (arI G 120 f_b)), (a_p, (oc6 8 5 a_pn e_p)), (a_pn, (arI G 40 f_p)), (a_bb, (arJ G 24 f_bb)), (a_j, (oc2 a_as a_sk)), (a_as, (arI G 8 f_as)), (a_sk, (arJ G 50 f_sk)), (a_l, (arW G 6 f_l)), (a_lo, (oc3 e_cl a_hd a_sr a_cd)), (a_sr, (arI G n_sr f_sr)), (a_cd, (arI G n_cd f_cd)), (a_hd, (arI G n_hd f_hd)), (a_pt, (arI G 200 f_pt))] sz) := by
  refine Met.ofW (cc := cX11_lit) (maxL := 6) (ret := (some .int)) (by decide) rfl ?_
  intro p e s m args below meth c s₁ B hml hv
  obtain ⟨rfl, hsz, hP, hK, hD0, hN, hT⟩ := hv
  have hx := B.exec
  have hb := B.bytes
  have hr := B.returns
  have hts : ∀ w ∈ tblG, w.before _ s = true := fun w h => atoms_spec (ws := (wsG yX11_lit cX11_lit 6 (some .int))) B.pre w (List.mem_cons_of_mem _ h)
  have hown : s.vm.findClass RX11 = some m.cls := findClass_of_methodNamed B.named
  have hlocks := B.notSynchronized
  subst hsz
  have hD := hD0.self (sz := s.heap.size)
  generalize hAe : va_A [(a_o, (oc11 a_h a_im a_ke a_k a_wa a_th a_ha a_wk a_r a_x e_tl e_fd e_fpl a_wd e_wn a_rf e_lr)), (a_k, (oc5 a_h a_j a_pt e_ln e_se e_lh e_br e_we e_me e_ce e_wy e_ho e_ov)), (a_h, (oc1 e_wa e_le e_st e_fo e_lc a_l a_g a_b a_s a_p a_w e_gb a_bb)), (a_g, (oc6 6 5 a_gn e_g)), (a_gn, (arI G 30 f_g)), (a_b, (oc6 5 24 a_bn e_b)), (a_bn, (arI G 120 f_b)), (a_p, (oc6 8 5 a_pn e_p)), (a_pn, (arI G 40 f_p)), (a_bb, (arJ G 24 f_bb)), (a_j, (oc2 a_as a_sk)), (a_as, (arI G 8 f_as)), (a_sk, (arJ G 50 f_sk)), (a_l, (arW G 6 f_l)), (a_lo, (oc3 e_cl a_hd a_sr a_cd)), (a_sr, (arI G n_sr f_sr)), (a_cd, (arI G n_cd f_cd)), (a_hd, (arI G n_hd f_hd)), (a_pt, (arI G 200 f_pt))] s.heap.size = A at hD hT ⊢
  have hA : ∀ q : Nat, s.heap.size ≤ q → A q := fun q h => by rw [← hAe]; exact Or.inr h
  have hS : va_S A s.heap s.heap [] := va_S.rf
  have hP : va_P G.1 vwCl [(a_o, (oc11 a_h a_im a_ke a_k a_wa a_th a_ha a_wk a_r a_x e_tl e_fd e_fpl a_wd e_wn a_rf e_lr)), (a_k, (oc5 a_h a_j a_pt e_ln e_se e_lh e_br e_we e_me e_ce e_wy e_ho e_ov)), (a_h, (oc1 e_wa e_le e_st e_fo e_lc a_l a_g a_b a_s a_p a_w e_gb a_bb)), (a_g, (oc6 6 5 a_gn e_g)), (a_gn, (arI G 30 f_g)), (a_b, (oc6 5 24 a_bn e_b)), (a_bn, (arI G 120 f_b)), (a_p, (oc6 8 5 a_pn e_p)), (a_pn, (arI G 40 f_p)), (a_bb, (arJ G 24 f_bb)), (a_j, (oc2 a_as a_sk)), (a_as, (arI G 8 f_as)), (a_sk, (arJ G 50 f_sk)), (a_l, (arW G 6 f_l)), (a_lo, (oc3 e_cl a_hd a_sr a_cd)), (a_sr, (arI G n_sr f_sr)), (a_cd, (arI G n_cd f_cd)), (a_hd, (arI G n_hd f_hd)), (a_pt, (arI G 200 f_pt))] s.heap := hP
  have hl := lv_entry ([.ref a_o, .int p_c, .int p_h, .int p_t]) (n := 6) (Nat.le_of_ble_eq_true rfl)
  rw [lg_entry_eq]
  generalize (lg_sl ([.ref a_o, .int p_c, .int p_h, .int p_t]) ++ List.replicate (6 - (lg_sl ([.ref a_o, .int p_c, .int p_h, .int p_t])).length) Slot.unset).toArray = ls at hl ⊢
  have hl : lv_has ls 6 [(0, .ref a_o), (1, .int p_c), (2, .int p_h), (3, .int p_t)] := hl
  refine lv_iload_n hx hb dX11_lit_0 rfl (lv_at hl 1 rfl) ?_
  obtain ⟨hPc, hDc, hFc⟩ := g5_sub3 (wc := []) hP hD hS hA [] (by decide) rfl
  refine va_calli (va_runS (As := [.int p_c]) (rest := []) ⟨hx, hb, hml, hown, hts⟩ (x_isCell l G s.heap.size p_c) (va_cwS 1 hts gS_X11_97 rfl rfl rfl hs_X11_isCell ⟨Nat.le_of_ble_eq_true rfl, Nat.le_of_ble_eq_true rfl⟩) (g5_preS hPc hK hDc hN hT hS hFc) rfl rfl hl.1 rfl (lv_room (Nat.le_of_ble_eq_true rfl)) dX11_lit_1 ⟨Nat.le_of_ble_eq_true rfl, Nat.le_of_ble_eq_true rfl⟩) hS (fun q _ h => hFc q h) hFc (fun r u t H1 locs ht hvm hw hB hz1 hk1 hS => ?_)
  obtain ⟨hP1, hD1⟩ := hB
  rw [ht] at hP1
  rcases hw with ⟨i_1, rfl, rfl⟩ | ⟨rfl, rfl⟩
  ·
    have i_1 : 0 ≤ p_c.toInt ∧ p_c.toInt ≤ 63 := i_1
    have hP := g5_same hP hk1
    generalize H1 = H at hP hS ⊢
    refine lv_if_eq (tgt := 21) hx hb dX11_lit_4 (by decide) (fun c_2 => ?_) (fun c_2 => ?_)
    ·
      exact absurd c_2 (by decide)
    ·
      refine lv_iload_n hx hb dX11_lit_7 rfl (lv_at hl 2 rfl) ?_
      obtain ⟨hPc, hDc, hFc⟩ := g5_sub3 (wc := []) hP hD hS hA [] (by decide) rfl
      refine va_calli (va_runS (As := [.int p_h]) (rest := []) ⟨hx, hb, hml, hown, hts⟩ (x_isHour l G H.size p_h) (va_cwS 1 hts gS_X11_127 rfl rfl rfl hs_X11_isHour ⟨Nat.le_of_ble_eq_true rfl, Nat.le_of_ble_eq_true rfl⟩) (g5_preS hPc hK hDc hN hT hS hFc) rfl rfl hl.1 rfl (lv_room (Nat.le_of_ble_eq_true rfl)) dX11_lit_8 ⟨Nat.le_of_ble_eq_true rfl, Nat.le_of_ble_eq_true rfl⟩) hS (fun q _ h => hFc q h) hFc (fun r u t H1 locs ht hvm hw hB hz1 hk1 hS => ?_)
      obtain ⟨hP1, hD1⟩ := hB
      rw [ht] at hP1
      rcases hw with ⟨i_3, rfl, rfl⟩ | ⟨rfl, rfl⟩
      ·
        have i_3 : 0 ≤ p_h.toInt ∧ p_h.toInt ≤ 23 := i_3
        have hP := g5_same hP hk1
        generalize H1 = H at hP hS ⊢
        refine lv_if_eq (tgt := 21) hx hb dX11_lit_11 (by decide) (fun c_4 => ?_) (fun c_4 => ?_)
        ·
          exact absurd c_4 (by decide)
        ·
          refine lv_iload_n hx hb dX11_lit_14 rfl (lv_at hl 3 rfl) ?_
          obtain ⟨hPc, hDc, hFc⟩ := g5_sub3 (wc := []) hP hD hS hA [] (by decide) rfl
          refine va_calli (va_runS (As := [.int p_t]) (rest := []) ⟨hx, hb, hml, hown, hts⟩ (x_isCellOrNone l G H.size p_t) (va_cwS 1 hts gS_X11_241 rfl rfl rfl hs_X11_isCellOrNone ⟨Nat.le_of_ble_eq_true rfl, Nat.le_of_ble_eq_true rfl⟩) (g5_preS hPc hK hDc hN hT hS hFc) rfl rfl hl.1 rfl (lv_room (Nat.le_of_ble_eq_true rfl)) dX11_lit_15 ⟨Nat.le_of_ble_eq_true rfl, Nat.le_of_ble_eq_true rfl⟩) hS (fun q _ h => hFc q h) hFc (fun r u t H1 locs ht hvm hw hB hz1 hk1 hS => ?_)
          obtain ⟨hP1, hD1⟩ := hB
          rw [ht] at hP1
          rcases hw with ⟨i_5, rfl, rfl⟩ | ⟨rfl, rfl⟩
          ·
            have i_5 : (-1) ≤ p_t.toInt ∧ p_t.toInt ≤ 63 := i_5
            have hP := g5_same hP hk1
            generalize H1 = H at hP hS ⊢
            refine lv_if_ne (tgt := 23) hx hb dX11_lit_18 (by decide) (fun c_6 => ?_) (fun c_6 => ?_)
            ·
              refine lv_aload_n hx hb dX11_lit_23 rfl (lv_at hl 0 rfl) ?_
              refine va_get (D := G.1) (ci := 11) (v := .ref a_k) (C := RX11) (T := TX11) (N := 17) hx hb hts inG_X11 hown hK hP 0 rfl rfl 3 (by decide) (hts _ fl_X11_29) (fun _ h9 => h9) rfl dX11_lit_24 ?_
              refine lv_iload_n hx hb dX11_lit_27 rfl (lv_at hl 1 rfl) ?_
              refine lv_iload_n hx hb dX11_lit_28 rfl (lv_at hl 2 rfl) ?_
              obtain ⟨hPc, hDc, hFc⟩ := g5_sub3 (wc := [(a_k, (oc5 a_h a_j a_pt e_ln e_se e_lh e_br e_we e_me e_ce e_wy e_ho e_ov)), (a_h, (oc1 e_wa e_le e_st e_fo e_lc a_l a_g a_b a_s a_p a_w e_gb a_bb)), (a_g, (oc6 6 5 a_gn e_g)), (a_gn, (arI G 30 f_g)), (a_b, (oc6 5 24 a_bn e_b)), (a_bn, (arI G 120 f_b)), (a_p, (oc6 8 5 a_pn e_p)), (a_pn, (arI G 40 f_p)), (a_bb, (arJ G 24 f_bb)), (a_j, (oc2 a_as a_sk)), (a_as, (arI G 8 f_as)), (a_sk, (arJ G 50 f_sk)), (a_l, (arW G 6 f_l)), (a_lo, (oc3 e_cl a_hd a_sr a_cd)), (a_sr, (arI G n_sr f_sr)), (a_cd, (arI G n_cd f_cd)), (a_hd, (arI G n_hd f_hd)), (a_pt, (arI G 200 f_pt))]) hP hD hS hA [1, 2, 3, 4, 5, 6, 7, 8, 9, 10, 11, 12, 13, 14, 15, 16, 17, 18] (by decide) rfl
              refine va_calll (va_runV (As := [.int p_c, .int p_h]) (rest := []) ⟨hx, hb, hml, hown, hts⟩ (s_cellsFromL l G a_k a_h a_g a_gn a_b a_bn a_p a_pn a_bb a_j a_as a_sk a_l a_lo a_sr a_cd a_hd a_pt a_s a_w H.size e_le e_st e_fo e_lc e_g e_b e_p e_cl e_ln e_se e_lh e_br e_we e_me e_ce e_wy e_ho e_ov p_c p_h e_wa e_gb f_g f_b f_p f_bb f_as f_sk f_l f_sr f_cd f_hd f_pt n_sr n_cd n_hd h_e_g h_e_b h_e_p h_e_cl h_e_ov (e_gk) (e_pk) (e_gi) (e_f) (e_a) (e_hn) (e_hs) (e_hk) (e_c)) (cwV 2 hts gV_X11_244 rfl rfl rfl hv_X5_cellsFrom ⟨Nat.le_of_ble_eq_true rfl, Nat.le_of_ble_eq_true rfl⟩) (g5_preV hPc hK hDc hN hT hS hFc (ci := 5) (q0 := 0) rfl rfl) rfl rfl hl.1 rfl (lv_room (Nat.le_of_ble_eq_true rfl)) dX11_lit_29 ⟨Nat.le_of_ble_eq_true rfl, Nat.le_of_ble_eq_true rfl⟩) hS (fun q _ h => hFc q h) hFc (fun r u t H1 locs ht hvm hw hB hz1 hk1 hS => ?_)
              obtain ⟨hP1, hD1⟩ := hB
              rw [ht] at hP1
              obtain ⟨z8, z9, z10, z11, z12, z13, z14, z15, z16, z17, z18, z19, z20, z21, i_7, y22, rfl⟩ := hw
              have i_7 : 0 ≤ z18.toInt ∧ z18.toInt ≤ 1 := i_7
              obtain ⟨hP, hD⟩ := va_join (wr := [(a_o, (oc11 a_h a_im a_ke a_k a_wa a_th a_ha a_wk a_r a_x e_tl e_fd e_fpl a_wd e_wn a_rf e_lr))]) hP hD [1, 2, 3, 4, 5, 6, 7, 8, 9, 10, 11, 12, 13, 14, 15, 16, 17, 18] [0] rfl rfl (by decide) (by decide) hk1 hFc hP1 hD1
              generalize H1 = H at hP hS ⊢
              refine g5_rs [(a_o, (oc11 a_h a_im a_ke a_k a_wa a_th a_ha a_wk a_r a_x e_tl e_fd e_fpl a_wd e_wn a_rf e_lr)), (a_k, (oc5 a_h a_j a_pt z9 z10 z11 z12 z13 z14 z15 z16 z17 z18)), (a_h, (oc1 e_wa e_le e_st e_fo e_lc a_l a_g a_b a_s a_p a_w e_gb a_bb)), (a_g, (oc6 6 5 a_gn e_g)), (a_gn, (arI G 30 f_g)), (a_b, (oc6 5 24 a_bn e_b)), (a_bn, (arI G 120 f_b)), (a_p, (oc6 8 5 a_pn e_p)), (a_pn, (arI G 40 f_p)), (a_bb, (arJ G 24 f_bb)), (a_j, (oc2 a_as a_sk)), (a_as, (arI G 8 z20)), (a_sk, (arJ G 50 z21)), (a_l, (arW G 6 f_l)), (a_lo, (oc3 e_cl a_hd a_sr a_cd)), (a_sr, (arI G n_sr f_sr)), (a_cd, (arI G n_cd f_cd)), (a_hd, (arI G n_hd f_hd)), (a_pt, (arI G 200 z19))] hP hD (fun hP hD => ?_)
              refine g5_tl (v := z8) y22 ?_
              refine lv_lstore (lv' := [(4, .long z8), (0, .ref a_o), (1, .int p_c), (2, .int p_h), (3, .int p_t)]) hx hb dX11_lit_32 hl (by decide) rfl (fun ls hl => ?_)
              refine lv_iload_n hx hb dX11_lit_34 rfl (lv_at hl 4 rfl) ?_
              refine lv_iconst (v := (-1)) hx hb dX11_lit_35 (by decide) ?_
              refine lv_icmp_ne (tgt := 45) hx hb dX11_lit_36 (by decide) (fun c_23 => ?_) (fun c_23 => ?_)
              ·
                have n_23 : gNe (p_t.toInt) ((-1)) := by have z := g5_ne (a := p_t.toInt) (b := (-1)) (by rfl) (by decide) c_23; unfold gNe; omega
                have i_23 : p_t.toInt ≥ 0 := by have z := g5_ne (a := p_t.toInt) (b := (-1)) (by rfl) (by decide) c_23; omega
                refine lv_lload hx hb dX11_lit_45 (lv_at hl 0 rfl) ?_
                refine lv_iload_n hx hb dX11_lit_47 rfl (lv_at hl 4 rfl) ?_
                obtain ⟨hPc, hDc, hFc⟩ := g5_sub3 (wc := []) hP hD hS hA [] (by decide) rfl
                refine va_calli (va_runS (As := [.long z8, .int p_t]) (rest := []) ⟨hx, hb, hml, hown, hts⟩ (k_isOn l G H.size p_t z8 ⟨by omega, by omega⟩) (va_cwS 2 hts gS_X11_115 rfl rfl rfl hs_X11_isOn ⟨Nat.le_of_ble_eq_true rfl, Nat.le_of_ble_eq_true rfl⟩) (g5_preS hPc hK hDc hN hT hS hFc) rfl rfl hl.1 rfl (lv_room (Nat.le_of_ble_eq_true rfl)) dX11_lit_48 ⟨Nat.le_of_ble_eq_true rfl, Nat.le_of_ble_eq_true rfl⟩) hS (fun q _ h => hFc q h) hFc (fun r u t H1 locs ht hvm hw hB hz1 hk1 hS => ?_)
                obtain ⟨hP1, hD1⟩ := hB
                rw [ht] at hP1
                rcases hw with ⟨i_24, rfl, rfl⟩ | ⟨i_25, rfl, rfl⟩
                ·
                  have i_24 : onB z8 p_t.toInt = false := i_24
                  have hP := g5_same hP hk1
                  generalize H1 = H at hP hS ⊢
                  refine lv_if_eq (tgt := 58) hx hb dX11_lit_51 (by decide) (fun c_26 => ?_) (fun c_26 => ?_)
                  ·
                    refine lv_iconst (v := 0) hx hb dX11_lit_58 (by decide) ?_
                    exact W.iret (v := 0) hx hb hr (fun t ht hW => ⟨⟨0, [(a_o, (oc11 a_h a_im a_ke a_k a_wa a_th a_ha a_wk a_r a_x e_tl e_fd e_fpl a_wd e_wn a_rf e_lr)), (a_k, (oc5 a_h a_j a_pt z9 z10 z11 z12 z13 z14 z15 z16 z17 z18)), (a_h, (oc1 e_wa e_le e_st e_fo e_lc a_l a_g a_b a_s a_p a_w e_gb a_bb)), (a_g, (oc6 6 5 a_gn e_g)), (a_gn, (arI G 30 f_g)), (a_b, (oc6 5 24 a_bn e_b)), (a_bn, (arI G 120 f_b)), (a_p, (oc6 8 5 a_pn e_p)), (a_pn, (arI G 40 f_p)), (a_bb, (arJ G 24 f_bb)), (a_j, (oc2 a_as a_sk)), (a_as, (arI G 8 z20)), (a_sk, (arJ G 50 z21)), (a_l, (arW G 6 f_l)), (a_lo, (oc3 e_cl a_hd a_sr a_cd)), (a_sr, (arI G n_sr f_sr)), (a_cd, (arI G n_cd f_cd)), (a_hd, (arI G n_hd f_hd)), (a_pt, (arI G 200 z19))], rfl, ⟨0, z9, z10, z11, z12, z13, z14, z15, z16, z17, z18, z19, z20, z21, i_7, rfl, rfl⟩, by rw [ht]; exact hP.sub [0, 1, 2, 3, 4, 5, 6, 7, 8, 9, 10, 11, 12, 13, 14, 15, 16, 17, 18] rfl, hD.sub [0, 1, 2, 3, 4, 5, 6, 7, 8, 9, 10, 11, 12, 13, 14, 15, 16, 17, 18] (by decide) rfl⟩, hS.F ht⟩) hS.2.2 dX11_lit_59
                  ·
                    exact absurd c_26 (by decide)
                ·
                  have i_25 : onB z8 p_t.toInt = true := i_25
                  have hP := g5_same hP hk1
                  generalize H1 = H at hP hS ⊢
                  refine lv_if_eq (tgt := 58) hx hb dX11_lit_51 (by decide) (fun c_27 => ?_) (fun c_27 => ?_)
                  ·
                    exact absurd c_27 (by decide)
                  ·
                    refine lv_iconst (v := 1) hx hb dX11_lit_54 (by decide) ?_
                    refine lv_goto (tgt := 59) hx hb dX11_lit_55 (by decide) ?_
                    exact W.iret (v := 1) hx hb hr (fun t ht hW => ⟨⟨1, [(a_o, (oc11 a_h a_im a_ke a_k a_wa a_th a_ha a_wk a_r a_x e_tl e_fd e_fpl a_wd e_wn a_rf e_lr)), (a_k, (oc5 a_h a_j a_pt z9 z10 z11 z12 z13 z14 z15 z16 z17 z18)), (a_h, (oc1 e_wa e_le e_st e_fo e_lc a_l a_g a_b a_s a_p a_w e_gb a_bb)), (a_g, (oc6 6 5 a_gn e_g)), (a_gn, (arI G 30 f_g)), (a_b, (oc6 5 24 a_bn e_b)), (a_bn, (arI G 120 f_b)), (a_p, (oc6 8 5 a_pn e_p)), (a_pn, (arI G 40 f_p)), (a_bb, (arJ G 24 f_bb)), (a_j, (oc2 a_as a_sk)), (a_as, (arI G 8 z20)), (a_sk, (arJ G 50 z21)), (a_l, (arW G 6 f_l)), (a_lo, (oc3 e_cl a_hd a_sr a_cd)), (a_sr, (arI G n_sr f_sr)), (a_cd, (arI G n_cd f_cd)), (a_hd, (arI G n_hd f_hd)), (a_pt, (arI G 200 z19))], rfl, ⟨1, z9, z10, z11, z12, z13, z14, z15, z16, z17, z18, z19, z20, z21, i_7, rfl, rfl⟩, by rw [ht]; exact hP.sub [0, 1, 2, 3, 4, 5, 6, 7, 8, 9, 10, 11, 12, 13, 14, 15, 16, 17, 18] rfl, hD.sub [0, 1, 2, 3, 4, 5, 6, 7, 8, 9, 10, 11, 12, 13, 14, 15, 16, 17, 18] (by decide) rfl⟩, hS.F ht⟩) hS.2.2 dX11_lit_59
              ·
                have i_23 : p_t.toInt = (-1) := by have z := g5_neN (a := p_t.toInt) (b := (-1)) (by rfl) (by decide) c_23; omega
                refine lv_lload hx hb dX11_lit_39 (lv_at hl 0 rfl) ?_
                obtain ⟨hPc, hDc, hFc⟩ := g5_sub3 (wc := []) hP hD hS hA [] (by decide) rfl
                refine va_calli (va_runS (As := [.long z8]) (rest := []) ⟨hx, hb, hml, hown, hts⟩ (j_bitCountL l G H.size z8) (va_cwS 1 hts gS_X11_248 rfl rfl rfl hs_J13_bitCount_95d88 ⟨Nat.le_of_ble_eq_true rfl, Nat.le_of_ble_eq_true rfl⟩) (g5_preS hPc hK hDc hN hT hS hFc) rfl rfl hl.1 rfl (lv_room (Nat.le_of_ble_eq_true rfl)) dX11_lit_41 ⟨Nat.le_of_ble_eq_true rfl, Nat.le_of_ble_eq_true rfl⟩) hS (fun q _ h => hFc q h) hFc (fun r u t H1 locs ht hvm hw hB hz1 hk1 hS => ?_)
                obtain ⟨hP1, hD1⟩ := hB
                rw [ht] at hP1
                obtain ⟨z28, y29, rfl⟩ := hw
                have hP := g5_same hP hk1
                generalize H1 = H at hP hS ⊢
                refine g5_ti (v := z28) y29 ?_
                exact W.iret (v := z28) hx hb hr (fun t ht hW => ⟨⟨z28, [(a_o, (oc11 a_h a_im a_ke a_k a_wa a_th a_ha a_wk a_r a_x e_tl e_fd e_fpl a_wd e_wn a_rf e_lr)), (a_k, (oc5 a_h a_j a_pt z9 z10 z11 z12 z13 z14 z15 z16 z17 z18)), (a_h, (oc1 e_wa e_le e_st e_fo e_lc a_l a_g a_b a_s a_p a_w e_gb a_bb)), (a_g, (oc6 6 5 a_gn e_g)), (a_gn, (arI G 30 f_g)), (a_b, (oc6 5 24 a_bn e_b)), (a_bn, (arI G 120 f_b)), (a_p, (oc6 8 5 a_pn e_p)), (a_pn, (arI G 40 f_p)), (a_bb, (arJ G 24 f_bb)), (a_j, (oc2 a_as a_sk)), (a_as, (arI G 8 z20)), (a_sk, (arJ G 50 z21)), (a_l, (arW G 6 f_l)), (a_lo, (oc3 e_cl a_hd a_sr a_cd)), (a_sr, (arI G n_sr f_sr)), (a_cd, (arI G n_cd f_cd)), (a_hd, (arI G n_hd f_hd)), (a_pt, (arI G 200 z19))], rfl, ⟨z28, z9, z10, z11, z12, z13, z14, z15, z16, z17, z18, z19, z20, z21, i_7, rfl, rfl⟩, by rw [ht]; exact hP.sub [0, 1, 2, 3, 4, 5, 6, 7, 8, 9, 10, 11, 12, 13, 14, 15, 16, 17, 18] rfl, hD.sub [0, 1, 2, 3, 4, 5, 6, 7, 8, 9, 10, 11, 12, 13, 14, 15, 16, 17, 18] (by decide) rfl⟩, hS.F ht⟩) hS.2.2 dX11_lit_44
            ·
              exact absurd c_6 (by decide)
          ·
            have hP := g5_same hP hk1
            generalize H1 = H at hP hS ⊢
            refine lv_if_ne (tgt := 23) hx hb dX11_lit_18 (by decide) (fun c_30 => ?_) (fun c_30 => ?_)
            ·
              exact absurd c_30 (by decide)
            ·
              refine lv_iconst (v := (-1)) hx hb dX11_lit_21 (by decide) ?_
              exact W.iret (v := (-1)) hx hb hr (fun t ht hW => ⟨⟨(-1), [(a_o, (oc11 a_h a_im a_ke a_k a_wa a_th a_ha a_wk a_r a_x e_tl e_fd e_fpl a_wd e_wn a_rf e_lr)), (a_k, (oc5 a_h a_j a_pt e_ln e_se e_lh e_br e_we e_me e_ce e_wy e_ho e_ov)), (a_h, (oc1 e_wa e_le e_st e_fo e_lc a_l a_g a_b a_s a_p a_w e_gb a_bb)), (a_g, (oc6 6 5 a_gn e_g)), (a_gn, (arI G 30 f_g)), (a_b, (oc6 5 24 a_bn e_b)), (a_bn, (arI G 120 f_b)), (a_p, (oc6 8 5 a_pn e_p)), (a_pn, (arI G 40 f_p)), (a_bb, (arJ G 24 f_bb)), (a_j, (oc2 a_as a_sk)), (a_as, (arI G 8 f_as)), (a_sk, (arJ G 50 f_sk)), (a_l, (arW G 6 f_l)), (a_lo, (oc3 e_cl a_hd a_sr a_cd)), (a_sr, (arI G n_sr f_sr)), (a_cd, (arI G n_cd f_cd)), (a_hd, (arI G n_hd f_hd)), (a_pt, (arI G 200 f_pt))], rfl, ⟨(-1), e_ln, e_se, e_lh, e_br, e_we, e_me, e_ce, e_wy, e_ho, e_ov, f_pt, f_as, f_sk, h_e_ov, rfl, rfl⟩, by rw [ht]; exact hP.sub [0, 1, 2, 3, 4, 5, 6, 7, 8, 9, 10, 11, 12, 13, 14, 15, 16, 17, 18] rfl, hD.sub [0, 1, 2, 3, 4, 5, 6, 7, 8, 9, 10, 11, 12, 13, 14, 15, 16, 17, 18] (by decide) rfl⟩, hS.F ht⟩) hS.2.2 dX11_lit_22
      ·
        have hP := g5_same hP hk1
        generalize H1 = H at hP hS ⊢
        refine lv_if_eq (tgt := 21) hx hb dX11_lit_11 (by decide) (fun c_31 => ?_) (fun c_31 => ?_)
        ·
          refine lv_iconst (v := (-1)) hx hb dX11_lit_21 (by decide) ?_
          exact W.iret (v := (-1)) hx hb hr (fun t ht hW => ⟨⟨(-1), [(a_o, (oc11 a_h a_im a_ke a_k a_wa a_th a_ha a_wk a_r a_x e_tl e_fd e_fpl a_wd e_wn a_rf e_lr)), (a_k, (oc5 a_h a_j a_pt e_ln e_se e_lh e_br e_we e_me e_ce e_wy e_ho e_ov)), (a_h, (oc1 e_wa e_le e_st e_fo e_lc a_l a_g a_b a_s a_p a_w e_gb a_bb)), (a_g, (oc6 6 5 a_gn e_g)), (a_gn, (arI G 30 f_g)), (a_b, (oc6 5 24 a_bn e_b)), (a_bn, (arI G 120 f_b)), (a_p, (oc6 8 5 a_pn e_p)), (a_pn, (arI G 40 f_p)), (a_bb, (arJ G 24 f_bb)), (a_j, (oc2 a_as a_sk)), (a_as, (arI G 8 f_as)), (a_sk, (arJ G 50 f_sk)), (a_l, (arW G 6 f_l)), (a_lo, (oc3 e_cl a_hd a_sr a_cd)), (a_sr, (arI G n_sr f_sr)), (a_cd, (arI G n_cd f_cd)), (a_hd, (arI G n_hd f_hd)), (a_pt, (arI G 200 f_pt))], rfl, ⟨(-1), e_ln, e_se, e_lh, e_br, e_we, e_me, e_ce, e_wy, e_ho, e_ov, f_pt, f_as, f_sk, h_e_ov, rfl, rfl⟩, by rw [ht]; exact hP.sub [0, 1, 2, 3, 4, 5, 6, 7, 8, 9, 10, 11, 12, 13, 14, 15, 16, 17, 18] rfl, hD.sub [0, 1, 2, 3, 4, 5, 6, 7, 8, 9, 10, 11, 12, 13, 14, 15, 16, 17, 18] (by decide) rfl⟩, hS.F ht⟩) hS.2.2 dX11_lit_22
        ·
          exact absurd c_31 (by decide)
  ·
    have hP := g5_same hP hk1
    generalize H1 = H at hP hS ⊢
    refine lv_if_eq (tgt := 21) hx hb dX11_lit_4 (by decide) (fun c_32 => ?_) (fun c_32 => ?_)
    ·
      refine lv_iconst (v := (-1)) hx hb dX11_lit_21 (by decide) ?_
      exact W.iret (v := (-1)) hx hb hr (fun t ht hW => ⟨⟨(-1), [(a_o, (oc11 a_h a_im a_ke a_k a_wa a_th a_ha a_wk a_r a_x e_tl e_fd e_fpl a_wd e_wn a_rf e_lr)), (a_k, (oc5 a_h a_j a_pt e_ln e_se e_lh e_br e_we e_me e_ce e_wy e_ho e_ov)), (a_h, (oc1 e_wa e_le e_st e_fo e_lc a_l a_g a_b a_s a_p a_w e_gb a_bb)), (a_g, (oc6 6 5 a_gn e_g)), (a_gn, (arI G 30 f_g)), (a_b, (oc6 5 24 a_bn e_b)), (a_bn, (arI G 120 f_b)), (a_p, (oc6 8 5 a_pn e_p)), (a_pn, (arI G 40 f_p)), (a_bb, (arJ G 24 f_bb)), (a_j, (oc2 a_as a_sk)), (a_as, (arI G 8 f_as)), (a_sk, (arJ G 50 f_sk)), (a_l, (arW G 6 f_l)), (a_lo, (oc3 e_cl a_hd a_sr a_cd)), (a_sr, (arI G n_sr f_sr)), (a_cd, (arI G n_cd f_cd)), (a_hd, (arI G n_hd f_hd)), (a_pt, (arI G 200 f_pt))], rfl, ⟨(-1), e_ln, e_se, e_lh, e_br, e_we, e_me, e_ce, e_wy, e_ho, e_ov, f_pt, f_as, f_sk, h_e_ov, rfl, rfl⟩, by rw [ht]; exact hP.sub [0, 1, 2, 3, 4, 5, 6, 7, 8, 9, 10, 11, 12, 13, 14, 15, 16, 17, 18] rfl, hD.sub [0, 1, 2, 3, 4, 5, 6, 7, 8, 9, 10, 11, 12, 13, 14, 15, 16, 17, 18] (by decide) rfl⟩, hS.F ht⟩) hS.2.2 dX11_lit_22
    ·
      exact absurd c_32 (by decide)
set_option maxHeartbeats 4000000 in
set_option maxRecDepth 100000 in
theorem x_unseenL (l : Launch) (G : g5_G) (a_o a_k a_h a_g a_gn a_b a_bn a_p a_pn a_bb a_j a_as a_sk a_l a_lo a_sr a_cd a_hd a_pt a_wa a_bo a_im a_ke a_th a_ha a_wk a_r a_x a_wd a_rf a_s a_w : Nat) (sz : Nat) (e_tl : Int32) (e_fd : Int32) (e_fpl : Int32) (e_wn : Int32) (e_lr : Int32) (e_le : Int32) (e_st : Int32) (e_fo : Int32) (e_lc : Int32) (e_g : Int32) (e_b : Int32) (e_p : Int32) (e_cl : Int32) (e_ln : Int32) (e_se : Int32) (e_lh : Int32) (e_br : Int32) (e_we : Int32) (e_me : Int32) (e_ce : Int32) (e_wy : Int32) (e_ho : Int32) (e_ov : Int32) (p_c : Int32) (e_wa : Int64) (e_gb : Int64) (f_g : Nat → Int32) (f_b : Nat → Int32) (f_p : Nat → Int32) (f_bb : Nat → Int64) (f_as : Nat → Int32) (f_sk : Nat → Int64) (f_l : Nat → Option Nat) (f_sr : Nat → Int32) (f_cd : Nat → Int32) (f_hd : Nat → Int32) (f_pt : Nat → Int32) (f_bo : Nat → Int64) (n_sr : Nat) (n_cd : Nat) (n_hd : Nat) (h_e_tl : 0 ≤ e_tl.toInt ∧ e_tl.toInt ≤ 400) (h_e_wn : 0 ≤ e_wn.toInt ∧ e_wn.toInt ≤ 1) (h_e_g : 0 ≤ e_g.toInt ∧ e_g.toInt ≤ 6) (h_e_b : 0 ≤ e_b.toInt ∧ e_b.toInt ≤ 5) (h_e_p : 0 ≤ e_p.toInt ∧ e_p.toInt ≤ 8) (h_e_cl : 0 ≤ e_cl.toInt ∧ e_cl.toInt ≤ 12) (h_e_ov : 0 ≤ e_ov.toInt ∧ e_ov.toInt ≤ 1) (e_gk : gOK f_g e_g.toInt) (e_pk : gOK f_p e_p.toInt) (e_gi : inT e_gb f_g e_g.toInt) (e_f : 0 ≤ e_fo.toInt ∧ e_fo.toInt < e_lc.toInt ∧ e_lc.toInt ≤ 6) (e_a : f_l e_fo.toNatClampNeg = some a_lo) (e_hn : n_cd ≤ 400) (e_hs : ∀ j : Nat, j < n_sr → 0 ≤ (f_sr j).toInt ∧ (f_sr j).toInt ≤ (n_cd : Int)) (e_hk : ∀ j : Nat, j < n_cd → (f_cd j >>> (12 &&& 31)).toInt = 1 → (f_cd j &&& 4095).toInt < 8) (e_c : (e_cl.toInt : Int) ≤ (n_hd : Int) ∧ (e_cl.toInt + 1 : Int) ≤ (n_sr : Int)) : Met l yX11_unseen (wsG yX11_unseen cX11_unseen 4 (some .int)) ({ frames := 15, cells := 0, slots := 0, locals := 580 }) (va_Pc [.ref a_o, .int p_c] (g5_P G [(a_o, (oc11 a_h a_im a_ke a_k a_wa a_th a_ha a_wk a_r a_x e_tl e_fd e_fpl a_wd e_wn a_rf e_lr)), (a_k, (oc5 a_h a_j a_pt e_ln e_se e_lh e_br e_we e_me e_ce e_wy e_ho e_ov)), (a_h, (oc1 e_wa e_le e_st e_fo e_lc a_l a_g a_b a_s a_p a_w e_gb a_bb)), (a_g, (oc6 6 5 a_gn e_g)), (a_gn, (arI G 30 f_g)), (a_b, (oc6 5 24 a_bn e_b)), (a_bn, (arI G 120 f_b)), (a_p, (oc6 8 5 a_pn e_p)), (a_pn, (arI G 40 f_p)), (a_bb, (arJ G 24 f_bb)), (a_j, (oc2 a_as a_sk)), (a_as, (arI G 8 f_as)), (a_sk, (arJ G 50 f_sk)), (a_l, (arW G 6 f_l)), (a_lo, (oc3 e_cl a_hd a_sr a_cd)), (a_sr, (arI G n_sr f_sr)), (a_cd, (arI G n_cd f_cd)), (a_hd, (arI G n_hd f_hd)), (a_pt, (arI G 200 f_pt)), (a_wa, (oc10 a_h a_k a_bo)), (a_bo, (arJ G 24 f_bo))] sz)) (va_Qi (fun (r : Int32) (u : va_W) => (∃ (o_r : Int32) (o_ln : Int32) (o_se : Int32) (o_lh : Int32) (o_br : Int32) (o_we : Int32) (o_me : Int32) (o_ce : Int32) (o_wy : Int32) (o_ho : Int32) (o_ov : Int32) (o_pt : Nat → Int32) (o_as : Nat → Int32) (o_sk : Nat → Int64) (o_bo : Nat → Int64), (0 ≤ o_ov.toInt ∧ o_ov.toInt ≤ 1) ∧ (r = o_r) ∧ (u = [(a_o, (oc11 a_h a_im a_ke a_k a_wa a_th a_ha a_wk a_r a_x e_tl e_fd e_fpl a_wd e_wn a_rf e_lr)), (a_k, (oc5 a_h a_j a_pt o_ln o_se o_lh o_br o_we o_me o_ce o_wy o_ho o_ov)), (a_h, (oc1 e_wa e_le e_st e_fo e_lc a_l a_g a_b a_s a_p a_w e_gb a_bb)), (a_g, (oc6 6 5 a_gn e_g)), (a_gn, (arI G 30 f_g)), (a_b, (oc6 5 24 a_bn e_b)), (a_bn, (arI G 120 f_b)), (a_p, (oc6 8 5 a_pn e_p)), (a_pn, (arI G 40 f_p)), (a_bb, (arJ G 24 f_bb)), (a_j, (oc2 a_as a_sk)), (a_as, (arI G 8 o_as)), (a_sk, (arJ G 50 o_sk)), (a_l, (arW G 6 f_l)), (a_lo, (oc3 e_cl a_hd a_sr a_cd)), (a_sr, (arI G n_sr f_sr)), (a_cd, (arI G n_cd f_cd)), (a_hd, (arI G n_hd f_hd)), (a_pt, (arI G 200 o_pt)), (a_wa, (oc10 a_h a_k a_bo)), (a_bo, (arJ G 24 o_bo))]))) (g5_B G (va_A [(a_o, (oc11 a_h a_im a_ke a_k a_wa a_th a_ha a_wk a_r a_x e_tl e_fd e_fpl a_wd e_wn a_rf e_lr)), (a_k, (oc5 a_h a_j a_pt e_ln e_se e_lh e_br e_we e_me e_ce e_wy e_ho e_ov)), (a_h, (oc1 e_wa e_le e_st e_fo e_lc a_l a_g a_b a_s a_p a_w e_gb a_bb)), (a_g, (oc6 6 5 a_gn e_g)), (a_gn, (arI G 30 f_g)), (a_b, (oc6 5 24 a_bn e_b)), (a_bn, (arI G 120 f_b)), (a_p, (oc6 8 5 a_pn e_p)), (a_pn, (arI G 40 f_p)), (a_bb, (arJ G 24 f_bb)), (a_j, (oc2 a_as a_sk)), (a_as, (arI G 8 f_as)), (a_sk, (arJ G 50 f_sk)), (a_l, (arW G 6 f_l)), (a_lo, (oc3 e_cl a_hd a_sr a_cd)), (a_sr, (arI G n_sr f_sr)), (a_cd, (arI G n_cd f_cd)), (a_hd, (arI G n_hd f_hd)), (a_pt, (arI G 200 f_pt)), (a_wa, (oc10 a_h a_k a_bo)), (a_bo, (arJ G 24 f_bo))] sz)) (va_A [(a_o, (oc11 a_h a_im a_ke a_k a_wa a_th a_ha a_wk a_r a_x e_tl e_fd e_fpl a_wd e_wn a_rf e_lr)), (a_k, (oc5 a_h a_j a_pt e_ln e_se e_lh e_br e_we e_me e_ce e_wy e_ho e_ov)), (a_h, (oc1 e_wa e_le e_st e_fo e_lc a_l a_g a_b a_s a_p a_w e_gb a_bb)), (a_g, (oc6 6 5 a_gn e_g)), (a_gn, (arI G 30 f_g)), (a_b, (oc6 5 24 a_bn e_b)), (a_bn, (arI G 120 f_b)), (a_p, (oc6 8 5 a_pn e_p)), (a_pn, (arI G 40 f_p)), (a_bb, (arJ G 24 f_bb)), (a_j, (oc2 a_as a_sk)), (a_as, (arI G 8 f_as)), (a_sk, (arJ G 50 f_sk)), (a_l, (arW G 6 f_l)), (a_lo, (oc3 e_cl a_hd a_sr a_cd)), (a_sr, (arI G n_sr f_sr)), (a_cd, (arI G n_cd f_cd)), (a_hd, (arI G n_hd f_hd)), (a_pt, (arI G 200 f_pt)), (a_wa, (oc10 a_h a_k a_bo)), (a_bo, (arJ G 24 f_bo))] sz)) 0 0 (va_A [(a_o, (oc11 a_h a_im a_ke a_k a_wa a_th a_ha a_wk a_r a_x e_tl e_fd e_fpl a_wd e_wn a_rf e_lr)), (a_k, (oc5 a_h a_j a_pt e_ln e_se e_lh e_br e_we e_me e_ce e_wy e_ho e_ov)), (a_h, (oc1 e_wa e_le e_st e_fo e_lc a_l a_g a_b a_s a_p a_w e_gb a_bb)), (a_g, (oc6 6 5 a_gn e_g)), (a_gn, (arI G 30 f_g)), (a_b, (oc6 5 24 a_bn e_b)), (a_bn, (arI G 120 f_b)), (a_p, (oc6 8 5 a_pn e_p)), (a_pn, (arI G 40 f_p)), (a_bb, (arJ G 24 f_bb)), (a_j, (oc2 a_as a_sk)), (a_as, (arI G 8 f_as)), (a_sk, (arJ G 50 f_sk)), (a_l, (arW G 6 f_l)), (a_lo, (oc3 e_cl a_hd a_sr a_cd)), (a_sr, (arI G n_sr f_sr)), (a_cd, (arI G n_cd f_cd)), (a_hd, (arI G n_hd f_hd)), (a_pt, (arI G 200 f_pt)), (a_wa, (oc10 a_h a_k a_bo)), (a_bo, (arJ G 24 f_bo))] sz) := by
  refine Met.ofW (cc := cX11_unseen) (maxL := 4) (ret := (some .int)) (by decide) rfl ?_
  intro p e s m args below meth c s₁ B hml hv
  obtain ⟨rfl, hsz, hP, hK, hD0, hN, hT⟩ := hv
  have hx := B.exec
  have hb := B.bytes
  have hr := B.returns
  have hts : ∀ w ∈ tblG, w.before _ s = true := fun w h => atoms_spec (ws := (wsG yX11_unseen cX11_unseen 4 (some .int))) B.pre w (List.mem_cons_of_mem _ h)
  have hown : s.vm.findClass RX11 = some m.cls := findClass_of_methodNamed B.named
  have hlocks := B.notSynchronized
  subst hsz
  have hD := hD0.self (sz := s.heap.size)
  generalize hAe : va_A [(a_o, (oc11 a_h a_im a_ke a_k a_wa a_th a_ha a_wk a_r a_x e_tl e_fd e_fpl a_wd e_wn a_rf e_lr)), (a_k, (oc5 a_h a_j a_pt e_ln e_se e_lh e_br e_we e_me e_ce e_wy e_ho e_ov)), (a_h, (oc1 e_wa e_le e_st e_fo e_lc a_l a_g a_b a_s a_p a_w e_gb a_bb)), (a_g, (oc6 6 5 a_gn e_g)), (a_gn, (arI G 30 f_g)), (a_b, (oc6 5 24 a_bn e_b)), (a_bn, (arI G 120 f_b)), (a_p, (oc6 8 5 a_pn e_p)), (a_pn, (arI G 40 f_p)), (a_bb, (arJ G 24 f_bb)), (a_j, (oc2 a_as a_sk)), (a_as, (arI G 8 f_as)), (a_sk, (arJ G 50 f_sk)), (a_l, (arW G 6 f_l)), (a_lo, (oc3 e_cl a_hd a_sr a_cd)), (a_sr, (arI G n_sr f_sr)), (a_cd, (arI G n_cd f_cd)), (a_hd, (arI G n_hd f_hd)), (a_pt, (arI G 200 f_pt)), (a_wa, (oc10 a_h a_k a_bo)), (a_bo, (arJ G 24 f_bo))] s.heap.size = A at hD hT ⊢
  have hA : ∀ q : Nat, s.heap.size ≤ q → A q := fun q h => by rw [← hAe]; exact Or.inr h
  have hS : va_S A s.heap s.heap [] := va_S.rf
  have hP : va_P G.1 vwCl [(a_o, (oc11 a_h a_im a_ke a_k a_wa a_th a_ha a_wk a_r a_x e_tl e_fd e_fpl a_wd e_wn a_rf e_lr)), (a_k, (oc5 a_h a_j a_pt e_ln e_se e_lh e_br e_we e_me e_ce e_wy e_ho e_ov)), (a_h, (oc1 e_wa e_le e_st e_fo e_lc a_l a_g a_b a_s a_p a_w e_gb a_bb)), (a_g, (oc6 6 5 a_gn e_g)), (a_gn, (arI G 30 f_g)), (a_b, (oc6 5 24 a_bn e_b)), (a_bn, (arI G 120 f_b)), (a_p, (oc6 8 5 a_pn e_p)), (a_pn, (arI G 40 f_p)), (a_bb, (arJ G 24 f_bb)), (a_j, (oc2 a_as a_sk)), (a_as, (arI G 8 f_as)), (a_sk, (arJ G 50 f_sk)), (a_l, (arW G 6 f_l)), (a_lo, (oc3 e_cl a_hd a_sr a_cd)), (a_sr, (arI G n_sr f_sr)), (a_cd, (arI G n_cd f_cd)), (a_hd, (arI G n_hd f_hd)), (a_pt, (arI G 200 f_pt)), (a_wa, (oc10 a_h a_k a_bo)), (a_bo, (arJ G 24 f_bo))] s.heap := hP
  have hl := lv_entry ([.ref a_o, .int p_c]) (n := 4) (Nat.le_of_ble_eq_true rfl)
  rw [lg_entry_eq]
  generalize (lg_sl ([.ref a_o, .int p_c]) ++ List.replicate (4 - (lg_sl ([.ref a_o, .int p_c])).length) Slot.unset).toArray = ls at hl ⊢
  have hl : lv_has ls 4 [(0, .ref a_o), (1, .int p_c)] := hl
  refine lv_iload_n hx hb dX11_unseen_0 rfl (lv_at hl 1 rfl) ?_
  obtain ⟨hPc, hDc, hFc⟩ := g5_sub3 (wc := []) hP hD hS hA [] (by decide) rfl
  refine va_calli (va_runS (As := [.int p_c]) (rest := []) ⟨hx, hb, hml, hown, hts⟩ (x_isCell l G s.heap.size p_c) (va_cwS 1 hts gS_X11_97 rfl rfl rfl hs_X11_isCell ⟨Nat.le_of_ble_eq_true rfl, Nat.le_of_ble_eq_true rfl⟩) (g5_preS hPc hK hDc hN hT hS hFc) rfl rfl hl.1 rfl (lv_room (Nat.le_of_ble_eq_true rfl)) dX11_unseen_1 ⟨Nat.le_of_ble_eq_true rfl, Nat.le_of_ble_eq_true rfl⟩) hS (fun q _ h => hFc q h) hFc (fun r u t H1 locs ht hvm hw hB hz1 hk1 hS => ?_)
  obtain ⟨hP1, hD1⟩ := hB
  rw [ht] at hP1
  rcases hw with ⟨i_1, rfl, rfl⟩ | ⟨rfl, rfl⟩
  ·
    have i_1 : 0 ≤ p_c.toInt ∧ p_c.toInt ≤ 63 := i_1
    have hP := g5_same hP hk1
    generalize H1 = H at hP hS ⊢
    refine lv_if_ne (tgt := 9) hx hb dX11_unseen_4 (by decide) (fun c_2 => ?_) (fun c_2 => ?_)
    ·
      refine lv_aload_n hx hb dX11_unseen_9 rfl (lv_at hl 0 rfl) ?_
      refine va_get (D := G.1) (ci := 11) (v := .ref a_wa) (C := RX11) (T := TX11) (N := 17) hx hb hts inG_X11 hown hK hP 0 rfl rfl 4 (by decide) (hts _ fl_X11_38) (fun _ h9 => h9) rfl dX11_unseen_10 ?_
      obtain ⟨hPc, hDc, hFc⟩ := g5_sub3 (wc := [(a_k, (oc5 a_h a_j a_pt e_ln e_se e_lh e_br e_we e_me e_ce e_wy e_ho e_ov)), (a_h, (oc1 e_wa e_le e_st e_fo e_lc a_l a_g a_b a_s a_p a_w e_gb a_bb)), (a_g, (oc6 6 5 a_gn e_g)), (a_gn, (arI G 30 f_g)), (a_b, (oc6 5 24 a_bn e_b)), (a_bn, (arI G 120 f_b)), (a_p, (oc6 8 5 a_pn e_p)), (a_pn, (arI G 40 f_p)), (a_bb, (arJ G 24 f_bb)), (a_j, (oc2 a_as a_sk)), (a_as, (arI G 8 f_as)), (a_sk, (arJ G 50 f_sk)), (a_l, (arW G 6 f_l)), (a_lo, (oc3 e_cl a_hd a_sr a_cd)), (a_sr, (arI G n_sr f_sr)), (a_cd, (arI G n_cd f_cd)), (a_hd, (arI G n_hd f_hd)), (a_pt, (arI G 200 f_pt)), (a_wa, (oc10 a_h a_k a_bo)), (a_bo, (arJ G 24 f_bo))]) hP hD hS hA [1, 2, 3, 4, 5, 6, 7, 8, 9, 10, 11, 12, 13, 14, 15, 16, 17, 18, 19, 20] (by decide) rfl
      refine va_callv (va_runV (As := []) (rest := []) ⟨hx, hb, hml, hown, hts⟩ (w_lookAroundL l G a_k a_h a_g a_gn a_b a_bn a_p a_pn a_bb a_j a_as a_sk a_l a_lo a_sr a_cd a_hd a_pt a_wa a_bo a_s a_w H.size e_le e_st e_fo e_lc e_g e_b e_p e_cl e_ln e_se e_lh e_br e_we e_me e_ce e_wy e_ho e_ov e_wa e_gb f_g f_b f_p f_bb f_as f_sk f_l f_sr f_cd f_hd f_pt f_bo n_sr n_cd n_hd h_e_g h_e_b h_e_p h_e_cl h_e_ov (e_gk) (e_pk) (e_gi) (e_f) (e_a) (e_hn) (e_hs) (e_hk) (e_c)) (cwV 0 hts gV_X11_254 rfl rfl rfl hv_X10_lookAround ⟨Nat.le_of_ble_eq_true rfl, Nat.le_of_ble_eq_true rfl⟩) (g5_preV hPc hK hDc hN hT hS hFc (ci := 10) (q0 := 18) rfl rfl) rfl rfl hl.1 rfl (lv_room (Nat.le_of_ble_eq_true rfl)) dX11_unseen_13 ⟨Nat.le_of_ble_eq_true rfl, Nat.le_of_ble_eq_true rfl⟩) hS (fun q _ h => hFc q h) hFc (fun u t H1 locs ht hvm hw hB hz1 hk1 hS => ?_)
      obtain ⟨hP1, hD1⟩ := hB
      rw [ht] at hP1
      obtain ⟨z4, z5, z6, z7, z8, z9, z10, z11, z12, z13, z14, z15, z16, z17, i_3, rfl⟩ := hw
      have i_3 : 0 ≤ z13.toInt ∧ z13.toInt ≤ 1 := i_3
      obtain ⟨hP, hD⟩ := va_join (wr := [(a_o, (oc11 a_h a_im a_ke a_k a_wa a_th a_ha a_wk a_r a_x e_tl e_fd e_fpl a_wd e_wn a_rf e_lr))]) hP hD [1, 2, 3, 4, 5, 6, 7, 8, 9, 10, 11, 12, 13, 14, 15, 16, 17, 18, 19, 20] [0] rfl rfl (by decide) (by decide) hk1 hFc hP1 hD1
      generalize H1 = H at hP hS ⊢
      refine g5_rs [(a_o, (oc11 a_h a_im a_ke a_k a_wa a_th a_ha a_wk a_r a_x e_tl e_fd e_fpl a_wd e_wn a_rf e_lr)), (a_k, (oc5 a_h a_j a_pt z4 z5 z6 z7 z8 z9 z10 z11 z12 z13)), (a_h, (oc1 e_wa e_le e_st e_fo e_lc a_l a_g a_b a_s a_p a_w e_gb a_bb)), (a_g, (oc6 6 5 a_gn e_g)), (a_gn, (arI G 30 f_g)), (a_b, (oc6 5 24 a_bn e_b)), (a_bn, (arI G 120 f_b)), (a_p, (oc6 8 5 a_pn e_p)), (a_pn, (arI G 40 f_p)), (a_bb, (arJ G 24 f_bb)), (a_j, (oc2 a_as a_sk)), (a_as, (arI G 8 z15)), (a_sk, (arJ G 50 z16)), (a_l, (arW G 6 f_l)), (a_lo, (oc3 e_cl a_hd a_sr a_cd)), (a_sr, (arI G n_sr f_sr)), (a_cd, (arI G n_cd f_cd)), (a_hd, (arI G n_hd f_hd)), (a_pt, (arI G 200 z14)), (a_wa, (oc10 a_h a_k a_bo)), (a_bo, (arJ G 24 z17))] hP hD (fun hP hD => ?_)
      refine lv_iconst (v := 0) hx hb dX11_unseen_16 (by decide) ?_
      refine lv_istore_n (lv' := [(2, .int 0), (0, .ref a_o), (1, .int p_c)]) hx hb dX11_unseen_17 rfl hl (by decide) rfl (fun ls hl => ?_)
      refine lv_iconst (v := 0) hx hb dX11_unseen_18 (by decide) ?_
      refine lv_istore_n (lv' := [(3, .int 0), (2, .int 0), (0, .ref a_o), (1, .int p_c)]) hx hb dX11_unseen_19 rfl hl (by decide) rfl (fun ls hl => ?_)
      refine g5_loop (α := (Int32) × (Int32)) (fun (q : (Int32) × (Int32)) (ls : Array Slot) (H : Heap) (locs : List Loc) => match q with | (k_i, k_n) => lv_has ls 4 [(2, .int k_n), (3, .int k_i), (0, .ref a_o), (1, .int p_c)] ∧ va_P G.1 vwCl [(a_o, (oc11 a_h a_im a_ke a_k a_wa a_th a_ha a_wk a_r a_x e_tl e_fd e_fpl a_wd e_wn a_rf e_lr)), (a_k, (oc5 a_h a_j a_pt z4 z5 z6 z7 z8 z9 z10 z11 z12 z13)), (a_h, (oc1 e_wa e_le e_st e_fo e_lc a_l a_g a_b a_s a_p a_w e_gb a_bb)), (a_g, (oc6 6 5 a_gn e_g)), (a_gn, (arI G 30 f_g)), (a_b, (oc6 5 24 a_bn e_b)), (a_bn, (arI G 120 f_b)), (a_p, (oc6 8 5 a_pn e_p)), (a_pn, (arI G 40 f_p)), (a_bb, (arJ G 24 f_bb)), (a_j, (oc2 a_as a_sk)), (a_as, (arI G 8 z15)), (a_sk, (arJ G 50 z16)), (a_l, (arW G 6 f_l)), (a_lo, (oc3 e_cl a_hd a_sr a_cd)), (a_sr, (arI G n_sr f_sr)), (a_cd, (arI G n_cd f_cd)), (a_hd, (arI G n_hd f_hd)), (a_pt, (arI G 200 z14)), (a_wa, (oc10 a_h a_k a_bo)), (a_bo, (arJ G 24 z17))] H ∧ va_D A [(a_o, (oc11 a_h a_im a_ke a_k a_wa a_th a_ha a_wk a_r a_x e_tl e_fd e_fpl a_wd e_wn a_rf e_lr)), (a_k, (oc5 a_h a_j a_pt z4 z5 z6 z7 z8 z9 z10 z11 z12 z13)), (a_h, (oc1 e_wa e_le e_st e_fo e_lc a_l a_g a_b a_s a_p a_w e_gb a_bb)), (a_g, (oc6 6 5 a_gn e_g)), (a_gn, (arI G 30 f_g)), (a_b, (oc6 5 24 a_bn e_b)), (a_bn, (arI G 120 f_b)), (a_p, (oc6 8 5 a_pn e_p)), (a_pn, (arI G 40 f_p)), (a_bb, (arJ G 24 f_bb)), (a_j, (oc2 a_as a_sk)), (a_as, (arI G 8 z15)), (a_sk, (arJ G 50 z16)), (a_l, (arW G 6 f_l)), (a_lo, (oc3 e_cl a_hd a_sr a_cd)), (a_sr, (arI G n_sr f_sr)), (a_cd, (arI G n_cd f_cd)), (a_hd, (arI G n_hd f_hd)), (a_pt, (arI G 200 z14)), (a_wa, (oc10 a_h a_k a_bo)), (a_bo, (arJ G 24 z17))] ∧ va_S A s.heap H locs ∧ (0 ≤ k_i.toInt ∧ k_i.toInt ≤ 24)) (fun (q : (Int32) × (Int32)) => match q with | (k_i, k_n) => Int.toNat (24 - k_i.toInt)) (0, 0) ⟨lv_sub hl [1, 0, 2, 3] rfl, hP, hD, hS, ⟨by decide, by decide⟩⟩ ?_
      rintro ⟨k_i, k_n⟩ ls H locs ⟨hl, hP, hD, hS, i_18⟩ ih_20_19
      have hl : lv_has ls 4 [(2, .int k_n), (3, .int k_i), (0, .ref a_o), (1, .int p_c)] := hl
      have i_18 : 0 ≤ k_i.toInt ∧ k_i.toInt ≤ 24 := i_18
      refine g5_rs [(a_o, (oc11 a_h a_im a_ke a_k a_wa a_th a_ha a_wk a_r a_x e_tl e_fd e_fpl a_wd e_wn a_rf e_lr)), (a_k, (oc5 a_h a_j a_pt z4 z5 z6 z7 z8 z9 z10 z11 z12 z13)), (a_h, (oc1 e_wa e_le e_st e_fo e_lc a_l a_g a_b a_s a_p a_w e_gb a_bb)), (a_g, (oc6 6 5 a_gn e_g)), (a_gn, (arI G 30 f_g)), (a_b, (oc6 5 24 a_bn e_b)), (a_bn, (arI G 120 f_b)), (a_p, (oc6 8 5 a_pn e_p)), (a_pn, (arI G 40 f_p)), (a_bb, (arJ G 24 f_bb)), (a_j, (oc2 a_as a_sk)), (a_as, (arI G 8 z15)), (a_sk, (arJ G 50 z16)), (a_l, (arW G 6 f_l)), (a_lo, (oc3 e_cl a_hd a_sr a_cd)), (a_sr, (arI G n_sr f_sr)), (a_cd, (arI G n_cd f_cd)), (a_hd, (arI G n_hd f_hd)), (a_pt, (arI G 200 z14)), (a_wa, (oc10 a_h a_k a_bo)), (a_bo, (arJ G 24 z17))] hP hD (fun hP hD => ?_)
      refine lv_iload_n hx hb dX11_unseen_20 rfl (lv_at hl 1 rfl) ?_
      refine lv_bipush (v := 24) hx hb dX11_unseen_21 (by decide) ?_
      refine lv_icmp_ge (tgt := 51) hx hb dX11_unseen_23 (by decide) (fun c_20 => ?_) (fun c_20 => ?_)
      ·
        have i_20 : k_i.toInt ≥ 24 := by have z := g5_ge (a := k_i.toInt) (b := 24) (by rfl) (by decide) c_20; omega
        refine lv_iload_n hx hb dX11_unseen_51 rfl (lv_at hl 0 rfl) ?_
        exact W.iret (v := k_n) hx hb hr (fun t ht hW => ⟨⟨k_n, [(a_o, (oc11 a_h a_im a_ke a_k a_wa a_th a_ha a_wk a_r a_x e_tl e_fd e_fpl a_wd e_wn a_rf e_lr)), (a_k, (oc5 a_h a_j a_pt z4 z5 z6 z7 z8 z9 z10 z11 z12 z13)), (a_h, (oc1 e_wa e_le e_st e_fo e_lc a_l a_g a_b a_s a_p a_w e_gb a_bb)), (a_g, (oc6 6 5 a_gn e_g)), (a_gn, (arI G 30 f_g)), (a_b, (oc6 5 24 a_bn e_b)), (a_bn, (arI G 120 f_b)), (a_p, (oc6 8 5 a_pn e_p)), (a_pn, (arI G 40 f_p)), (a_bb, (arJ G 24 f_bb)), (a_j, (oc2 a_as a_sk)), (a_as, (arI G 8 z15)), (a_sk, (arJ G 50 z16)), (a_l, (arW G 6 f_l)), (a_lo, (oc3 e_cl a_hd a_sr a_cd)), (a_sr, (arI G n_sr f_sr)), (a_cd, (arI G n_cd f_cd)), (a_hd, (arI G n_hd f_hd)), (a_pt, (arI G 200 z14)), (a_wa, (oc10 a_h a_k a_bo)), (a_bo, (arJ G 24 z17))], rfl, ⟨k_n, z4, z5, z6, z7, z8, z9, z10, z11, z12, z13, z14, z15, z16, z17, i_3, rfl, rfl⟩, by rw [ht]; exact hP.sub [0, 1, 2, 3, 4, 5, 6, 7, 8, 9, 10, 11, 12, 13, 14, 15, 16, 17, 18, 19, 20] rfl, hD.sub [0, 1, 2, 3, 4, 5, 6, 7, 8, 9, 10, 11, 12, 13, 14, 15, 16, 17, 18, 19, 20] (by decide) rfl⟩, hS.F ht⟩) hS.2.2 dX11_unseen_52
      ·
        have i_20 : k_i.toInt < 24 := by have z := g5_geN (a := k_i.toInt) (b := 24) (by rfl) (by decide) c_20; omega
        refine lv_aload_n hx hb dX11_unseen_26 rfl (lv_at hl 2 rfl) ?_
        refine va_get (D := G.1) (ci := 11) (v := .ref a_wa) (C := RX11) (T := TX11) (N := 17) hx hb hts inG_X11 hown hK hP 0 rfl rfl 4 (by decide) (hts _ fl_X11_38) (fun _ h9 => h9) rfl dX11_unseen_27 ?_
        refine va_get (D := G.1) (ci := 10) (v := .ref a_bo) (C := RX10) (T := TX10) (N := 3) hx hb hts inG_X10 hown hK hP 19 rfl rfl 2 (by decide) (hts _ fl_X11_257) (fun _ h9 => h9) rfl dX11_unseen_30 ?_
        refine lv_iload_n hx hb dX11_unseen_33 rfl (lv_at hl 1 rfl) ?_
        refine va_lald hx hb hK hP 20 1 rfl rfl (i := k_i) (vp_in_iff.mpr ⟨by omega, by omega⟩) dX11_unseen_34 ?_
        refine lv_iload_n hx hb dX11_unseen_35 rfl (lv_at hl 3 rfl) ?_
        obtain ⟨hPc, hDc, hFc⟩ := g5_sub3 (wc := []) hP hD hS hA [] (by decide) rfl
        refine va_calli (va_runS (As := [.long (z17 k_i.toNatClampNeg), .int p_c]) (rest := []) ⟨hx, hb, hml, hown, hts⟩ (k_isOn l G H.size p_c (z17 k_i.toNatClampNeg) i_1) (va_cwS 2 hts gS_X11_115 rfl rfl rfl hs_X11_isOn ⟨Nat.le_of_ble_eq_true rfl, Nat.le_of_ble_eq_true rfl⟩) (g5_preS hPc hK hDc hN hT hS hFc) rfl rfl hl.1 rfl (lv_room (Nat.le_of_ble_eq_true rfl)) dX11_unseen_36 ⟨Nat.le_of_ble_eq_true rfl, Nat.le_of_ble_eq_true rfl⟩) hS (fun q _ h => hFc q h) hFc (fun r u t H1 locs ht hvm hw hB hz1 hk1 hS => ?_)
        obtain ⟨hP1, hD1⟩ := hB
        rw [ht] at hP1
        rcases hw with ⟨i_21, rfl, rfl⟩ | ⟨i_22, rfl, rfl⟩
        ·
          have i_21 : onB (z17 k_i.toNatClampNeg) p_c.toInt = false := i_21
          have hP := g5_same hP hk1
          generalize H1 = H at hP hS ⊢
          refine lv_if_ne (tgt := 45) hx hb dX11_unseen_39 (by decide) (fun c_23 => ?_) (fun c_23 => ?_)
          ·
            exact absurd c_23 (by decide)
          ·
            refine lv_iinc (v := (k_n + 1)) (lv' := [(2, .int (k_n + 1)), (3, .int k_i), (0, .ref a_o), (1, .int p_c)]) hx hb dX11_unseen_42 hl (k := 0) rfl rfl (by decide) rfl (fun ls hl => ?_)
            refine lv_iinc (v := (k_i + 1)) (lv' := [(3, .int (k_i + 1)), (2, .int (k_n + 1)), (0, .ref a_o), (1, .int p_c)]) hx hb dX11_unseen_45 hl (k := 1) rfl rfl (by decide) rfl (fun ls hl => ?_)
            have t_24 : (k_i + 1).toInt = k_i.toInt + 1 := g5_iadd (a := k_i.toInt) (b := 1) rfl (by decide) (by omega) (by omega)
            refine lv_goto (tgt := 20) hx hb dX11_unseen_48 (by decide) ?_
            exact ih_20_19 ((k_i + 1), (k_n + 1)) ls H locs (show Int.toNat (24 - (k_i + 1).toInt) < Int.toNat (24 - k_i.toInt) from g_up (show k_i.toInt < (k_i + 1).toInt by omega) (show k_i.toInt < 24 by omega)) ⟨lv_sub hl [1, 0, 2, 3] rfl, hP, hD, hS, ⟨by omega, by omega⟩⟩
        ·
          have i_22 : onB (z17 k_i.toNatClampNeg) p_c.toInt = true := i_22
          have hP := g5_same hP hk1
          generalize H1 = H at hP hS ⊢
          refine lv_if_ne (tgt := 45) hx hb dX11_unseen_39 (by decide) (fun c_25 => ?_) (fun c_25 => ?_)
          ·
            refine lv_iinc (v := (k_i + 1)) (lv' := [(3, .int (k_i + 1)), (2, .int k_n), (0, .ref a_o), (1, .int p_c)]) hx hb dX11_unseen_45 hl (k := 1) rfl rfl (by decide) rfl (fun ls hl => ?_)
            have t_26 : (k_i + 1).toInt = k_i.toInt + 1 := g5_iadd (a := k_i.toInt) (b := 1) rfl (by decide) (by omega) (by omega)
            refine lv_goto (tgt := 20) hx hb dX11_unseen_48 (by decide) ?_
            exact ih_20_19 ((k_i + 1), k_n) ls H locs (show Int.toNat (24 - (k_i + 1).toInt) < Int.toNat (24 - k_i.toInt) from g_up (show k_i.toInt < (k_i + 1).toInt by omega) (show k_i.toInt < 24 by omega)) ⟨lv_sub hl [1, 0, 2, 3] rfl, hP, hD, hS, ⟨by omega, by omega⟩⟩
          ·
            exact absurd c_25 (by decide)
    ·
      exact absurd c_2 (by decide)
  ·
    have hP := g5_same hP hk1
    generalize H1 = H at hP hS ⊢
    refine lv_if_ne (tgt := 9) hx hb dX11_unseen_4 (by decide) (fun c_27 => ?_) (fun c_27 => ?_)
    ·
      exact absurd c_27 (by decide)
    ·
      refine lv_iconst (v := (-1)) hx hb dX11_unseen_7 (by decide) ?_
      exact W.iret (v := (-1)) hx hb hr (fun t ht hW => ⟨⟨(-1), [(a_o, (oc11 a_h a_im a_ke a_k a_wa a_th a_ha a_wk a_r a_x e_tl e_fd e_fpl a_wd e_wn a_rf e_lr)), (a_k, (oc5 a_h a_j a_pt e_ln e_se e_lh e_br e_we e_me e_ce e_wy e_ho e_ov)), (a_h, (oc1 e_wa e_le e_st e_fo e_lc a_l a_g a_b a_s a_p a_w e_gb a_bb)), (a_g, (oc6 6 5 a_gn e_g)), (a_gn, (arI G 30 f_g)), (a_b, (oc6 5 24 a_bn e_b)), (a_bn, (arI G 120 f_b)), (a_p, (oc6 8 5 a_pn e_p)), (a_pn, (arI G 40 f_p)), (a_bb, (arJ G 24 f_bb)), (a_j, (oc2 a_as a_sk)), (a_as, (arI G 8 f_as)), (a_sk, (arJ G 50 f_sk)), (a_l, (arW G 6 f_l)), (a_lo, (oc3 e_cl a_hd a_sr a_cd)), (a_sr, (arI G n_sr f_sr)), (a_cd, (arI G n_cd f_cd)), (a_hd, (arI G n_hd f_hd)), (a_pt, (arI G 200 f_pt)), (a_wa, (oc10 a_h a_k a_bo)), (a_bo, (arJ G 24 f_bo))], rfl, ⟨(-1), e_ln, e_se, e_lh, e_br, e_we, e_me, e_ce, e_wy, e_ho, e_ov, f_pt, f_as, f_sk, f_bo, h_e_ov, rfl, rfl⟩, by rw [ht]; exact hP.sub [0, 1, 2, 3, 4, 5, 6, 7, 8, 9, 10, 11, 12, 13, 14, 15, 16, 17, 18, 19, 20] rfl, hD.sub [0, 1, 2, 3, 4, 5, 6, 7, 8, 9, 10, 11, 12, 13, 14, 15, 16, 17, 18, 19, 20] (by decide) rfl⟩, hS.F ht⟩) hS.2.2 dX11_unseen_8
