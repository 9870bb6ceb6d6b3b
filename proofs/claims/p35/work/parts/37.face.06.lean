set_option maxHeartbeats 4000000 in
set_option maxRecDepth 100000 in
theorem x_litL (l : Launch) (G : g5_G) (a_o a_k a_h a_g a_gn a_b a_bn a_p a_pn a_bb a_j a_as a_sk a_l a_lo a_sr a_cd a_hd a_pt a_im a_ke a_wa a_th a_ha a_wk a_r a_x a_wd a_rf a_s a_w : Nat) (sz : Nat) (e_tl : Int32) (e_fd : Int32) (e_fpl : Int32) (e_wn : Int32) (e_lr : Int32) (e_le : Int32) (e_st : Int32) (e_fo : Int32) (e_lc : Int32) (e_g : Int32) (e_b : Int32) (e_p : Int32) (e_cl : Int32) (e_ln : Int32) (e_se : Int32) (e_lh : Int32) (e_br : Int32) (e_we : Int32) (e_me : Int32) (e_ce : Int32) (e_wy : Int32) (e_ho : Int32) (e_ov : Int32) (p_c : Int32) (p_h : Int32) (p_t : Int32) (e_wa : Int64) (e_gb : Int64) (f_g : Nat → Int32) (f_b : Nat → Int32) (f_p : Nat → Int32) (f_bb : Nat → Int64) (f_as : Nat → Int32) (f_sk : Nat → Int64) (f_l : Nat → Option Nat) (f_sr : Nat → Int32) (f_cd : Nat → Int32) (f_hd : Nat → Int32) (f_pt : Nat → Int32) (n_sr : Nat) (n_cd : Nat) (n_hd : Nat) (h_e_tl : 0 ≤ e_tl.toInt ∧ e_tl.toInt ≤ 400) (h_e_wn : 0 ≤ e_wn.toInt ∧ e_wn.toInt ≤ 1) (h_e_g : 0 ≤ e_g.toInt ∧ e_g.toInt ≤ 6) (h_e_b : 0 ≤ e_b.toInt ∧ e_b.toInt ≤ 5) (h_e_p : 0 ≤ e_p.toInt ∧ e_p.toInt ≤ 8) (h_e_cl : 0 ≤ e_cl.toInt ∧ e_cl.toInt ≤ 12) (h_e_ov : 0 ≤ e_ov.toInt ∧ e_ov.toInt ≤ 1) (e_gk : gOK f_g e_g.toInt) (e_pk : gOK f_p e_p.toInt) (e_gi : inT e_gb f_g e_g.toInt) (e_f : 0 ≤ e_fo.toInt ∧ e_fo.toInt < e_lc.toInt ∧ e_lc.toInt ≤ 6) (e_a : f_l e_fo.toNatClampNeg = some a_lo) (e_hn : n_cd ≤ 400) (e_hs : ∀ j : Nat, j < n_sr → 0 ≤ (f_sr j).toInt ∧ (f_sr j).toInt ≤ (n_cd : Int)) (e_hk : ∀ j : Nat, j < n_cd → (f_cd j >>> (12 &&& 31)).toInt = 1 → (f_cd j &&& 4095).toInt < 8) (e_c : (e_cl.toInt : Int) ≤ (n_hd : Int) ∧ (e_cl.toInt + 1 : Int) ≤ (n_sr : Int)) : Met l yX11_lit (wsG yX11_lit cX11_lit 6 (some .int)) ({ frames := 15, cells := 0, slots := 0, locals := 582 }) (va_Pc [.ref a_o, .int p_c, .int p_h, .int p_t] (g5_P G [(a_o, (oc11 a_h a_im a_ke a_k a_wa a_th a_ha a_wk a_r a_x e_tl e_fd e_fpl a_wd e_wn a_rf e_lr)), (a_k, (oc5 a_h a_j a_pt e_ln e_se e_lh e_br e_we e_me e_ce e_wy e_ho e_ov)), (a_h, (oc1 e_wa e_le e_st e_fo e_lc a_l a_g a_b a_s a_p a_w e_gb a_bb)), (a_g, (oc6 6 5 a_gn e_g)), (a_gn, (arI G 30 f_g)), (a_b, (oc6 5 24 a_bn e_b)), (a_bn, (arI G 120 f_b)), (a_p, (oc6 8 5 a_pn e_p)), (a_pn, (arI G 40 f_p)), (a_bb, (arJ G 24 f_bb)), (a_j, (oc2 a_as a_sk)), (a_as, (arI G 8 f_as)), (a_sk, (arJ G 50 f_sk)), (a_l, (arW G 6 f_l)), (a_lo, (oc3 e_cl a_hd a_sr a_cd)), (a_sr, (arI G n_sr f_sr)), (a_cd, (arI G n_cd f_cd)), (a_hd, (arI G n_hd f_hd)), (a_pt, (arI G 200 f_pt))] sz)) (va_Qi (fun (r : Int32) (u : va_W) => (∃ (o_r : Int32) (o_ln : Int32) (o_se : Int32) (o_lh : Int32) (o_br : Int32) (o_we : Int32) (o_me : Int32) (o_ce : Int32) (o_wy : Int32) (o_ho : Int32) (o_ov : Int32) (o_pt : Nat → Int32) (o_as : Nat → Int32) (o_sk : Nat → Int64), (0 ≤ o_ov.toInt ∧ o_ov.toInt ≤ 1) ∧ (r = o_r) ∧ (u = [(a_o, (oc11 a_h a_im a_ke a_k a_wa a_th a_ha a_wk a_r a_x e_tl e_fd e_fpl a_wd e_wn a_rf e_lr)), (a_k, (oc5 a_h a_j a_pt o_ln o_se o_lh o_br o_we o_me o_ce o_wy o_ho o_ov)), (a_h, (oc1 e_wa e_le e_st e_fo e_lc a_l a_g a_b a_s a_p a_w e_gb a_bb)), (a_g, (oc6 6 5 a_gn e_g)), (a_gn, (arI G 30 f_g)), (a_b, (oc6 5 24 a_bn e_b)), (a_bn, (arI G 120 f_b)), (a_p, (oc6 8 5 a_pn e_p)), (a_pn, (arI G 40 f_p)), (a_bb, (arJ G 24 f_bb)), (a_j, (oc2 a_as a_sk)), (a_as, (arI G 8 o_as)), (a_sk, (arJ G 50 o_sk)), (a_l, (arW G 6 f_l)), (a_lo, (oc3 e_cl a_hd a_sr a_cd)), (a_sr, (arI G n_sr f_sr)), (a_cd, (arI G n_cd f_cd)), (a_hd, (arI G n_hd f_hd)), (a_pt, (arI G 200 o_pt))]))) (g5_B G (va_A [(a_o, (oc11 a_h a_im a_ke a_k a_wa a_th a_ha a_wk a_r a_x e_tl e_fd e_fpl a_wd e_wn a_rf e_lr)), (a_k, (oc5 a_h a_j a_pt e_ln e_se e_lh e_br e_we e_me e_ce e_wy e_ho e_ov)), (a_h, (oc1 e_wa e_le e_st e_fo e_lc a_l a_g a_b a_s a_p a_w e_gb a_bb)), (a_g, (oc6 6 5 a_gn e_g)), (a_gn, (arI G 30 f_g)), (a_b, (oc6 5 24 a_bn e_b)), (a_bn, (arI G 120 f_b)), (a_p, (oc6 8 5 a_pn e_p)), (a_pn, (arI G 40 f_p)), (a_bb, (arJ G 24 f_bb)), (a_j, (oc2 a_as a_sk)), (a_as, (arI G 8 f_as)), (a_sk, (arJ G 50 f_sk)), (a_l, (arW G 6 f_l)), (a_lo, (oc3 e_cl a_hd a_sr a_cd)), (a_sr, (arI G n_sr f_sr)), (a_cd, (arI G n_cd f_cd)), (a_hd, (arI G n_hd f_hd)), (a_pt, (arI G 200 f_pt))] sz)) (va_A [(a_o, (oc11 a_h a_im a_ke a_k a_wa a_th a_ha a_wk a_r a_x e_tl e_fd e_fpl a_wd e_wn a_rf e_lr)), (a_k, (oc5 a_h a_j a_pt e_ln e_se e_lh e_br e_we e_me e_ce e_wy e_ho e_ov)), (a_h, (oc1 e_wa e_le e_st e_fo e_lc a_l a_g a_b a_s a_p a_w e_gb a_bb)), (a_g, (oc6 6 5 a_gn e_g)), (a_gn, (arI G 30 f_g)), (a_b, (oc6 5 24 a_bn e_b)), (a_bn, (arI G 120 f_b)), (a_p, (oc6 8 5 a_pn e_p)), (a_pn, (arI G 40 f_p)), (a_bb, (arJ G 24 f_bb)), (a_j, (oc2 a_as a_sk)), (a_as, (arI G 8 f_as)), (a_sk, (arJ G 50 f_sk)), (a_l, (arW G 6 f_l)), (a_lo, (oc3 e_cl a_hd a_sr a_cd)), (a_sr, (arI G n_sr f_sr)), (a_cd, (arI G n_cd f_cd)), (a_hd, (arI G n_hd f_hd)), (a_pt, (arI G 200 f_pt))] sz)) 0 0 (va_A [(a_o, (oc11 a_h a_im a_ke a_k a_wa a_th a_ha a_wk a_r a_x e_tl e_fd e_fpl a_wd e_wn a_rf e_lr)), (a_k, (oc5 a_h a_j a_pt e_ln e_se e_lh e_br e_we e_me e_ce e_wy e_ho e_ov)), (a_h, (oc1 e_wa e_le e_st e_fo e_lc a_l a_g a_b a_s a_p a_w e_gb a_bb)), (a_g, (oc6 6 5 a_gn e_g)), (a_gn, (arI G 30 f_g)), (a_b, (oc6 5 24 a_bn e_b)), (a_bn, (arI G 120 f_b)), (a_p, (oc6 8 5 a_pn e_p)), (a_pn, (arI G 40 f_p)), (a_bb, (arJ G 24 f_bb)), (a_j, (oc2 a_as a_sk)), (a_as, (arI G 8 f_as)), (a_sk, (arJ G 50 f_sk)), (a_l, (arW G 6 f_l)), (a_lo, (oc3 e_cl a_hd a_sr a_cd)), (a_sr, (arI G n_sr f_sr)), (a_cd, (arI G n_cd f_cd)), (a_hd, (arI G n_hd f_hd)), (a_pt, (arI G 200 f_pt))] sz) := by
  refine Met.ofW (cc := cX11_lit) (maxL := 6) (ret := (some .int)) (by decide +kernel) rfl ?_
  intro p e s m args below meth c s₁ B hml hv
  obtain ⟨rfl, hsz, hP, hK, hD0, hN, hT⟩ := hv
  have hx := B.exec
  have hb := B.bytes
  have hr := B.returns
  have hts : ∀ w ∈ tblG, w.before _ s = true := fun w h => atoms_spec (ws := (wsG yX11_lit cX11_lit 6 (some .int))) B.pre w (List.mem_cons_of_mem _ h)
  have hown : s.vm.findClass RX11 = some m.cls := findClass_of_methodNamed B.named
  have hlocks := B.notSynchronized
  subst hsz
  have hD := hD0.self (sz := s.heap.size)
  generalize hAe : va_A [(a_o, (oc11 a_h a_im a_ke a_k a_wa a_th a_ha a_wk a_r a_x e_tl e_fd e_fpl a_wd e_wn a_rf e_lr)), (a_k, (oc5 a_h a_j a_pt e_ln e_se e_lh e_br e_we e_me e_ce e_wy e_ho e_ov)), (a_h, (oc1 e_wa e_le e_st e_fo e_lc a_l a_g a_b a_s a_p a_w e_gb a_bb)), (a_g, (oc6 6 5 a_gn e_g)), (a_gn, (arI G 30 f_g)), (a_b, (oc6 5 24 a_bn e_b)), (a_bn, (arI G 120 f_b)), (a_p, (oc6 8 5 a_pn e_p)), (a_pn, (arI G 40 f_p)), (a_bb, (arJ G 24 f_bb)), (a_j, (oc2 a_as a_sk)), (a_as, (arI G 8 f_as)), (a_sk, (arJ G 50 f_sk)), (a_l, (arW G 6 f_l)), (a_lo, (oc3 e_cl a_hd a_sr a_cd)), (a_sr, (arI G n_sr f_sr)), (a_cd, (arI G n_cd f_cd)), (a_hd, (arI G n_hd f_hd)), (a_pt, (arI G 200 f_pt))] s.heap.size = A at hD hT ⊢
  have hA : ∀ q : Nat, s.heap.size ≤ q → A q := fun q h => by rw [← hAe]; exact Or.inr h
  have hS : va_S A s.heap s.heap [] := va_S.rf
  replace hP : va_P G.1 vwCl [(a_o, (oc11 a_h a_im a_ke a_k a_wa a_th a_ha a_wk a_r a_x e_tl e_fd e_fpl a_wd e_wn a_rf e_lr)), (a_k, (oc5 a_h a_j a_pt e_ln e_se e_lh e_br e_we e_me e_ce e_wy e_ho e_ov)), (a_h, (oc1 e_wa e_le e_st e_fo e_lc a_l a_g a_b a_s a_p a_w e_gb a_bb)), (a_g, (oc6 6 5 a_gn e_g)), (a_gn, (arI G 30 f_g)), (a_b, (oc6 5 24 a_bn e_b)), (a_bn, (arI G 120 f_b)), (a_p, (oc6 8 5 a_pn e_p)), (a_pn, (arI G 40 f_p)), (a_bb, (arJ G 24 f_bb)), (a_j, (oc2 a_as a_sk)), (a_as, (arI G 8 f_as)), (a_sk, (arJ G 50 f_sk)), (a_l, (arW G 6 f_l)), (a_lo, (oc3 e_cl a_hd a_sr a_cd)), (a_sr, (arI G n_sr f_sr)), (a_cd, (arI G n_cd f_cd)), (a_hd, (arI G n_hd f_hd)), (a_pt, (arI G 200 f_pt))] s.heap := hP
  have hl := lv_entry ([.ref a_o, .int p_c, .int p_h, .int p_t]) (n := 6) (Nat.le_of_ble_eq_true rfl)
  rw [lg_entry_eq]
  generalize (lg_sl ([.ref a_o, .int p_c, .int p_h, .int p_t]) ++ List.replicate (6 - (lg_sl ([.ref a_o, .int p_c, .int p_h, .int p_t])).length) Slot.unset).toArray = ls at hl ⊢
  replace hl : lv_has ls 6 [(0, .ref a_o), (1, .int p_c), (2, .int p_h), (3, .int p_t)] := hl
  refine lv_iload_n hx hb dX11_lit_0 rfl (lv_at hl 1 rfl) ?_
  obtain ⟨hPc, hDc, hFc⟩ := g5_sub3 (wc := []) hP hD hS hA [] (by decide +kernel) rfl
  refine va_calli (va_runS (As := [.int p_c]) (rest := []) ⟨hx, hb, hml, hown, hts⟩ (x_isCell l G s.heap.size p_c) (va_cwS 1 hts gS_X11_97 rfl rfl rfl hs_X11_isCell ⟨Nat.le_of_ble_eq_true rfl, Nat.le_of_ble_eq_true rfl⟩) (g5_preS hPc hK hDc hN hT hS hFc) rfl rfl hl.1 rfl (lv_room (Nat.le_of_ble_eq_true rfl)) dX11_lit_1 ⟨Nat.le_of_ble_eq_true rfl, Nat.le_of_ble_eq_true rfl⟩) hS (fun q _ h => hFc q h) hFc (fun r u t H locs ht hvm hw hB hz1 hk1 hS => ?_)
  obtain ⟨hP1, hD1⟩ := hB
  have hP1 := g5_ht ht hP1
  rcases hw with ⟨(i_1 : 0 ≤ p_c.toInt ∧ p_c.toInt ≤ 63), rfl, rfl⟩ | ⟨rfl, rfl⟩
  ·
    have hJ9 := g5_same hP hk1
    clear hP hPc hDc hFc ht hvm hz1 hk1 hP1 hD1
    have hP := hJ9
    clear hJ9
    refine lv_if_eq (tgt := 21) hx hb dX11_lit_4 (by decide +kernel) (fun c_2 => ?_) (fun c_2 => ?_)
    ·
      exact absurd c_2 (by decide +kernel)
    ·
      refine lv_iload_n hx hb dX11_lit_7 rfl (lv_at hl 2 rfl) ?_
      obtain ⟨hPc, hDc, hFc⟩ := g5_sub3 (wc := []) hP hD hS hA [] (by decide +kernel) rfl
      refine va_calli (va_runS (As := [.int p_h]) (rest := []) ⟨hx, hb, hml, hown, hts⟩ (x_isHour l G H.size p_h) (va_cwS 1 hts gS_X11_127 rfl rfl rfl hs_X11_isHour ⟨Nat.le_of_ble_eq_true rfl, Nat.le_of_ble_eq_true rfl⟩) (g5_preS hPc hK hDc hN hT hS hFc) rfl rfl hl.1 rfl (lv_room (Nat.le_of_ble_eq_true rfl)) dX11_lit_8 ⟨Nat.le_of_ble_eq_true rfl, Nat.le_of_ble_eq_true rfl⟩) hS (fun q _ h => hFc q h) hFc (fun r u t H locs ht hvm hw hB hz1 hk1 hS => ?_)
      obtain ⟨hP1, hD1⟩ := hB
      have hP1 := g5_ht ht hP1
      rcases hw with ⟨(i_3 : 0 ≤ p_h.toInt ∧ p_h.toInt ≤ 23), rfl, rfl⟩ | ⟨rfl, rfl⟩
      ·
        have hJ9 := g5_same hP hk1
        clear hP hPc hDc hFc ht hvm hz1 hk1 hP1 hD1
        have hP := hJ9
        clear hJ9
        refine lv_if_eq (tgt := 21) hx hb dX11_lit_11 (by decide +kernel) (fun c_4 => ?_) (fun c_4 => ?_)
        ·
          exact absurd c_4 (by decide +kernel)
        ·
          refine lv_iload_n hx hb dX11_lit_14 rfl (lv_at hl 3 rfl) ?_
          obtain ⟨hPc, hDc, hFc⟩ := g5_sub3 (wc := []) hP hD hS hA [] (by decide +kernel) rfl
          refine va_calli (va_runS (As := [.int p_t]) (rest := []) ⟨hx, hb, hml, hown, hts⟩ (x_isCellOrNone l G H.size p_t) (va_cwS 1 hts gS_X11_241 rfl rfl rfl hs_X11_isCellOrNone ⟨Nat.le_of_ble_eq_true rfl, Nat.le_of_ble_eq_true rfl⟩) (g5_preS hPc hK hDc hN hT hS hFc) rfl rfl hl.1 rfl (lv_room (Nat.le_of_ble_eq_true rfl)) dX11_lit_15 ⟨Nat.le_of_ble_eq_true rfl, Nat.le_of_ble_eq_true rfl⟩) hS (fun q _ h => hFc q h) hFc (fun r u t H locs ht hvm hw hB hz1 hk1 hS => ?_)
          obtain ⟨hP1, hD1⟩ := hB
          have hP1 := g5_ht ht hP1
          rcases hw with ⟨(i_5 : (-1) ≤ p_t.toInt ∧ p_t.toInt ≤ 63), rfl, rfl⟩ | ⟨rfl, rfl⟩
          ·
            have hJ9 := g5_same hP hk1
            clear hP hPc hDc hFc ht hvm hz1 hk1 hP1 hD1
            have hP := hJ9
            clear hJ9
            refine lv_if_ne (tgt := 23) hx hb dX11_lit_18 (by decide +kernel) (fun c_6 => ?_) (fun c_6 => ?_)
            ·
              refine lv_aload_n hx hb dX11_lit_23 rfl (lv_at hl 0 rfl) ?_
              refine va_get (D := G.1) (ci := 11) (v := .ref a_k) (C := RX11) (T := TX11) (N := 17) hx hb hts inG_X11 hown hK hP 0 rfl rfl 3 (by decide +kernel) (hts _ fl_X11_29) (fun _ h9 => h9) rfl dX11_lit_24 ?_
              refine lv_iload_n hx hb dX11_lit_27 rfl (lv_at hl 1 rfl) ?_
              refine lv_iload_n hx hb dX11_lit_28 rfl (lv_at hl 2 rfl) ?_
              refine W.eq (g2 := F0 m 29 ls [.int p_h, .int p_c, .ref a_k]) rfl ?_
              obtain ⟨hPc, hDc, hFc⟩ := g5_sub3 (wc := [(a_k, (oc5 a_h a_j a_pt e_ln e_se e_lh e_br e_we e_me e_ce e_wy e_ho e_ov)), (a_h, (oc1 e_wa e_le e_st e_fo e_lc a_l a_g a_b a_s a_p a_w e_gb a_bb)), (a_g, (oc6 6 5 a_gn e_g)), (a_gn, (arI G 30 f_g)), (a_b, (oc6 5 24 a_bn e_b)), (a_bn, (arI G 120 f_b)), (a_p, (oc6 8 5 a_pn e_p)), (a_pn, (arI G 40 f_p)), (a_bb, (arJ G 24 f_bb)), (a_j, (oc2 a_as a_sk)), (a_as, (arI G 8 f_as)), (a_sk, (arJ G 50 f_sk)), (a_l, (arW G 6 f_l)), (a_lo, (oc3 e_cl a_hd a_sr a_cd)), (a_sr, (arI G n_sr f_sr)), (a_cd, (arI G n_cd f_cd)), (a_hd, (arI G n_hd f_hd)), (a_pt, (arI G 200 f_pt))]) hP hD hS hA [1, 2, 3, 4, 5, 6, 7, 8, 9, 10, 11, 12, 13, 14, 15, 16, 17, 18] (by decide +kernel) rfl
              refine va_calll (va_runV (As := [.int p_c, .int p_h]) (rest := []) ⟨hx, hb, hml, hown, hts⟩ (s_cellsFromL l G a_k a_h a_g a_gn a_b a_bn a_p a_pn a_bb a_j a_as a_sk a_l a_lo a_sr a_cd a_hd a_pt a_s a_w H.size e_le e_st e_fo e_lc e_g e_b e_p e_cl e_ln e_se e_lh e_br e_we e_me e_ce e_wy e_ho e_ov p_c p_h e_wa e_gb f_g f_b f_p f_bb f_as f_sk f_l f_sr f_cd f_hd f_pt n_sr n_cd n_hd h_e_g h_e_b h_e_p h_e_cl h_e_ov (e_gk) (e_pk) (e_gi) (e_f) (e_a) (e_hn) (e_hs) (e_hk) (e_c)) (cwV 2 hts gV_X11_244 rfl rfl rfl hv_X5_cellsFrom ⟨Nat.le_of_ble_eq_true rfl, Nat.le_of_ble_eq_true rfl⟩) (g5_preV hPc hK hDc hN hT hS hFc (ci := 5) (q0 := 0) rfl rfl) rfl rfl hl.1 rfl (lv_room (Nat.le_of_ble_eq_true rfl)) dX11_lit_29 ⟨Nat.le_of_ble_eq_true rfl, Nat.le_of_ble_eq_true rfl⟩) hS (fun q _ h => hFc q h) hFc (fun r u t H locs ht hvm hw hB hz1 hk1 hS => ?_)
              obtain ⟨hP1, hD1⟩ := hB
              have hP1 := g5_ht ht hP1
              obtain ⟨z8, z9, z10, z11, z12, z13, z14, z15, z16, z17, z18, z19, z20, z21, (i_7 : 0 ≤ z18.toInt ∧ z18.toInt ≤ 1), y22, rfl⟩ := hw
              have hJ9 := va_join (wr := [(a_o, (oc11 a_h a_im a_ke a_k a_wa a_th a_ha a_wk a_r a_x e_tl e_fd e_fpl a_wd e_wn a_rf e_lr))]) hP hD [1, 2, 3, 4, 5, 6, 7, 8, 9, 10, 11, 12, 13, 14, 15, 16, 17, 18] [0] rfl rfl (by decide +kernel) (by decide +kernel) hk1 hFc hP1 hD1
              clear hP hD hPc hDc hFc ht hvm hz1 hk1 hP1 hD1
              obtain ⟨hP, hD⟩ := hJ9
              refine g5_rs [(a_o, (oc11 a_h a_im a_ke a_k a_wa a_th a_ha a_wk a_r a_x e_tl e_fd e_fpl a_wd e_wn a_rf e_lr)), (a_k, (oc5 a_h a_j a_pt z9 z10 z11 z12 z13 z14 z15 z16 z17 z18)), (a_h, (oc1 e_wa e_le e_st e_fo e_lc a_l a_g a_b a_s a_p a_w e_gb a_bb)), (a_g, (oc6 6 5 a_gn e_g)), (a_gn, (arI G 30 f_g)), (a_b, (oc6 5 24 a_bn e_b)), (a_bn, (arI G 120 f_b)), (a_p, (oc6 8 5 a_pn e_p)), (a_pn, (arI G 40 f_p)), (a_bb, (arJ G 24 f_bb)), (a_j, (oc2 a_as a_sk)), (a_as, (arI G 8 z20)), (a_sk, (arJ G 50 z21)), (a_l, (arW G 6 f_l)), (a_lo, (oc3 e_cl a_hd a_sr a_cd)), (a_sr, (arI G n_sr f_sr)), (a_cd, (arI G n_cd f_cd)), (a_hd, (arI G n_hd f_hd)), (a_pt, (arI G 200 z19))] hP hD ?_
              clear hP hD
              intro hP hD
              refine g5_tl (v := z8) y22 ?_
              refine lv_lstore (lv' := [(4, .long z8), (0, .ref a_o), (1, .int p_c), (2, .int p_h), (3, .int p_t)]) hx hb dX11_lit_32 hl (by decide +kernel) rfl ?_
              clear hl
              intro ls hl
              refine lv_iload_n hx hb dX11_lit_34 rfl (lv_at hl 4 rfl) ?_
              refine lv_iconst (v := (-1)) hx hb dX11_lit_35 (by decide +kernel) ?_
              refine lv_icmp_ne (tgt := 45) hx hb dX11_lit_36 (by decide +kernel) (fun c_23 => ?_) (fun c_23 => ?_)
              ·
                have n_23 : gNe (p_t.toInt) ((-1)) := g5_ne (a := p_t.toInt) (b := (-1)) rfl (by decide +kernel) c_23
                have i_23 : p_t.toInt ≥ 0 := by have z := g5_ne (a := p_t.toInt) (b := (-1)) (by rfl) (by decide +kernel) c_23; omega
                refine lv_lload hx hb dX11_lit_45 (lv_at hl 0 rfl) ?_
                refine lv_iload_n hx hb dX11_lit_47 rfl (lv_at hl 4 rfl) ?_
                obtain ⟨hPc, hDc, hFc⟩ := g5_sub3 (wc := []) hP hD hS hA [] (by decide +kernel) rfl
                refine va_calli (va_runS (As := [.long z8, .int p_t]) (rest := []) ⟨hx, hb, hml, hown, hts⟩ (k_isOn l G H.size p_t z8 ⟨by omega, by omega⟩) (va_cwS 2 hts gS_X11_115 rfl rfl rfl hs_X11_isOn ⟨Nat.le_of_ble_eq_true rfl, Nat.le_of_ble_eq_true rfl⟩) (g5_preS hPc hK hDc hN hT hS hFc) rfl rfl hl.1 rfl (lv_room (Nat.le_of_ble_eq_true rfl)) dX11_lit_48 ⟨Nat.le_of_ble_eq_true rfl, Nat.le_of_ble_eq_true rfl⟩) hS (fun q _ h => hFc q h) hFc (fun r u t H locs ht hvm hw hB hz1 hk1 hS => ?_)
                obtain ⟨hP1, hD1⟩ := hB
                have hP1 := g5_ht ht hP1
                rcases hw with ⟨(i_24 : onB z8 p_t.toInt = false), rfl, rfl⟩ | ⟨(i_25 : onB z8 p_t.toInt = true), rfl, rfl⟩
                ·
                  have hJ9 := g5_same hP hk1
                  clear hP hPc hDc hFc ht hvm hz1 hk1 hP1 hD1
                  have hP := hJ9
                  clear hJ9
                  refine lv_if_eq (tgt := 58) hx hb dX11_lit_51 (by decide +kernel) (fun c_26 => ?_) (fun c_26 => ?_)
                  ·
                    refine lv_iconst (v := 0) hx hb dX11_lit_58 (by decide +kernel) ?_
                    exact W.iret (v := 0) hx hb hr (fun t ht hW => ⟨⟨0, [(a_o, (oc11 a_h a_im a_ke a_k a_wa a_th a_ha a_wk a_r a_x e_tl e_fd e_fpl a_wd e_wn a_rf e_lr)), (a_k, (oc5 a_h a_j a_pt z9 z10 z11 z12 z13 z14 z15 z16 z17 z18)), (a_h, (oc1 e_wa e_le e_st e_fo e_lc a_l a_g a_b a_s a_p a_w e_gb a_bb)), (a_g, (oc6 6 5 a_gn e_g)), (a_gn, (arI G 30 f_g)), (a_b, (oc6 5 24 a_bn e_b)), (a_bn, (arI G 120 f_b)), (a_p, (oc6 8 5 a_pn e_p)), (a_pn, (arI G 40 f_p)), (a_bb, (arJ G 24 f_bb)), (a_j, (oc2 a_as a_sk)), (a_as, (arI G 8 z20)), (a_sk, (arJ G 50 z21)), (a_l, (arW G 6 f_l)), (a_lo, (oc3 e_cl a_hd a_sr a_cd)), (a_sr, (arI G n_sr f_sr)), (a_cd, (arI G n_cd f_cd)), (a_hd, (arI G n_hd f_hd)), (a_pt, (arI G 200 z19))], rfl, ⟨0, z9, z10, z11, z12, z13, z14, z15, z16, z17, z18, z19, z20, z21, i_7, rfl, rfl⟩, by rw [ht]; exact hP.sub [0, 1, 2, 3, 4, 5, 6, 7, 8, 9, 10, 11, 12, 13, 14, 15, 16, 17, 18] rfl, hD.sub [0, 1, 2, 3, 4, 5, 6, 7, 8, 9, 10, 11, 12, 13, 14, 15, 16, 17, 18] (by decide +kernel) rfl⟩, hS.F ht⟩) hS.2.2 dX11_lit_59
                  ·
                    exact absurd c_26 (by decide +kernel)
                ·
                  have hJ9 := g5_same hP hk1
                  clear hP hPc hDc hFc ht hvm hz1 hk1 hP1 hD1
                  have hP := hJ9
                  clear hJ9
                  refine lv_if_eq (tgt := 58) hx hb dX11_lit_51 (by decide +kernel) (fun c_27 => ?_) (fun c_27 => ?_)
                  ·
                    exact absurd c_27 (by decide +kernel)
                  ·
                    refine lv_iconst (v := 1) hx hb dX11_lit_54 (by decide +kernel) ?_
                    refine lv_goto (tgt := 59) hx hb dX11_lit_55 (by decide +kernel) ?_
                    exact W.iret (v := 1) hx hb hr (fun t ht hW => ⟨⟨1, [(a_o, (oc11 a_h a_im a_ke a_k a_wa a_th a_ha a_wk a_r a_x e_tl e_fd e_fpl a_wd e_wn a_rf e_lr)), (a_k, (oc5 a_h a_j a_pt z9 z10 z11 z12 z13 z14 z15 z16 z17 z18)), (a_h, (oc1 e_wa e_le e_st e_fo e_lc a_l a_g a_b a_s a_p a_w e_gb a_bb)), (a_g, (oc6 6 5 a_gn e_g)), (a_gn, (arI G 30 f_g)), (a_b, (oc6 5 24 a_bn e_b)), (a_bn, (arI G 120 f_b)), (a_p, (oc6 8 5 a_pn e_p)), (a_pn, (arI G 40 f_p)), (a_bb, (arJ G 24 f_bb)), (a_j, (oc2 a_as a_sk)), (a_as, (arI G 8 z20)), (a_sk, (arJ G 50 z21)), (a_l, (arW G 6 f_l)), (a_lo, (oc3 e_cl a_hd a_sr a_cd)), (a_sr, (arI G n_sr f_sr)), (a_cd, (arI G n_cd f_cd)), (a_hd, (arI G n_hd f_hd)), (a_pt, (arI G 200 z19))], rfl, ⟨1, z9, z10, z11, z12, z13, z14, z15, z16, z17, z18, z19, z20, z21, i_7, rfl, rfl⟩, by rw [ht]; exact hP.sub [0, 1, 2, 3, 4, 5, 6, 7, 8, 9, 10, 11, 12, 13, 14, 15, 16, 17, 18] rfl, hD.sub [0, 1, 2, 3, 4, 5, 6, 7, 8, 9, 10, 11, 12, 13, 14, 15, 16, 17, 18] (by decide +kernel) rfl⟩, hS.F ht⟩) hS.2.2 dX11_lit_59
              ·
                have i_23 : p_t.toInt = (-1) := g5_neN (a := p_t.toInt) (b := (-1)) rfl (by decide +kernel) c_23
                refine lv_lload hx hb dX11_lit_39 (lv_at hl 0 rfl) ?_
                obtain ⟨hPc, hDc, hFc⟩ := g5_sub3 (wc := []) hP hD hS hA [] (by decide +kernel) rfl
                refine va_calli (va_runS (As := [.long z8]) (rest := []) ⟨hx, hb, hml, hown, hts⟩ (j_bitCountL l G H.size z8) (va_cwS 1 hts gS_X11_248 rfl rfl rfl hs_J13_bitCount_95d88 ⟨Nat.le_of_ble_eq_true rfl, Nat.le_of_ble_eq_true rfl⟩) (g5_preS hPc hK hDc hN hT hS hFc) rfl rfl hl.1 rfl (lv_room (Nat.le_of_ble_eq_true rfl)) dX11_lit_41 ⟨Nat.le_of_ble_eq_true rfl, Nat.le_of_ble_eq_true rfl⟩) hS (fun q _ h => hFc q h) hFc (fun r u t H locs ht hvm hw hB hz1 hk1 hS => ?_)
                obtain ⟨hP1, hD1⟩ := hB
                have hP1 := g5_ht ht hP1
                obtain ⟨z28, y29, rfl⟩ := hw
                have hJ9 := g5_same hP hk1
                clear hP hPc hDc hFc ht hvm hz1 hk1 hP1 hD1
                have hP := hJ9
                clear hJ9
                refine g5_ti (v := z28) y29 ?_
                exact W.iret (v := z28) hx hb hr (fun t ht hW => ⟨⟨z28, [(a_o, (oc11 a_h a_im a_ke a_k a_wa a_th a_ha a_wk a_r a_x e_tl e_fd e_fpl a_wd e_wn a_rf e_lr)), (a_k, (oc5 a_h a_j a_pt z9 z10 z11 z12 z13 z14 z15 z16 z17 z18)), (a_h, (oc1 e_wa e_le e_st e_fo e_lc a_l a_g a_b a_s a_p a_w e_gb a_bb)), (a_g, (oc6 6 5 a_gn e_g)), (a_gn, (arI G 30 f_g)), (a_b, (oc6 5 24 a_bn e_b)), (a_bn, (arI G 120 f_b)), (a_p, (oc6 8 5 a_pn e_p)), (a_pn, (arI G 40 f_p)), (a_bb, (arJ G 24 f_bb)), (a_j, (oc2 a_as a_sk)), (a_as, (arI G 8 z20)), (a_sk, (arJ G 50 z21)), (a_l, (arW G 6 f_l)), (a_lo, (oc3 e_cl a_hd a_sr a_cd)), (a_sr, (arI G n_sr f_sr)), (a_cd, (arI G n_cd f_cd)), (a_hd, (arI G n_hd f_hd)), (a_pt, (arI G 200 z19))], rfl, ⟨z28, z9, z10, z11, z12, z13, z14, z15, z16, z17, z18, z19, z20, z21, i_7, rfl, rfl⟩, by rw [ht]; exact hP.sub [0, 1, 2, 3, 4, 5, 6, 7, 8, 9, 10, 11, 12, 13, 14, 15, 16, 17, 18] rfl, hD.sub [0, 1, 2, 3, 4, 5, 6, 7, 8, 9, 10, 11, 12, 13, 14, 15, 16, 17, 18] (by decide +kernel) rfl⟩, hS.F ht⟩) hS.2.2 dX11_lit_44
            ·
              exact absurd c_6 (by decide +kernel)
          ·
            have hJ9 := g5_same hP hk1
            clear hP hPc hDc hFc ht hvm hz1 hk1 hP1 hD1
            have hP := hJ9
            clear hJ9
            refine lv_if_ne (tgt := 23) hx hb dX11_lit_18 (by decide +kernel) (fun c_30 => ?_) (fun c_30 => ?_)
            ·
              exact absurd c_30 (by decide +kernel)
            ·
              refine lv_iconst (v := (-1)) hx hb dX11_lit_21 (by decide +kernel) ?_
              exact W.iret (v := (-1)) hx hb hr (fun t ht hW => ⟨⟨(-1), [(a_o, (oc11 a_h a_im a_ke a_k a_wa a_th a_ha a_wk a_r a_x e_tl e_fd e_fpl a_wd e_wn a_rf e_lr)), (a_k, (oc5 a_h a_j a_pt e_ln e_se e_lh e_br e_we e_me e_ce e_wy e_ho e_ov)), (a_h, (oc1 e_wa e_le e_st e_fo e_lc a_l a_g a_b a_s a_p a_w e_gb a_bb)), (a_g, (oc6 6 5 a_gn e_g)), (a_gn, (arI G 30 f_g)), (a_b, (oc6 5 24 a_bn e_b)), (a_bn, (arI G 120 f_b)), (a_p, (oc6 8 5 a_pn e_p)), (a_pn, (arI G 40 f_p)), (a_bb, (arJ G 24 f_bb)), (a_j, (oc2 a_as a_sk)), (a_as, (arI G 8 f_as)), (a_sk, (arJ G 50 f_sk)), (a_l, (arW G 6 f_l)), (a_lo, (oc3 e_cl a_hd a_sr a_cd)), (a_sr, (arI G n_sr f_sr)), (a_cd, (arI G n_cd f_cd)), (a_hd, (arI G n_hd f_hd)), (a_pt, (arI G 200 f_pt))], rfl, ⟨(-1), e_ln, e_se, e_lh, e_br, e_we, e_me, e_ce, e_wy, e_ho, e_ov, f_pt, f_as, f_sk, h_e_ov, rfl, rfl⟩, by rw [ht]; exact hP.sub [0, 1, 2, 3, 4, 5, 6, 7, 8, 9, 10, 11, 12, 13, 14, 15, 16, 17, 18] rfl, hD.sub [0, 1, 2, 3, 4, 5, 6, 7, 8, 9, 10, 11, 12, 13, 14, 15, 16, 17, 18] (by decide +kernel) rfl⟩, hS.F ht⟩) hS.2.2 dX11_lit_22
      ·
        have hJ9 := g5_same hP hk1
        clear hP hPc hDc hFc ht hvm hz1 hk1 hP1 hD1
        have hP := hJ9
        clear hJ9
        refine lv_if_eq (tgt := 21) hx hb dX11_lit_11 (by decide +kernel) (fun c_31 => ?_) (fun c_31 => ?_)
        ·
          refine lv_iconst (v := (-1)) hx hb dX11_lit_21 (by decide +kernel) ?_
          exact W.iret (v := (-1)) hx hb hr (fun t ht hW => ⟨⟨(-1), [(a_o, (oc11 a_h a_im a_ke a_k a_wa a_th a_ha a_wk a_r a_x e_tl e_fd e_fpl a_wd e_wn a_rf e_lr)), (a_k, (oc5 a_h a_j a_pt e_ln e_se e_lh e_br e_we e_me e_ce e_wy e_ho e_ov)), (a_h, (oc1 e_wa e_le e_st e_fo e_lc a_l a_g a_b a_s a_p a_w e_gb a_bb)), (a_g, (oc6 6 5 a_gn e_g)), (a_gn, (arI G 30 f_g)), (a_b, (oc6 5 24 a_bn e_b)), (a_bn, (arI G 120 f_b)), (a_p, (oc6 8 5 a_pn e_p)), (a_pn, (arI G 40 f_p)), (a_bb, (arJ G 24 f_bb)), (a_j, (oc2 a_as a_sk)), (a_as, (arI G 8 f_as)), (a_sk, (arJ G 50 f_sk)), (a_l, (arW G 6 f_l)), (a_lo, (oc3 e_cl a_hd a_sr a_cd)), (a_sr, (arI G n_sr f_sr)), (a_cd, (arI G n_cd f_cd)), (a_hd, (arI G n_hd f_hd)), (a_pt, (arI G 200 f_pt))], rfl, ⟨(-1), e_ln, e_se, e_lh, e_br, e_we, e_me, e_ce, e_wy, e_ho, e_ov, f_pt, f_as, f_sk, h_e_ov, rfl, rfl⟩, by rw [ht]; exact hP.sub [0, 1, 2, 3, 4, 5, 6, 7, 8, 9, 10, 11, 12, 13, 14, 15, 16, 17, 18] rfl, hD.sub [0, 1, 2, 3, 4, 5, 6, 7, 8, 9, 10, 11, 12, 13, 14, 15, 16, 17, 18] (by decide +kernel) rfl⟩, hS.F ht⟩) hS.2.2 dX11_lit_22
        ·
          exact absurd c_31 (by decide +kernel)
  ·
    have hJ9 := g5_same hP hk1
    clear hP hPc hDc hFc ht hvm hz1 hk1 hP1 hD1
    have hP := hJ9
    clear hJ9
    refine lv_if_eq (tgt := 21) hx hb dX11_lit_4 (by decide +kernel) (fun c_32 => ?_) (fun c_32 => ?_)
    ·
      refine lv_iconst (v := (-1)) hx hb dX11_lit_21 (by decide +kernel) ?_
      exact W.iret (v := (-1)) hx hb hr (fun t ht hW => ⟨⟨(-1), [(a_o, (oc11 a_h a_im a_ke a_k a_wa a_th a_ha a_wk a_r a_x e_tl e_fd e_fpl a_wd e_wn a_rf e_lr)), (a_k, (oc5 a_h a_j a_pt e_ln e_se e_lh e_br e_we e_me e_ce e_wy e_ho e_ov)), (a_h, (oc1 e_wa e_le e_st e_fo e_lc a_l a_g a_b a_s a_p a_w e_gb a_bb)), (a_g, (oc6 6 5 a_gn e_g)), (a_gn, (arI G 30 f_g)), (a_b, (oc6 5 24 a_bn e_b)), (a_bn, (arI G 120 f_b)), (a_p, (oc6 8 5 a_pn e_p)), (a_pn, (arI G 40 f_p)), (a_bb, (arJ G 24 f_bb)), (a_j, (oc2 a_as a_sk)), (a_as, (arI G 8 f_as)), (a_sk, (arJ G 50 f_sk)), (a_l, (arW G 6 f_l)), (a_lo, (oc3 e_cl a_hd a_sr a_cd)), (a_sr, (arI G n_sr f_sr)), (a_cd, (arI G n_cd f_cd)), (a_hd, (arI G n_hd f_hd)), (a_pt, (arI G 200 f_pt))], rfl, ⟨(-1), e_ln, e_se, e_lh, e_br, e_we, e_me, e_ce, e_wy, e_ho, e_ov, f_pt, f_as, f_sk, h_e_ov, rfl, rfl⟩, by rw [ht]; exact hP.sub [0, 1, 2, 3, 4, 5, 6, 7, 8, 9, 10, 11, 12, 13, 14, 15, 16, 17, 18] rfl, hD.sub [0, 1, 2, 3, 4, 5, 6, 7, 8, 9, 10, 11, 12, 13, 14, 15, 16, 17, 18] (by decide +kernel) rfl⟩, hS.F ht⟩) hS.2.2 dX11_lit_22
    ·
      exact absurd c_32 (by decide +kernel)
set_option maxHeartbeats 4000000 in
set_option maxRecDepth 100000 in
theorem x_unseenL (l : Launch) (G : g5_G) (a_o a_k a_h a_g a_gn a_b a_bn a_p a_pn a_bb a_j a_as a_sk a_l a_lo a_sr a_cd a_hd a_pt a_wa a_bo a_im a_ke a_th a_ha a_wk a_r a_x a_wd a_rf a_s a_w : Nat) (sz : Nat) (e_tl : Int32) (e_fd : Int32) (e_fpl : Int32) (e_wn : Int32) (e_lr : Int32) (e_le : Int32) (e_st : Int32) (e_fo : Int32) (e_lc : Int32) (e_g : Int32) (e_b : Int32) (e_p : Int32) (e_cl : Int32) (e_ln : Int32) (e_se : Int32) (e_lh : Int32) (e_br : Int32) (e_we : Int32) (e_me : Int32) (e_ce : Int32) (e_wy : Int32) (e_ho : Int32) (e_ov : Int32) (p_c : Int32) (e_wa : Int64) (e_gb : Int64) (f_g : Nat → Int32) (f_b : Nat → Int32) (f_p : Nat → Int32) (f_bb : Nat → Int64) (f_as : Nat → Int32) (f_sk : Nat → Int64) (f_l : Nat → Option Nat) (f_sr : Nat → Int32) (f_cd : Nat → Int32) (f_hd : Nat → Int32) (f_pt : Nat → Int32) (f_bo : Nat → Int64) (n_sr : Nat) (n_cd : Nat) (n_hd : Nat) (h_e_tl : 0 ≤ e_tl.toInt ∧ e_tl.toInt ≤ 400) (h_e_wn : 0 ≤ e_wn.toInt ∧ e_wn.toInt ≤ 1) (h_e_g : 0 ≤ e_g.toInt ∧ e_g.toInt ≤ 6) (h_e_b : 0 ≤ e_b.toInt ∧ e_b.toInt ≤ 5) (h_e_p : 0 ≤ e_p.toInt ∧ e_p.toInt ≤ 8) (h_e_cl : 0 ≤ e_cl.toInt ∧ e_cl.toInt ≤ 12) (h_e_ov : 0 ≤ e_ov.toInt ∧ e_ov.toInt ≤ 1) (e_gk : gOK f_g e_g.toInt) (e_pk : gOK f_p e_p.toInt) (e_gi : inT e_gb f_g e_g.toInt) (e_f : 0 ≤ e_fo.toInt ∧ e_fo.toInt < e_lc.toInt ∧ e_lc.toInt ≤ 6) (e_a : f_l e_fo.toNatClampNeg = some a_lo) (e_hn : n_cd ≤ 400) (e_hs : ∀ j : Nat, j < n_sr → 0 ≤ (f_sr j).toInt ∧ (f_sr j).toInt ≤ (n_cd : Int)) (e_hk : ∀ j : Nat, j < n_cd → (f_cd j >>> (12 &&& 31)).toInt = 1 → (f_cd j &&& 4095).toInt < 8) (e_c : (e_cl.toInt : Int) ≤ (n_hd : Int) ∧ (e_cl.toInt + 1 : Int) ≤ (n_sr : Int)) : Met l yX11_unseen (wsG yX11_unseen cX11_unseen 4 (some .int)) ({ frames := 15, cells := 0, slots := 0, locals := 580 }) (va_Pc [.ref a_o, .int p_c] (g5_P G [(a_o, (oc11 a_h a_im a_ke a_k a_wa a_th a_ha a_wk a_r a_x e_tl e_fd e_fpl a_wd e_wn a_rf e_lr)), (a_k, (oc5 a_h a_j a_pt e_ln e_se e_lh e_br e_we e_me e_ce e_wy e_ho e_ov)), (a_h, (oc1 e_wa e_le e_st e_fo e_lc a_l a_g a_b a_s a_p a_w e_gb a_bb)), (a_g, (oc6 6 5 a_gn e_g)), (a_gn, (arI G 30 f_g)), (a_b, (oc6 5 24 a_bn e_b)), (a_bn, (arI G 120 f_b)), (a_p, (oc6 8 5 a_pn e_p)), (a_pn, (arI G 40 f_p)), (a_bb, (arJ G 24 f_bb)), (a_j, (oc2 a_as a_sk)), (a_as, (arI G 8 f_as)), (a_sk, (arJ G 50 f_sk)), (a_l, (arW G 6 f_l)), (a_lo, (oc3 e_cl a_hd a_sr a_cd)), (a_sr, (arI G n_sr f_sr)), (a_cd, (arI G n_cd f_cd)), (a_hd, (arI G n_hd f_hd)), (a_pt, (arI G 200 f_pt)), (a_wa, (oc10 a_h a_k a_bo)), (a_bo, (arJ G 24 f_bo))] sz)) (va_Qi (fun (r : Int32) (u : va_W) => (∃ (o_r : Int32) (o_ln : Int32) (o_se : Int32) (o_lh : Int32) (o_br : Int32) (o_we : Int32) (o_me : Int32) (o_ce : Int32) (o_wy : Int32) (o_ho : Int32) (o_ov : Int32) (o_pt : Nat → Int32) (o_as : Nat → Int32) (o_sk : Nat → Int64) (o_bo : Nat → Int64), (0 ≤ o_ov.toInt ∧ o_ov.toInt ≤ 1) ∧ (r = o_r) ∧ (u = [(a_o, (oc11 a_h a_im a_ke a_k a_wa a_th a_ha a_wk a_r a_x e_tl e_fd e_fpl a_wd e_wn a_rf e_lr)), (a_k, (oc5 a_h a_j a_pt o_ln o_se o_lh o_br o_we o_me o_ce o_wy o_ho o_ov)), (a_h, (oc1 e_wa e_le e_st e_fo e_lc a_l a_g a_b a_s a_p a_w e_gb a_bb)), (a_g, (oc6 6 5 a_gn e_g)), (a_gn, (arI G 30 f_g)), (a_b, (oc6 5 24 a_bn e_b)), (a_bn, (arI G 120 f_b)), (a_p, (oc6 8 5 a_pn e_p)), (a_pn, (arI G 40 f_p)), (a_bb, (arJ G 24 f_bb)), (a_j, (oc2 a_as a_sk)), (a_as, (arI G 8 o_as)), (a_sk, (arJ G 50 o_sk)), (a_l, (arW G 6 f_l)), (a_lo, (oc3 e_cl a_hd a_sr a_cd)), (a_sr, (arI G n_sr f_sr)), (a_cd, (arI G n_cd f_cd)), (a_hd, (arI G n_hd f_hd)), (a_pt, (arI G 200 o_pt)), (a_wa, (oc10 a_h a_k a_bo)), (a_bo, (arJ G 24 o_bo))]))) (g5_B G (va_A [(a_o, (oc11 a_h a_im a_ke a_k a_wa a_th a_ha a_wk a_r a_x e_tl e_fd e_fpl a_wd e_wn a_rf e_lr)), (a_k, (oc5 a_h a_j a_pt e_ln e_se e_lh e_br e_we e_me e_ce e_wy e_ho e_ov)), (a_h, (oc1 e_wa e_le e_st e_fo e_lc a_l a_g a_b a_s a_p a_w e_gb a_bb)), (a_g, (oc6 6 5 a_gn e_g)), (a_gn, (arI G 30 f_g)), (a_b, (oc6 5 24 a_bn e_b)), (a_bn, (arI G 120 f_b)), (a_p, (oc6 8 5 a_pn e_p)), (a_pn, (arI G 40 f_p)), (a_bb, (arJ G 24 f_bb)), (a_j, (oc2 a_as a_sk)), (a_as, (arI G 8 f_as)), (a_sk, (arJ G 50 f_sk)), (a_l, (arW G 6 f_l)), (a_lo, (oc3 e_cl a_hd a_sr a_cd)), (a_sr, (arI G n_sr f_sr)), (a_cd, (arI G n_cd f_cd)), (a_hd, (arI G n_hd f_hd)), (a_pt, (arI G 200 f_pt)), (a_wa, (oc10 a_h a_k a_bo)), (a_bo, (arJ G 24 f_bo))] sz)) (va_A [(a_o, (oc11 a_h a_im a_ke a_k a_wa a_th a_ha a_wk a_r a_x e_tl e_fd e_fpl a_wd e_wn a_rf e_lr)), (a_k, (oc5 a_h a_j a_pt e_ln e_se e_lh e_br e_we e_me e_ce e_wy e_ho e_ov)), (a_h, (oc1 e_wa e_le e_st e_fo e_lc a_l a_g a_b a_s a_p a_w e_gb a_bb)), (a_g, (oc6 6 5 a_gn e_g)), (a_gn, (arI G 30 f_g)), (a_b, (oc6 5 24 a_bn e_b)), (a_bn, (arI G 120 f_b)), (a_p, (oc6 8 5 a_pn e_p)), (a_pn, (arI G 40 f_p)), (a_bb, (arJ G 24 f_bb)), (a_j, (oc2 a_as a_sk)), (a_as, (arI G 8 f_as)), (a_sk, (arJ G 50 f_sk)), (a_l, (arW G 6 f_l)), (a_lo, (oc3 e_cl a_hd a_sr a_cd)), (a_sr, (arI G n_sr f_sr)), (a_cd, (arI G n_cd f_cd)), (a_hd, (arI G n_hd f_hd)), (a_pt, (arI G 200 f_pt)), (a_wa, (oc10 a_h a_k a_bo)), (a_bo, (arJ G 24 f_bo))] sz)) 0 0 (va_A [(a_o, (oc11 a_h a_im a_ke a_k a_wa a_th a_ha a_wk a_r a_x e_tl e_fd e_fpl a_wd e_wn a_rf e_lr)), (a_k, (oc5 a_h a_j a_pt e_ln e_se e_lh e_br e_we e_me e_ce e_wy e_ho e_ov)), (a_h, (oc1 e_wa e_le e_st e_fo e_lc a_l a_g a_b a_s a_p a_w e_gb a_bb)), (a_g, (oc6 6 5 a_gn e_g)), (a_gn, (arI G 30 f_g)), (a_b, (oc6 5 24 a_bn e_b)), (a_bn, (arI G 120 f_b)), (a_p, (oc6 8 5 a_pn e_p)), (a_pn, (arI G 40 f_p)), (a_bb, (arJ G 24 f_bb)), (a_j, (oc2 a_as a_sk)), (a_as, (arI G 8 f_as)), (a_sk, (arJ G 50 f_sk)), (a_l, (arW G 6 f_l)), (a_lo, (oc3 e_cl a_hd a_sr a_cd)), (a_sr, (arI G n_sr f_sr)), (a_cd, (arI G n_cd f_cd)), (a_hd, (arI G n_hd f_hd)), (a_pt, (arI G 200 f_pt)), (a_wa, (oc10 a_h a_k a_bo)), (a_bo, (arJ G 24 f_bo))] sz) := by
  refine Met.ofW (cc := cX11_unseen) (maxL := 4) (ret := (some .int)) (by decide +kernel) rfl ?_
  intro p e s m args below meth c s₁ B hml hv
  obtain ⟨rfl, hsz, hP, hK, hD0, hN, hT⟩ := hv
  have hx := B.exec
  have hb := B.bytes
  have hr := B.returns
  have hts : ∀ w ∈ tblG, w.before _ s = true := fun w h => atoms_spec (ws := (wsG yX11_unseen cX11_unseen 4 (some .int))) B.pre w (List.mem_cons_of_mem _ h)
  have hown : s.vm.findClass RX11 = some m.cls := findClass_of_methodNamed B.named
  have hlocks := B.notSynchronized
  subst hsz
  have hD := hD0.self (sz := s.heap.size)
  generalize hAe : va_A [(a_o, (oc11 a_h a_im a_ke a_k a_wa a_th a_ha a_wk a_r a_x e_tl e_fd e_fpl a_wd e_wn a_rf e_lr)), (a_k, (oc5 a_h a_j a_pt e_ln e_se e_lh e_br e_we e_me e_ce e_wy e_ho e_ov)), (a_h, (oc1 e_wa e_le e_st e_fo e_lc a_l a_g a_b a_s a_p a_w e_gb a_bb)), (a_g, (oc6 6 5 a_gn e_g)), (a_gn, (arI G 30 f_g)), (a_b, (oc6 5 24 a_bn e_b)), (a_bn, (arI G 120 f_b)), (a_p, (oc6 8 5 a_pn e_p)), (a_pn, (arI G 40 f_p)), (a_bb, (arJ G 24 f_bb)), (a_j, (oc2 a_as a_sk)), (a_as, (arI G 8 f_as)), (a_sk, (arJ G 50 f_sk)), (a_l, (arW G 6 f_l)), (a_lo, (oc3 e_cl a_hd a_sr a_cd)), (a_sr, (arI G n_sr f_sr)), (a_cd, (arI G n_cd f_cd)), (a_hd, (arI G n_hd f_hd)), (a_pt, (arI G 200 f_pt)), (a_wa, (oc10 a_h a_k a_bo)), (a_bo, (arJ G 24 f_bo))] s.heap.size = A at hD hT ⊢
  have hA : ∀ q : Nat, s.heap.size ≤ q → A q := fun q h => by rw [← hAe]; exact Or.inr h
  have hS : va_S A s.heap s.heap [] := va_S.rf
  replace hP : va_P G.1 vwCl [(a_o, (oc11 a_h a_im a_ke a_k a_wa a_th a_ha a_wk a_r a_x e_tl e_fd e_fpl a_wd e_wn a_rf e_lr)), (a_k, (oc5 a_h a_j a_pt e_ln e_se e_lh e_br e_we e_me e_ce e_wy e_ho e_ov)), (a_h, (oc1 e_wa e_le e_st e_fo e_lc a_l a_g a_b a_s a_p a_w e_gb a_bb)), (a_g, (oc6 6 5 a_gn e_g)), (a_gn, (arI G 30 f_g)), (a_b, (oc6 5 24 a_bn e_b)), (a_bn, (arI G 120 f_b)), (a_p, (oc6 8 5 a_pn e_p)), (a_pn, (arI G 40 f_p)), (a_bb, (arJ G 24 f_bb)), (a_j, (oc2 a_as a_sk)), (a_as, (arI G 8 f_as)), (a_sk, (arJ G 50 f_sk)), (a_l, (arW G 6 f_l)), (a_lo, (oc3 e_cl a_hd a_sr a_cd)), (a_sr, (arI G n_sr f_sr)), (a_cd, (arI G n_cd f_cd)), (a_hd, (arI G n_hd f_hd)), (a_pt, (arI G 200 f_pt)), (a_wa, (oc10 a_h a_k a_bo)), (a_bo, (arJ G 24 f_bo))] s.heap := hP
  have hl := lv_entry ([.ref a_o, .int p_c]) (n := 4) (Nat.le_of_ble_eq_true rfl)
  rw [lg_entry_eq]
  generalize (lg_sl ([.ref a_o, .int p_c]) ++ List.replicate (4 - (lg_sl ([.ref a_o, .int p_c])).length) Slot.unset).toArray = ls at hl ⊢
  replace hl : lv_has ls 4 [(0, .ref a_o), (1, .int p_c)] := hl
  refine lv_iload_n hx hb dX11_unseen_0 rfl (lv_at hl 1 rfl) ?_
  obtain ⟨hPc, hDc, hFc⟩ := g5_sub3 (wc := []) hP hD hS hA [] (by decide +kernel) rfl
  refine va_calli (va_runS (As := [.int p_c]) (rest := []) ⟨hx, hb, hml, hown, hts⟩ (x_isCell l G s.heap.size p_c) (va_cwS 1 hts gS_X11_97 rfl rfl rfl hs_X11_isCell ⟨Nat.le_of_ble_eq_true rfl, Nat.le_of_ble_eq_true rfl⟩) (g5_preS hPc hK hDc hN hT hS hFc) rfl rfl hl.1 rfl (lv_room (Nat.le_of_ble_eq_true rfl)) dX11_unseen_1 ⟨Nat.le_of_ble_eq_true rfl, Nat.le_of_ble_eq_true rfl⟩) hS (fun q _ h => hFc q h) hFc (fun r u t H locs ht hvm hw hB hz1 hk1 hS => ?_)
  obtain ⟨hP1, hD1⟩ := hB
  have hP1 := g5_ht ht hP1
  rcases hw with ⟨(i_1 : 0 ≤ p_c.toInt ∧ p_c.toInt ≤ 63), rfl, rfl⟩ | ⟨rfl, rfl⟩
  ·
    have hJ9 := g5_same hP hk1
    clear hP hPc hDc hFc ht hvm hz1 hk1 hP1 hD1
    have hP := hJ9
    clear hJ9
    refine lv_if_ne (tgt := 9) hx hb dX11_unseen_4 (by decide +kernel) (fun c_2 => ?_) (fun c_2 => ?_)
    ·
      refine lv_aload_n hx hb dX11_unseen_9 rfl (lv_at hl 0 rfl) ?_
      refine va_get (D := G.1) (ci := 11) (v := .ref a_wa) (C := RX11) (T := TX11) (N := 17) hx hb hts inG_X11 hown hK hP 0 rfl rfl 4 (by decide +kernel) (hts _ fl_X11_38) (fun _ h9 => h9) rfl dX11_unseen_10 ?_
      obtain ⟨hPc, hDc, hFc⟩ := g5_sub3 (wc := [(a_k, (oc5 a_h a_j a_pt e_ln e_se e_lh e_br e_we e_me e_ce e_wy e_ho e_ov)), (a_h, (oc1 e_wa e_le e_st e_fo e_lc a_l a_g a_b a_s a_p a_w e_gb a_bb)), (a_g, (oc6 6 5 a_gn e_g)), (a_gn, (arI G 30 f_g)), (a_b, (oc6 5 24 a_bn e_b)), (a_bn, (arI G 120 f_b)), (a_p, (oc6 8 5 a_pn e_p)), (a_pn, (arI G 40 f_p)), (a_bb, (arJ G 24 f_bb)), (a_j, (oc2 a_as a_sk)), (a_as, (arI G 8 f_as)), (a_sk, (arJ G 50 f_sk)), (a_l, (arW G 6 f_l)), (a_lo, (oc3 e_cl a_hd a_sr a_cd)), (a_sr, (arI G n_sr f_sr)), (a_cd, (arI G n_cd f_cd)), (a_hd, (arI G n_hd f_hd)), (a_pt, (arI G 200 f_pt)), (a_wa, (oc10 a_h a_k a_bo)), (a_bo, (arJ G 24 f_bo))]) hP hD hS hA [1, 2, 3, 4, 5, 6, 7, 8, 9, 10, 11, 12, 13, 14, 15, 16, 17, 18, 19, 20] (by decide +kernel) rfl
      refine va_callv (va_runV (As := []) (rest := []) ⟨hx, hb, hml, hown, hts⟩ (w_lookAroundL l G a_k a_h a_g a_gn a_b a_bn a_p a_pn a_bb a_j a_as a_sk a_l a_lo a_sr a_cd a_hd a_pt a_wa a_bo a_s a_w H.size e_le e_st e_fo e_lc e_g e_b e_p e_cl e_ln e_se e_lh e_br e_we e_me e_ce e_wy e_ho e_ov e_wa e_gb f_g f_b f_p f_bb f_as f_sk f_l f_sr f_cd f_hd f_pt f_bo n_sr n_cd n_hd h_e_g h_e_b h_e_p h_e_cl h_e_ov (e_gk) (e_pk) (e_gi) (e_f) (e_a) (e_hn) (e_hs) (e_hk) (e_c)) (cwV 0 hts gV_X11_254 rfl rfl rfl hv_X10_lookAround ⟨Nat.le_of_ble_eq_true rfl, Nat.le_of_ble_eq_true rfl⟩) (g5_preV hPc hK hDc hN hT hS hFc (ci := 10) (q0 := 18) rfl rfl) rfl rfl hl.1 rfl (lv_room (Nat.le_of_ble_eq_true rfl)) dX11_unseen_13 ⟨Nat.le_of_ble_eq_true rfl, Nat.le_of_ble_eq_true rfl⟩) hS (fun q _ h => hFc q h) hFc (fun u t H locs ht hvm hw hB hz1 hk1 hS => ?_)
      obtain ⟨hP1, hD1⟩ := hB
      have hP1 := g5_ht ht hP1
      obtain ⟨z4, z5, z6, z7, z8, z9, z10, z11, z12, z13, z14, z15, z16, z17, (i_3 : 0 ≤ z13.toInt ∧ z13.toInt ≤ 1), rfl⟩ := hw
      have hJ9 := va_join (wr := [(a_o, (oc11 a_h a_im a_ke a_k a_wa a_th a_ha a_wk a_r a_x e_tl e_fd e_fpl a_wd e_wn a_rf e_lr))]) hP hD [1, 2, 3, 4, 5, 6, 7, 8, 9, 10, 11, 12, 13, 14, 15, 16, 17, 18, 19, 20] [0] rfl rfl (by decide +kernel) (by decide +kernel) hk1 hFc hP1 hD1
      clear hP hD hPc hDc hFc ht hvm hz1 hk1 hP1 hD1
      obtain ⟨hP, hD⟩ := hJ9
      refine g5_rs [(a_o, (oc11 a_h a_im a_ke a_k a_wa a_th a_ha a_wk a_r a_x e_tl e_fd e_fpl a_wd e_wn a_rf e_lr)), (a_k, (oc5 a_h a_j a_pt z4 z5 z6 z7 z8 z9 z10 z11 z12 z13)), (a_h, (oc1 e_wa e_le e_st e_fo e_lc a_l a_g a_b a_s a_p a_w e_gb a_bb)), (a_g, (oc6 6 5 a_gn e_g)), (a_gn, (arI G 30 f_g)), (a_b, (oc6 5 24 a_bn e_b)), (a_bn, (arI G 120 f_b)), (a_p, (oc6 8 5 a_pn e_p)), (a_pn, (arI G 40 f_p)), (a_bb, (arJ G 24 f_bb)), (a_j, (oc2 a_as a_sk)), (a_as, (arI G 8 z15)), (a_sk, (arJ G 50 z16)), (a_l, (arW G 6 f_l)), (a_lo, (oc3 e_cl a_hd a_sr a_cd)), (a_sr, (arI G n_sr f_sr)), (a_cd, (arI G n_cd f_cd)), (a_hd, (arI G n_hd f_hd)), (a_pt, (arI G 200 z14)), (a_wa, (oc10 a_h a_k a_bo)), (a_bo, (arJ G 24 z17))] hP hD ?_
      clear hP hD
      intro hP hD
      refine lv_iconst (v := 0) hx hb dX11_unseen_16 (by decide +kernel) ?_
      refine W.eq (g2 := F0 m 17 ls [.int 0]) rfl ?_
      refine lv_istore_n (lv' := [(2, .int 0), (0, .ref a_o), (1, .int p_c)]) hx hb dX11_unseen_17 rfl hl (by decide +kernel) rfl ?_
      clear hl
      intro ls hl
      refine lv_iconst (v := 0) hx hb dX11_unseen_18 (by decide +kernel) ?_
      refine lv_istore_n (lv' := [(3, .int 0), (2, .int 0), (0, .ref a_o), (1, .int p_c)]) hx hb dX11_unseen_19 rfl hl (by decide +kernel) rfl ?_
      clear hl
      intro ls hl
      refine g5_loop (α := (Int32) × (Int32)) (fun (q : (Int32) × (Int32)) (ls : Array Slot) (H : Heap) (locs : List Loc) => match q with | (k_i, k_n) => lv_has ls 4 [(2, .int k_n), (3, .int k_i), (0, .ref a_o), (1, .int p_c)] ∧ va_P G.1 vwCl [(a_o, (oc11 a_h a_im a_ke a_k a_wa a_th a_ha a_wk a_r a_x e_tl e_fd e_fpl a_wd e_wn a_rf e_lr)), (a_k, (oc5 a_h a_j a_pt z4 z5 z6 z7 z8 z9 z10 z11 z12 z13)), (a_h, (oc1 e_wa e_le e_st e_fo e_lc a_l a_g a_b a_s a_p a_w e_gb a_bb)), (a_g, (oc6 6 5 a_gn e_g)), (a_gn, (arI G 30 f_g)), (a_b, (oc6 5 24 a_bn e_b)), (a_bn, (arI G 120 f_b)), (a_p, (oc6 8 5 a_pn e_p)), (a_pn, (arI G 40 f_p)), (a_bb, (arJ G 24 f_bb)), (a_j, (oc2 a_as a_sk)), (a_as, (arI G 8 z15)), (a_sk, (arJ G 50 z16)), (a_l, (arW G 6 f_l)), (a_lo, (oc3 e_cl a_hd a_sr a_cd)), (a_sr, (arI G n_sr f_sr)), (a_cd, (arI G n_cd f_cd)), (a_hd, (arI G n_hd f_hd)), (a_pt, (arI G 200 z14)), (a_wa, (oc10 a_h a_k a_bo)), (a_bo, (arJ G 24 z17))] H ∧ va_D A [(a_o, (oc11 a_h a_im a_ke a_k a_wa a_th a_ha a_wk a_r a_x e_tl e_fd e_fpl a_wd e_wn a_rf e_lr)), (a_k, (oc5 a_h a_j a_pt z4 z5 z6 z7 z8 z9 z10 z11 z12 z13)), (a_h, (oc1 e_wa e_le e_st e_fo e_lc a_l a_g a_b a_s a_p a_w e_gb a_bb)), (a_g, (oc6 6 5 a_gn e_g)), (a_gn, (arI G 30 f_g)), (a_b, (oc6 5 24 a_bn e_b)), (a_bn, (arI G 120 f_b)), (a_p, (oc6 8 5 a_pn e_p)), (a_pn, (arI G 40 f_p)), (a_bb, (arJ G 24 f_bb)), (a_j, (oc2 a_as a_sk)), (a_as, (arI G 8 z15)), (a_sk, (arJ G 50 z16)), (a_l, (arW G 6 f_l)), (a_lo, (oc3 e_cl a_hd a_sr a_cd)), (a_sr, (arI G n_sr f_sr)), (a_cd, (arI G n_cd f_cd)), (a_hd, (arI G n_hd f_hd)), (a_pt, (arI G 200 z14)), (a_wa, (oc10 a_h a_k a_bo)), (a_bo, (arJ G 24 z17))] ∧ va_S A s.heap H locs ∧ (0 ≤ k_i.toInt ∧ k_i.toInt ≤ 24)) (fun (q : (Int32) × (Int32)) => match q with | (k_i, k_n) => Int.toNat (24 - k_i.toInt)) (0, 0) ⟨lv_sub hl [1, 0, 2, 3] rfl, hP, hD, hS, ⟨by decide, by decide⟩⟩ ?_
      rintro ⟨k_i, k_n⟩ ls H locs ⟨hl, hP, hD, hS, (i_18 : 0 ≤ k_i.toInt ∧ k_i.toInt ≤ 24)⟩ ih_20_19
      replace hl : lv_has ls 4 [(2, .int k_n), (3, .int k_i), (0, .ref a_o), (1, .int p_c)] := hl
      refine g5_rs [(a_o, (oc11 a_h a_im a_ke a_k a_wa a_th a_ha a_wk a_r a_x e_tl e_fd e_fpl a_wd e_wn a_rf e_lr)), (a_k, (oc5 a_h a_j a_pt z4 z5 z6 z7 z8 z9 z10 z11 z12 z13)), (a_h, (oc1 e_wa e_le e_st e_fo e_lc a_l a_g a_b a_s a_p a_w e_gb a_bb)), (a_g, (oc6 6 5 a_gn e_g)), (a_gn, (arI G 30 f_g)), (a_b, (oc6 5 24 a_bn e_b)), (a_bn, (arI G 120 f_b)), (a_p, (oc6 8 5 a_pn e_p)), (a_pn, (arI G 40 f_p)), (a_bb, (arJ G 24 f_bb)), (a_j, (oc2 a_as a_sk)), (a_as, (arI G 8 z15)), (a_sk, (arJ G 50 z16)), (a_l, (arW G 6 f_l)), (a_lo, (oc3 e_cl a_hd a_sr a_cd)), (a_sr, (arI G n_sr f_sr)), (a_cd, (arI G n_cd f_cd)), (a_hd, (arI G n_hd f_hd)), (a_pt, (arI G 200 z14)), (a_wa, (oc10 a_h a_k a_bo)), (a_bo, (arJ G 24 z17))] hP hD ?_
      clear hP hD
      intro hP hD
      refine lv_iload_n hx hb dX11_unseen_20 rfl (lv_at hl 1 rfl) ?_
      refine lv_bipush (v := 24) hx hb dX11_unseen_21 (by decide +kernel) ?_
      refine lv_icmp_ge (tgt := 51) hx hb dX11_unseen_23 (by decide +kernel) (fun c_20 => ?_) (fun c_20 => ?_)
      ·
        have i_20 : k_i.toInt ≥ 24 := g5_ge (a := k_i.toInt) (b := 24) rfl (by decide +kernel) c_20
        refine lv_iload_n hx hb dX11_unseen_51 rfl (lv_at hl 0 rfl) ?_
        exact W.iret (v := k_n) hx hb hr (fun t ht hW => ⟨⟨k_n, [(a_o, (oc11 a_h a_im a_ke a_k a_wa a_th a_ha a_wk a_r a_x e_tl e_fd e_fpl a_wd e_wn a_rf e_lr)), (a_k, (oc5 a_h a_j a_pt z4 z5 z6 z7 z8 z9 z10 z11 z12 z13)), (a_h, (oc1 e_wa e_le e_st e_fo e_lc a_l a_g a_b a_s a_p a_w e_gb a_bb)), (a_g, (oc6 6 5 a_gn e_g)), (a_gn, (arI G 30 f_g)), (a_b, (oc6 5 24 a_bn e_b)), (a_bn, (arI G 120 f_b)), (a_p, (oc6 8 5 a_pn e_p)), (a_pn, (arI G 40 f_p)), (a_bb, (arJ G 24 f_bb)), (a_j, (oc2 a_as a_sk)), (a_as, (arI G 8 z15)), (a_sk, (arJ G 50 z16)), (a_l, (arW G 6 f_l)), (a_lo, (oc3 e_cl a_hd a_sr a_cd)), (a_sr, (arI G n_sr f_sr)), (a_cd, (arI G n_cd f_cd)), (a_hd, (arI G n_hd f_hd)), (a_pt, (arI G 200 z14)), (a_wa, (oc10 a_h a_k a_bo)), (a_bo, (arJ G 24 z17))], rfl, ⟨k_n, z4, z5, z6, z7, z8, z9, z10, z11, z12, z13, z14, z15, z16, z17, i_3, rfl, rfl⟩, by rw [ht]; exact hP.sub [0, 1, 2, 3, 4, 5, 6, 7, 8, 9, 10, 11, 12, 13, 14, 15, 16, 17, 18, 19, 20] rfl, hD.sub [0, 1, 2, 3, 4, 5, 6, 7, 8, 9, 10, 11, 12, 13, 14, 15, 16, 17, 18, 19, 20] (by decide +kernel) rfl⟩, hS.F ht⟩) hS.2.2 dX11_unseen_52
      ·
        have i_20 : k_i.toInt < 24 := g5_geN (a := k_i.toInt) (b := 24) rfl (by decide +kernel) c_20
        refine lv_aload_n hx hb dX11_unseen_26 rfl (lv_at hl 2 rfl) ?_
        refine va_get (D := G.1) (ci := 11) (v := .ref a_wa) (C := RX11) (T := TX11) (N := 17) hx hb hts inG_X11 hown hK hP 0 rfl rfl 4 (by decide +kernel) (hts _ fl_X11_38) (fun _ h9 => h9) rfl dX11_unseen_27 ?_
        refine va_get (D := G.1) (ci := 10) (v := .ref a_bo) (C := RX10) (T := TX10) (N := 3) hx hb hts inG_X10 hown hK hP 19 rfl rfl 2 (by decide +kernel) (hts _ fl_X11_257) (fun _ h9 => h9) rfl dX11_unseen_30 ?_
        refine lv_iload_n hx hb dX11_unseen_33 rfl (lv_at hl 1 rfl) ?_
        refine W.eq (g2 := F0 m 34 ls [.int k_i, .ref a_bo]) rfl ?_
        refine va_lald hx hb hK hP 20 1 rfl rfl (i := k_i) (vp_in_iff.mpr ⟨by omega, by omega⟩) dX11_unseen_34 ?_
        refine lv_iload_n hx hb dX11_unseen_35 rfl (lv_at hl 3 rfl) ?_
        obtain ⟨hPc, hDc, hFc⟩ := g5_sub3 (wc := []) hP hD hS hA [] (by decide +kernel) rfl
        refine va_calli (va_runS (As := [.long (z17 k_i.toNatClampNeg), .int p_c]) (rest := []) ⟨hx, hb, hml, hown, hts⟩ (k_isOn l G H.size p_c (z17 k_i.toNatClampNeg) i_1) (va_cwS 2 hts gS_X11_115 rfl rfl rfl hs_X11_isOn ⟨Nat.le_of_ble_eq_true rfl, Nat.le_of_ble_eq_true rfl⟩) (g5_preS hPc hK hDc hN hT hS hFc) rfl rfl hl.1 rfl (lv_room (Nat.le_of_ble_eq_true rfl)) dX11_unseen_36 ⟨Nat.le_of_ble_eq_true rfl, Nat.le_of_ble_eq_true rfl⟩) hS (fun q _ h => hFc q h) hFc (fun r u t H locs ht hvm hw hB hz1 hk1 hS => ?_)
        obtain ⟨hP1, hD1⟩ := hB
        have hP1 := g5_ht ht hP1
        rcases hw with ⟨(i_21 : onB (z17 k_i.toNatClampNeg) p_c.toInt = false), rfl, rfl⟩ | ⟨(i_22 : onB (z17 k_i.toNatClampNeg) p_c.toInt = true), rfl, rfl⟩
        ·
          have hJ9 := g5_same hP hk1
          clear hP hPc hDc hFc ht hvm hz1 hk1 hP1 hD1
          have hP := hJ9
          clear hJ9
          refine lv_if_ne (tgt := 45) hx hb dX11_unseen_39 (by decide +kernel) (fun c_23 => ?_) (fun c_23 => ?_)
          ·
            exact absurd c_23 (by decide +kernel)
          ·
            refine lv_iinc (v := (k_n + 1)) (lv' := [(2, .int (k_n + 1)), (3, .int k_i), (0, .ref a_o), (1, .int p_c)]) hx hb dX11_unseen_42 hl (k := 0) rfl rfl (by decide +kernel) rfl ?_
            clear hl
            intro ls hl
            refine lv_iinc (v := (k_i + 1)) (lv' := [(3, .int (k_i + 1)), (2, .int (k_n + 1)), (0, .ref a_o), (1, .int p_c)]) hx hb dX11_unseen_45 hl (k := 1) rfl rfl (by decide +kernel) rfl ?_
            clear hl
            intro ls hl
            have t_24 : (k_i + 1).toInt = k_i.toInt + 1 := g5_iadd (a := k_i.toInt) (b := 1) rfl (by decide +kernel) (by omega) (by omega)
            refine lv_goto (tgt := 20) hx hb dX11_unseen_48 (by decide +kernel) ?_
            exact ih_20_19 ((k_i + 1), (k_n + 1)) ls H locs (show Int.toNat (24 - (k_i + 1).toInt) < Int.toNat (24 - k_i.toInt) from g_up (show k_i.toInt < (k_i + 1).toInt by omega) (show k_i.toInt < 24 by omega)) ⟨lv_sub hl [1, 0, 2, 3] rfl, hP, hD, hS, ⟨by omega, by omega⟩⟩
        ·
          have hJ9 := g5_same hP hk1
          clear hP hPc hDc hFc ht hvm hz1 hk1 hP1 hD1
          have hP := hJ9
          clear hJ9
          refine lv_if_ne (tgt := 45) hx hb dX11_unseen_39 (by decide +kernel) (fun c_25 => ?_) (fun c_25 => ?_)
          ·
            refine lv_iinc (v := (k_i + 1)) (lv' := [(3, .int (k_i + 1)), (2, .int k_n), (0, .ref a_o), (1, .int p_c)]) hx hb dX11_unseen_45 hl (k := 1) rfl rfl (by decide +kernel) rfl ?_
            clear hl
            intro ls hl
            have t_26 : (k_i + 1).toInt = k_i.toInt + 1 := g5_iadd (a := k_i.toInt) (b := 1) rfl (by decide +kernel) (by omega) (by omega)
            refine lv_goto (tgt := 20) hx hb dX11_unseen_48 (by decide +kernel) ?_
            exact ih_20_19 ((k_i + 1), k_n) ls H locs (show Int.toNat (24 - (k_i + 1).toInt) < Int.toNat (24 - k_i.toInt) from g_up (show k_i.toInt < (k_i + 1).toInt by omega) (show k_i.toInt < 24 by omega)) ⟨lv_sub hl [1, 0, 2, 3] rfl, hP, hD, hS, ⟨by omega, by omega⟩⟩
          ·
            exact absurd c_25 (by decide +kernel)
    ·
      exact absurd c_2 (by decide +kernel)
  ·
    have hJ9 := g5_same hP hk1
    clear hP hPc hDc hFc ht hvm hz1 hk1 hP1 hD1
    have hP := hJ9
    clear hJ9
    refine lv_if_ne (tgt := 9) hx hb dX11_unseen_4 (by decide +kernel) (fun c_27 => ?_) (fun c_27 => ?_)
    ·
      exact absurd c_27 (by decide +kernel)
    ·
      refine lv_iconst (v := (-1)) hx hb dX11_unseen_7 (by decide +kernel) ?_
      exact W.iret (v := (-1)) hx hb hr (fun t ht hW => ⟨⟨(-1), [(a_o, (oc11 a_h a_im a_ke a_k a_wa a_th a_ha a_wk a_r a_x e_tl e_fd e_fpl a_wd e_wn a_rf e_lr)), (a_k, (oc5 a_h a_j a_pt e_ln e_se e_lh e_br e_we e_me e_ce e_wy e_ho e_ov)), (a_h, (oc1 e_wa e_le e_st e_fo e_lc a_l a_g a_b a_s a_p a_w e_gb a_bb)), (a_g, (oc6 6 5 a_gn e_g)), (a_gn, (arI G 30 f_g)), (a_b, (oc6 5 24 a_bn e_b)), (a_bn, (arI G 120 f_b)), (a_p, (oc6 8 5 a_pn e_p)), (a_pn, (arI G 40 f_p)), (a_bb, (arJ G 24 f_bb)), (a_j, (oc2 a_as a_sk)), (a_as, (arI G 8 f_as)), (a_sk, (arJ G 50 f_sk)), (a_l, (arW G 6 f_l)), (a_lo, (oc3 e_cl a_hd a_sr a_cd)), (a_sr, (arI G n_sr f_sr)), (a_cd, (arI G n_cd f_cd)), (a_hd, (arI G n_hd f_hd)), (a_pt, (arI G 200 f_pt)), (a_wa, (oc10 a_h a_k a_bo)), (a_bo, (arJ G 24 f_bo))], rfl, ⟨(-1), e_ln, e_se, e_lh, e_br, e_we, e_me, e_ce, e_wy, e_ho, e_ov, f_pt, f_as, f_sk, f_bo, h_e_ov, rfl, rfl⟩, by rw [ht]; exact hP.sub [0, 1, 2, 3, 4, 5, 6, 7, 8, 9, 10, 11, 12, 13, 14, 15, 16, 17, 18, 19, 20] rfl, hD.sub [0, 1, 2, 3, 4, 5, 6, 7, 8, 9, 10, 11, 12, 13, 14, 15, 16, 17, 18, 19, 20] (by decide +kernel) rfl⟩, hS.F ht⟩) hS.2.2 dX11_unseen_8
set_option maxHeartbeats 4000000 in
set_option maxRecDepth 100000 in
theorem x_hangL (l : Launch) (G : g5_G) (a_o a_k a_h a_g a_gn a_b a_bn a_p a_pn a_w a_wn a_bb a_j a_as a_sk a_l a_lo a_sr a_cd a_hd a_pt a_ha a_im a_ke a_wa a_th a_wk a_r a_x a_wd a_rf a_s : Nat) (sz : Nat) (e_tl : Int32) (e_fd : Int32) (e_fpl : Int32) (e_wn : Int32) (e_lr : Int32) (e_le : Int32) (e_st : Int32) (e_fo : Int32) (e_lc : Int32) (e_g : Int32) (e_b : Int32) (e_p : Int32) (e_w : Int32) (e_cl : Int32) (e_ln : Int32) (e_se : Int32) (e_lh : Int32) (e_br : Int32) (e_we : Int32) (e_me : Int32) (e_ce : Int32) (e_wy : Int32) (e_ho : Int32) (e_ov : Int32) (e_f1 : Int32) (e_f2 : Int32) (e_f3 : Int32) (p_t : Int32) (e_wa : Int64) (e_gb : Int64) (f_g : Nat → Int32) (f_b : Nat → Int32) (f_p : Nat → Int32) (f_w : Nat → Int32) (f_bb : Nat → Int64) (f_as : Nat → Int32) (f_sk : Nat → Int64) (f_l : Nat → Option Nat) (f_sr : Nat → Int32) (f_cd : Nat → Int32) (f_hd : Nat → Int32) (f_pt : Nat → Int32) (n_sr : Nat) (n_cd : Nat) (n_hd : Nat) (h_e_tl : 0 ≤ e_tl.toInt ∧ e_tl.toInt ≤ 400) (h_e_wn : 0 ≤ e_wn.toInt ∧ e_wn.toInt ≤ 1) (h_e_g : 0 ≤ e_g.toInt ∧ e_g.toInt ≤ 6) (h_e_b : 0 ≤ e_b.toInt ∧ e_b.toInt ≤ 5) (h_e_p : 0 ≤ e_p.toInt ∧ e_p.toInt ≤ 8) (h_e_w : 0 ≤ e_w.toInt ∧ e_w.toInt ≤ 6) (h_e_cl : 0 ≤ e_cl.toInt ∧ e_cl.toInt ≤ 12) (h_e_ov : 0 ≤ e_ov.toInt ∧ e_ov.toInt ≤ 1) (e_gk : gOK f_g e_g.toInt) (e_pk : gOK f_p e_p.toInt) (e_gi : inT e_gb f_g e_g.toInt) (e_f : 0 ≤ e_fo.toInt ∧ e_fo.toInt < e_lc.toInt ∧ e_lc.toInt ≤ 6) (e_a : f_l e_fo.toNatClampNeg = some a_lo) (e_hn : n_cd ≤ 400) (e_hs : ∀ j : Nat, j < n_sr → 0 ≤ (f_sr j).toInt ∧ (f_sr j).toInt ≤ (n_cd : Int)) (e_hk : ∀ j : Nat, j < n_cd → (f_cd j >>> (12 &&& 31)).toInt = 1 → (f_cd j &&& 4095).toInt < 8) (e_c : (e_cl.toInt : Int) ≤ (n_hd : Int) ∧ (e_cl.toInt + 1 : Int) ≤ (n_sr : Int)) : Met l yX11_hang (wsG yX11_hang cX11_hang 2 (some .int)) ({ frames := 16, cells := 0, slots := 0, locals := 604 }) (va_Pc [.ref a_o, .int p_t] (g5_P G [(a_o, (oc11 a_h a_im a_ke a_k a_wa a_th a_ha a_wk a_r a_x e_tl e_fd e_fpl a_wd e_wn a_rf e_lr)), (a_k, (oc5 a_h a_j a_pt e_ln e_se e_lh e_br e_we e_me e_ce e_wy e_ho e_ov)), (a_h, (oc1 e_wa e_le e_st e_fo e_lc a_l a_g a_b a_s a_p a_w e_gb a_bb)), (a_g, (oc6 6 5 a_gn e_g)), (a_gn, (arI G 30 f_g)), (a_b, (oc6 5 24 a_bn e_b)), (a_bn, (arI G 120 f_b)), (a_p, (oc6 8 5 a_pn e_p)), (a_pn, (arI G 40 f_p)), (a_w, (oc6 6 6 a_wn e_w)), (a_wn, (arI G 36 f_w)), (a_bb, (arJ G 24 f_bb)), (a_j, (oc2 a_as a_sk)), (a_as, (arI G 8 f_as)), (a_sk, (arJ G 50 f_sk)), (a_l, (arW G 6 f_l)), (a_lo, (oc3 e_cl a_hd a_sr a_cd)), (a_sr, (arI G n_sr f_sr)), (a_cd, (arI G n_cd f_cd)), (a_hd, (arI G n_hd f_hd)), (a_pt, (arI G 200 f_pt)), (a_ha, (oc0 a_h a_k e_f1 e_f2 e_f3))] sz)) (va_Qi (fun (r : Int32) (u : va_W) => (∃ (o_r : Int32) (o_ln : Int32) (o_se : Int32) (o_lh : Int32) (o_br : Int32) (o_we : Int32) (o_me : Int32) (o_ce : Int32) (o_wy : Int32) (o_ho : Int32) (o_ov : Int32) (o_pt : Nat → Int32) (o_as : Nat → Int32) (o_sk : Nat → Int64) (o_f1 : Int32) (o_f2 : Int32) (o_f3 : Int32), (0 ≤ o_ov.toInt ∧ o_ov.toInt ≤ 1) ∧ (r = o_r) ∧ (u = [(a_o, (oc11 a_h a_im a_ke a_k a_wa a_th a_ha a_wk a_r a_x e_tl e_fd e_fpl a_wd e_wn a_rf e_lr)), (a_k, (oc5 a_h a_j a_pt o_ln o_se o_lh o_br o_we o_me o_ce o_wy o_ho o_ov)), (a_h, (oc1 e_wa e_le e_st e_fo e_lc a_l a_g a_b a_s a_p a_w e_gb a_bb)), (a_g, (oc6 6 5 a_gn e_g)), (a_gn, (arI G 30 f_g)), (a_b, (oc6 5 24 a_bn e_b)), (a_bn, (arI G 120 f_b)), (a_p, (oc6 8 5 a_pn e_p)), (a_pn, (arI G 40 f_p)), (a_w, (oc6 6 6 a_wn e_w)), (a_wn, (arI G 36 f_w)), (a_bb, (arJ G 24 f_bb)), (a_j, (oc2 a_as a_sk)), (a_as, (arI G 8 o_as)), (a_sk, (arJ G 50 o_sk)), (a_l, (arW G 6 f_l)), (a_lo, (oc3 e_cl a_hd a_sr a_cd)), (a_sr, (arI G n_sr f_sr)), (a_cd, (arI G n_cd f_cd)), (a_hd, (arI G n_hd f_hd)), (a_pt, (arI G 200 o_pt)), (a_ha, (oc0 a_h a_k o_f1 o_f2 o_f3))]))) (g5_B G (va_A [(a_o, (oc11 a_h a_im a_ke a_k a_wa a_th a_ha a_wk a_r a_x e_tl e_fd e_fpl a_wd e_wn a_rf e_lr)), (a_k, (oc5 a_h a_j a_pt e_ln e_se e_lh e_br e_we e_me e_ce e_wy e_ho e_ov)), (a_h, (oc1 e_wa e_le e_st e_fo e_lc a_l a_g a_b a_s a_p a_w e_gb a_bb)), (a_g, (oc6 6 5 a_gn e_g)), (a_gn, (arI G 30 f_g)), (a_b, (oc6 5 24 a_bn e_b)), (a_bn, (arI G 120 f_b)), (a_p, (oc6 8 5 a_pn e_p)), (a_pn, (arI G 40 f_p)), (a_w, (oc6 6 6 a_wn e_w)), (a_wn, (arI G 36 f_w)), (a_bb, (arJ G 24 f_bb)), (a_j, (oc2 a_as a_sk)), (a_as, (arI G 8 f_as)), (a_sk, (arJ G 50 f_sk)), (a_l, (arW G 6 f_l)), (a_lo, (oc3 e_cl a_hd a_sr a_cd)), (a_sr, (arI G n_sr f_sr)), (a_cd, (arI G n_cd f_cd)), (a_hd, (arI G n_hd f_hd)), (a_pt, (arI G 200 f_pt)), (a_ha, (oc0 a_h a_k e_f1 e_f2 e_f3))] sz)) (va_A [(a_o, (oc11 a_h a_im a_ke a_k a_wa a_th a_ha a_wk a_r a_x e_tl e_fd e_fpl a_wd e_wn a_rf e_lr)), (a_k, (oc5 a_h a_j a_pt e_ln e_se e_lh e_br e_we e_me e_ce e_wy e_ho e_ov)), (a_h, (oc1 e_wa e_le e_st e_fo e_lc a_l a_g a_b a_s a_p a_w e_gb a_bb)), (a_g, (oc6 6 5 a_gn e_g)), (a_gn, (arI G 30 f_g)), (a_b, (oc6 5 24 a_bn e_b)), (a_bn, (arI G 120 f_b)), (a_p, (oc6 8 5 a_pn e_p)), (a_pn, (arI G 40 f_p)), (a_w, (oc6 6 6 a_wn e_w)), (a_wn, (arI G 36 f_w)), (a_bb, (arJ G 24 f_bb)), (a_j, (oc2 a_as a_sk)), (a_as, (arI G 8 f_as)), (a_sk, (arJ G 50 f_sk)), (a_l, (arW G 6 f_l)), (a_lo, (oc3 e_cl a_hd a_sr a_cd)), (a_sr, (arI G n_sr f_sr)), (a_cd, (arI G n_cd f_cd)), (a_hd, (arI G n_hd f_hd)), (a_pt, (arI G 200 f_pt)), (a_ha, (oc0 a_h a_k e_f1 e_f2 e_f3))] sz)) 0 0 (va_A [(a_o, (oc11 a_h a_im a_ke a_k a_wa a_th a_ha a_wk a_r a_x e_tl e_fd e_fpl a_wd e_wn a_rf e_lr)), (a_k, (oc5 a_h a_j a_pt e_ln e_se e_lh e_br e_we e_me e_ce e_wy e_ho e_ov)), (a_h, (oc1 e_wa e_le e_st e_fo e_lc a_l a_g a_b a_s a_p a_w e_gb a_bb)), (a_g, (oc6 6 5 a_gn e_g)), (a_gn, (arI G 30 f_g)), (a_b, (oc6 5 24 a_bn e_b)), (a_bn, (arI G 120 f_b)), (a_p, (oc6 8 5 a_pn e_p)), (a_pn, (arI G 40 f_p)), (a_w, (oc6 6 6 a_wn e_w)), (a_wn, (arI G 36 f_w)), (a_bb, (arJ G 24 f_bb)), (a_j, (oc2 a_as a_sk)), (a_as, (arI G 8 f_as)), (a_sk, (arJ G 50 f_sk)), (a_l, (arW G 6 f_l)), (a_lo, (oc3 e_cl a_hd a_sr a_cd)), (a_sr, (arI G n_sr f_sr)), (a_cd, (arI G n_cd f_cd)), (a_hd, (arI G n_hd f_hd)), (a_pt, (arI G 200 f_pt)), (a_ha, (oc0 a_h a_k e_f1 e_f2 e_f3))] sz) := by
  refine Met.ofW (cc := cX11_hang) (maxL := 2) (ret := (some .int)) (by decide +kernel) rfl ?_
  intro p e s m args below meth c s₁ B hml hv
  obtain ⟨rfl, hsz, hP, hK, hD0, hN, hT⟩ := hv
  have hx := B.exec
  have hb := B.bytes
  have hr := B.returns
  have hts : ∀ w ∈ tblG, w.before _ s = true := fun w h => atoms_spec (ws := (wsG yX11_hang cX11_hang 2 (some .int))) B.pre w (List.mem_cons_of_mem _ h)
  have hown : s.vm.findClass RX11 = some m.cls := findClass_of_methodNamed B.named
  have hlocks := B.notSynchronized
  subst hsz
  have hD := hD0.self (sz := s.heap.size)
  generalize hAe : va_A [(a_o, (oc11 a_h a_im a_ke a_k a_wa a_th a_ha a_wk a_r a_x e_tl e_fd e_fpl a_wd e_wn a_rf e_lr)), (a_k, (oc5 a_h a_j a_pt e_ln e_se e_lh e_br e_we e_me e_ce e_wy e_ho e_ov)), (a_h, (oc1 e_wa e_le e_st e_fo e_lc a_l a_g a_b a_s a_p a_w e_gb a_bb)), (a_g, (oc6 6 5 a_gn e_g)), (a_gn, (arI G 30 f_g)), (a_b, (oc6 5 24 a_bn e_b)), (a_bn, (arI G 120 f_b)), (a_p, (oc6 8 5 a_pn e_p)), (a_pn, (arI G 40 f_p)), (a_w, (oc6 6 6 a_wn e_w)), (a_wn, (arI G 36 f_w)), (a_bb, (arJ G 24 f_bb)), (a_j, (oc2 a_as a_sk)), (a_as, (arI G 8 f_as)), (a_sk, (arJ G 50 f_sk)), (a_l, (arW G 6 f_l)), (a_lo, (oc3 e_cl a_hd a_sr a_cd)), (a_sr, (arI G n_sr f_sr)), (a_cd, (arI G n_cd f_cd)), (a_hd, (arI G n_hd f_hd)), (a_pt, (arI G 200 f_pt)), (a_ha, (oc0 a_h a_k e_f1 e_f2 e_f3))] s.heap.size = A at hD hT ⊢
  have hA : ∀ q : Nat, s.heap.size ≤ q → A q := fun q h => by rw [← hAe]; exact Or.inr h
  have hS : va_S A s.heap s.heap [] := va_S.rf
  replace hP : va_P G.1 vwCl [(a_o, (oc11 a_h a_im a_ke a_k a_wa a_th a_ha a_wk a_r a_x e_tl e_fd e_fpl a_wd e_wn a_rf e_lr)), (a_k, (oc5 a_h a_j a_pt e_ln e_se e_lh e_br e_we e_me e_ce e_wy e_ho e_ov)), (a_h, (oc1 e_wa e_le e_st e_fo e_lc a_l a_g a_b a_s a_p a_w e_gb a_bb)), (a_g, (oc6 6 5 a_gn e_g)), (a_gn, (arI G 30 f_g)), (a_b, (oc6 5 24 a_bn e_b)), (a_bn, (arI G 120 f_b)), (a_p, (oc6 8 5 a_pn e_p)), (a_pn, (arI G 40 f_p)), (a_w, (oc6 6 6 a_wn e_w)), (a_wn, (arI G 36 f_w)), (a_bb, (arJ G 24 f_bb)), (a_j, (oc2 a_as a_sk)), (a_as, (arI G 8 f_as)), (a_sk, (arJ G 50 f_sk)), (a_l, (arW G 6 f_l)), (a_lo, (oc3 e_cl a_hd a_sr a_cd)), (a_sr, (arI G n_sr f_sr)), (a_cd, (arI G n_cd f_cd)), (a_hd, (arI G n_hd f_hd)), (a_pt, (arI G 200 f_pt)), (a_ha, (oc0 a_h a_k e_f1 e_f2 e_f3))] s.heap := hP
  have hl := lv_entry ([.ref a_o, .int p_t]) (n := 2) (Nat.le_of_ble_eq_true rfl)
  rw [lg_entry_eq]
  generalize (lg_sl ([.ref a_o, .int p_t]) ++ List.replicate (2 - (lg_sl ([.ref a_o, .int p_t])).length) Slot.unset).toArray = ls at hl ⊢
  replace hl : lv_has ls 2 [(0, .ref a_o), (1, .int p_t)] := hl
  refine lv_iload_n hx hb dX11_hang_0 rfl (lv_at hl 1 rfl) ?_
  refine lv_if_lt (tgt := 9) hx hb dX11_hang_1 (by decide +kernel) (fun c_1 => ?_) (fun c_1 => ?_)
  ·
    have i_1 : p_t.toInt < 0 := g5_lt (a := p_t.toInt) (b := 0) rfl (by decide +kernel) c_1
    refine lv_iconst (v := (-1)) hx hb dX11_hang_9 (by decide +kernel) ?_
    exact W.iret (v := (-1)) hx hb hr (fun t ht hW => ⟨⟨(-1), [(a_o, (oc11 a_h a_im a_ke a_k a_wa a_th a_ha a_wk a_r a_x e_tl e_fd e_fpl a_wd e_wn a_rf e_lr)), (a_k, (oc5 a_h a_j a_pt e_ln e_se e_lh e_br e_we e_me e_ce e_wy e_ho e_ov)), (a_h, (oc1 e_wa e_le e_st e_fo e_lc a_l a_g a_b a_s a_p a_w e_gb a_bb)), (a_g, (oc6 6 5 a_gn e_g)), (a_gn, (arI G 30 f_g)), (a_b, (oc6 5 24 a_bn e_b)), (a_bn, (arI G 120 f_b)), (a_p, (oc6 8 5 a_pn e_p)), (a_pn, (arI G 40 f_p)), (a_w, (oc6 6 6 a_wn e_w)), (a_wn, (arI G 36 f_w)), (a_bb, (arJ G 24 f_bb)), (a_j, (oc2 a_as a_sk)), (a_as, (arI G 8 f_as)), (a_sk, (arJ G 50 f_sk)), (a_l, (arW G 6 f_l)), (a_lo, (oc3 e_cl a_hd a_sr a_cd)), (a_sr, (arI G n_sr f_sr)), (a_cd, (arI G n_cd f_cd)), (a_hd, (arI G n_hd f_hd)), (a_pt, (arI G 200 f_pt)), (a_ha, (oc0 a_h a_k e_f1 e_f2 e_f3))], rfl, ⟨(-1), e_ln, e_se, e_lh, e_br, e_we, e_me, e_ce, e_wy, e_ho, e_ov, f_pt, f_as, f_sk, e_f1, e_f2, e_f3, h_e_ov, rfl, rfl⟩, by rw [ht]; exact hP.sub [0, 1, 2, 3, 4, 5, 6, 7, 8, 9, 10, 11, 12, 13, 14, 15, 16, 17, 18, 19, 20, 21] rfl, hD.sub [0, 1, 2, 3, 4, 5, 6, 7, 8, 9, 10, 11, 12, 13, 14, 15, 16, 17, 18, 19, 20, 21] (by decide +kernel) rfl⟩, hS.F ht⟩) hS.2.2 dX11_hang_10
  ·
    have i_1 : p_t.toInt ≥ 0 := g5_ltN (a := p_t.toInt) (b := 0) rfl (by decide +kernel) c_1
    refine lv_iload_n hx hb dX11_hang_4 rfl (lv_at hl 1 rfl) ?_
    refine lv_iconst (v := 2) hx hb dX11_hang_5 (by decide +kernel) ?_
    refine lv_icmp_le (tgt := 11) hx hb dX11_hang_6 (by decide +kernel) (fun c_2 => ?_) (fun c_2 => ?_)
    ·
      have i_2 : p_t.toInt ≤ 2 := g5_le (a := p_t.toInt) (b := 2) rfl (by decide +kernel) c_2
      refine lv_aload_n hx hb dX11_hang_11 rfl (lv_at hl 0 rfl) ?_
      refine va_get (D := G.1) (ci := 11) (v := .ref a_ha) (C := RX11) (T := TX11) (N := 17) hx hb hts inG_X11 hown hK hP 0 rfl rfl 6 (by decide +kernel) (hts _ fl_X11_52) (fun _ h9 => h9) rfl dX11_hang_12 ?_
      obtain ⟨hPc, hDc, hFc⟩ := g5_sub3 (wc := [(a_k, (oc5 a_h a_j a_pt e_ln e_se e_lh e_br e_we e_me e_ce e_wy e_ho e_ov)), (a_h, (oc1 e_wa e_le e_st e_fo e_lc a_l a_g a_b a_s a_p a_w e_gb a_bb)), (a_g, (oc6 6 5 a_gn e_g)), (a_gn, (arI G 30 f_g)), (a_b, (oc6 5 24 a_bn e_b)), (a_bn, (arI G 120 f_b)), (a_p, (oc6 8 5 a_pn e_p)), (a_pn, (arI G 40 f_p)), (a_w, (oc6 6 6 a_wn e_w)), (a_wn, (arI G 36 f_w)), (a_bb, (arJ G 24 f_bb)), (a_j, (oc2 a_as a_sk)), (a_as, (arI G 8 f_as)), (a_sk, (arJ G 50 f_sk)), (a_l, (arW G 6 f_l)), (a_lo, (oc3 e_cl a_hd a_sr a_cd)), (a_sr, (arI G n_sr f_sr)), (a_cd, (arI G n_cd f_cd)), (a_hd, (arI G n_hd f_hd)), (a_pt, (arI G 200 f_pt)), (a_ha, (oc0 a_h a_k e_f1 e_f2 e_f3))]) hP hD hS hA [1, 2, 3, 4, 5, 6, 7, 8, 9, 10, 11, 12, 13, 14, 15, 16, 17, 18, 19, 20, 21] (by decide +kernel) rfl
      refine va_callv (va_runV (As := []) (rest := []) ⟨hx, hb, hml, hown, hts⟩ (g_searchL l G a_k a_h a_g a_gn a_b a_bn a_p a_pn a_w a_wn a_bb a_j a_as a_sk a_l a_lo a_sr a_cd a_hd a_pt a_ha a_s s.heap.size e_le e_st e_fo e_lc e_g e_b e_p e_w e_cl e_ln e_se e_lh e_br e_we e_me e_ce e_wy e_ho e_ov e_f1 e_f2 e_f3 e_wa e_gb f_g f_b f_p f_w f_bb f_as f_sk f_l f_sr f_cd f_hd f_pt n_sr n_cd n_hd h_e_g h_e_b h_e_p h_e_w h_e_cl h_e_ov (e_gk) (e_pk) (e_gi) (e_f) (e_a) (e_hn) (e_hs) (e_hk) (e_c)) (cwV 0 hts gV_X11_315 rfl rfl rfl hv_X0_search ⟨Nat.le_of_ble_eq_true rfl, Nat.le_of_ble_eq_true rfl⟩) (g5_preV hPc hK hDc hN hT hS hFc (ci := 0) (q0 := 20) rfl rfl) rfl rfl hl.1 rfl (lv_room (Nat.le_of_ble_eq_true rfl)) dX11_hang_15 ⟨Nat.le_of_ble_eq_true rfl, Nat.le_of_ble_eq_true rfl⟩) hS (fun q _ h => hFc q h) hFc (fun u t H locs ht hvm hw hB hz1 hk1 hS => ?_)
      obtain ⟨hP1, hD1⟩ := hB
      have hP1 := g5_ht ht hP1
      obtain ⟨z4, z5, z6, z7, z8, z9, z10, z11, z12, z13, z14, z15, z16, z17, z18, z19, (i_3 : 0 ≤ z13.toInt ∧ z13.toInt ≤ 1), rfl⟩ := hw
      have hJ9 := va_join (wr := [(a_o, (oc11 a_h a_im a_ke a_k a_wa a_th a_ha a_wk a_r a_x e_tl e_fd e_fpl a_wd e_wn a_rf e_lr))]) hP hD [1, 2, 3, 4, 5, 6, 7, 8, 9, 10, 11, 12, 13, 14, 15, 16, 17, 18, 19, 20, 21] [0] rfl rfl (by decide +kernel) (by decide +kernel) hk1 hFc hP1 hD1
      clear hP hD hPc hDc hFc ht hvm hz1 hk1 hP1 hD1
      obtain ⟨hP, hD⟩ := hJ9
      refine g5_rs [(a_o, (oc11 a_h a_im a_ke a_k a_wa a_th a_ha a_wk a_r a_x e_tl e_fd e_fpl a_wd e_wn a_rf e_lr)), (a_k, (oc5 a_h a_j a_pt z4 z5 z6 z7 z8 z9 z10 z11 z12 z13)), (a_h, (oc1 e_wa e_le e_st e_fo e_lc a_l a_g a_b a_s a_p a_w e_gb a_bb)), (a_g, (oc6 6 5 a_gn e_g)), (a_gn, (arI G 30 f_g)), (a_b, (oc6 5 24 a_bn e_b)), (a_bn, (arI G 120 f_b)), (a_p, (oc6 8 5 a_pn e_p)), (a_pn, (arI G 40 f_p)), (a_w, (oc6 6 6 a_wn e_w)), (a_wn, (arI G 36 f_w)), (a_bb, (arJ G 24 f_bb)), (a_j, (oc2 a_as a_sk)), (a_as, (arI G 8 z15)), (a_sk, (arJ G 50 z16)), (a_l, (arW G 6 f_l)), (a_lo, (oc3 e_cl a_hd a_sr a_cd)), (a_sr, (arI G n_sr f_sr)), (a_cd, (arI G n_cd f_cd)), (a_hd, (arI G n_hd f_hd)), (a_pt, (arI G 200 z14)), (a_ha, (oc0 a_h a_k z17 z18 z19))] hP hD ?_
      clear hP hD
      intro hP hD
      refine lv_iload_n hx hb dX11_hang_18 rfl (lv_at hl 1 rfl) ?_
      refine W.eq (g2 := F0 m 19 ls [.int p_t]) rfl ?_
      refine lv_if_ne (tgt := 32) hx hb dX11_hang_19 (by decide +kernel) (fun c_20 => ?_) (fun c_20 => ?_)
      ·
        have n_20 : gNe (p_t.toInt) (0) := g5_ne (a := p_t.toInt) (b := 0) rfl (by decide +kernel) c_20
        have i_20 : p_t.toInt ≥ 1 := by have z := g5_ne (a := p_t.toInt) (b := 0) (by rfl) (by decide +kernel) c_20; omega
        refine lv_iload_n hx hb dX11_hang_32 rfl (lv_at hl 1 rfl) ?_
        refine lv_iconst (v := 1) hx hb dX11_hang_33 (by decide +kernel) ?_
        refine lv_icmp_ne (tgt := 47) hx hb dX11_hang_34 (by decide +kernel) (fun c_21 => ?_) (fun c_21 => ?_)
        ·
          have n_21 : gNe (p_t.toInt) (1) := g5_ne (a := p_t.toInt) (b := 1) rfl (by decide +kernel) c_21
          have i_21 : p_t.toInt ≥ 2 := by have z := g5_ne (a := p_t.toInt) (b := 1) (by rfl) (by decide +kernel) c_21; omega
          refine lv_aload_n hx hb dX11_hang_47 rfl (lv_at hl 0 rfl) ?_
          refine va_get (D := G.1) (ci := 11) (v := .ref a_ha) (C := RX11) (T := TX11) (N := 17) hx hb hts inG_X11 hown hK hP 0 rfl rfl 6 (by decide +kernel) (hts _ fl_X11_52) (fun _ h9 => h9) rfl dX11_hang_48 ?_
          refine va_get (D := G.1) (ci := 0) (v := .int z19) (C := RX0) (T := TX0) (N := 5) hx hb hts inG_X0 hown hK hP 21 rfl rfl 4 (by decide +kernel) (hts _ fl_X11_324) (fun _ h9 => h9) rfl dX11_hang_51 ?_
          exact W.iret (v := z19) hx hb hr (fun t ht hW => ⟨⟨z19, [(a_o, (oc11 a_h a_im a_ke a_k a_wa a_th a_ha a_wk a_r a_x e_tl e_fd e_fpl a_wd e_wn a_rf e_lr)), (a_k, (oc5 a_h a_j a_pt z4 z5 z6 z7 z8 z9 z10 z11 z12 z13)), (a_h, (oc1 e_wa e_le e_st e_fo e_lc a_l a_g a_b a_s a_p a_w e_gb a_bb)), (a_g, (oc6 6 5 a_gn e_g)), (a_gn, (arI G 30 f_g)), (a_b, (oc6 5 24 a_bn e_b)), (a_bn, (arI G 120 f_b)), (a_p, (oc6 8 5 a_pn e_p)), (a_pn, (arI G 40 f_p)), (a_w, (oc6 6 6 a_wn e_w)), (a_wn, (arI G 36 f_w)), (a_bb, (arJ G 24 f_bb)), (a_j, (oc2 a_as a_sk)), (a_as, (arI G 8 z15)), (a_sk, (arJ G 50 z16)), (a_l, (arW G 6 f_l)), (a_lo, (oc3 e_cl a_hd a_sr a_cd)), (a_sr, (arI G n_sr f_sr)), (a_cd, (arI G n_cd f_cd)), (a_hd, (arI G n_hd f_hd)), (a_pt, (arI G 200 z14)), (a_ha, (oc0 a_h a_k z17 z18 z19))], rfl, ⟨z19, z4, z5, z6, z7, z8, z9, z10, z11, z12, z13, z14, z15, z16, z17, z18, z19, i_3, rfl, rfl⟩, by rw [ht]; exact hP.sub [0, 1, 2, 3, 4, 5, 6, 7, 8, 9, 10, 11, 12, 13, 14, 15, 16, 17, 18, 19, 20, 21] rfl, hD.sub [0, 1, 2, 3, 4, 5, 6, 7, 8, 9, 10, 11, 12, 13, 14, 15, 16, 17, 18, 19, 20, 21] (by decide +kernel) rfl⟩, hS.F ht⟩) hS.2.2 dX11_hang_54
        ·
          have i_21 : p_t.toInt = 1 := g5_neN (a := p_t.toInt) (b := 1) rfl (by decide +kernel) c_21
          refine lv_aload_n hx hb dX11_hang_37 rfl (lv_at hl 0 rfl) ?_
          refine va_get (D := G.1) (ci := 11) (v := .ref a_ha) (C := RX11) (T := TX11) (N := 17) hx hb hts inG_X11 hown hK hP 0 rfl rfl 6 (by decide +kernel) (hts _ fl_X11_52) (fun _ h9 => h9) rfl dX11_hang_38 ?_
          refine va_get (D := G.1) (ci := 0) (v := .int z18) (C := RX0) (T := TX0) (N := 5) hx hb hts inG_X0 hown hK hP 21 rfl rfl 3 (by decide +kernel) (hts _ fl_X11_321) (fun _ h9 => h9) rfl dX11_hang_41 ?_
          refine lv_goto (tgt := 54) hx hb dX11_hang_44 (by decide +kernel) ?_
          refine W.eq (g2 := F0 m 54 ls [.int z18]) rfl ?_
          exact W.iret (v := z18) hx hb hr (fun t ht hW => ⟨⟨z18, [(a_o, (oc11 a_h a_im a_ke a_k a_wa a_th a_ha a_wk a_r a_x e_tl e_fd e_fpl a_wd e_wn a_rf e_lr)), (a_k, (oc5 a_h a_j a_pt z4 z5 z6 z7 z8 z9 z10 z11 z12 z13)), (a_h, (oc1 e_wa e_le e_st e_fo e_lc a_l a_g a_b a_s a_p a_w e_gb a_bb)), (a_g, (oc6 6 5 a_gn e_g)), (a_gn, (arI G 30 f_g)), (a_b, (oc6 5 24 a_bn e_b)), (a_bn, (arI G 120 f_b)), (a_p, (oc6 8 5 a_pn e_p)), (a_pn, (arI G 40 f_p)), (a_w, (oc6 6 6 a_wn e_w)), (a_wn, (arI G 36 f_w)), (a_bb, (arJ G 24 f_bb)), (a_j, (oc2 a_as a_sk)), (a_as, (arI G 8 z15)), (a_sk, (arJ G 50 z16)), (a_l, (arW G 6 f_l)), (a_lo, (oc3 e_cl a_hd a_sr a_cd)), (a_sr, (arI G n_sr f_sr)), (a_cd, (arI G n_cd f_cd)), (a_hd, (arI G n_hd f_hd)), (a_pt, (arI G 200 z14)), (a_ha, (oc0 a_h a_k z17 z18 z19))], rfl, ⟨z18, z4, z5, z6, z7, z8, z9, z10, z11, z12, z13, z14, z15, z16, z17, z18, z19, i_3, rfl, rfl⟩, by rw [ht]; exact hP.sub [0, 1, 2, 3, 4, 5, 6, 7, 8, 9, 10, 11, 12, 13, 14, 15, 16, 17, 18, 19, 20, 21] rfl, hD.sub [0, 1, 2, 3, 4, 5, 6, 7, 8, 9, 10, 11, 12, 13, 14, 15, 16, 17, 18, 19, 20, 21] (by decide +kernel) rfl⟩, hS.F ht⟩) hS.2.2 dX11_hang_54
      ·
        have i_20 : p_t.toInt = 0 := g5_neN (a := p_t.toInt) (b := 0) rfl (by decide +kernel) c_20
        refine lv_aload_n hx hb dX11_hang_22 rfl (lv_at hl 0 rfl) ?_
        refine va_get (D := G.1) (ci := 11) (v := .ref a_ha) (C := RX11) (T := TX11) (N := 17) hx hb hts inG_X11 hown hK hP 0 rfl rfl 6 (by decide +kernel) (hts _ fl_X11_52) (fun _ h9 => h9) rfl dX11_hang_23 ?_
        refine va_get (D := G.1) (ci := 0) (v := .int z17) (C := RX0) (T := TX0) (N := 5) hx hb hts inG_X0 hown hK hP 21 rfl rfl 2 (by decide +kernel) (hts _ fl_X11_318) (fun _ h9 => h9) rfl dX11_hang_26 ?_
        refine lv_goto (tgt := 54) hx hb dX11_hang_29 (by decide +kernel) ?_
        refine W.eq (g2 := F0 m 54 ls [.int z17]) rfl ?_
        exact W.iret (v := z17) hx hb hr (fun t ht hW => ⟨⟨z17, [(a_o, (oc11 a_h a_im a_ke a_k a_wa a_th a_ha a_wk a_r a_x e_tl e_fd e_fpl a_wd e_wn a_rf e_lr)), (a_k, (oc5 a_h a_j a_pt z4 z5 z6 z7 z8 z9 z10 z11 z12 z13)), (a_h, (oc1 e_wa e_le e_st e_fo e_lc a_l a_g a_b a_s a_p a_w e_gb a_bb)), (a_g, (oc6 6 5 a_gn e_g)), (a_gn, (arI G 30 f_g)), (a_b, (oc6 5 24 a_bn e_b)), (a_bn, (arI G 120 f_b)), (a_p, (oc6 8 5 a_pn e_p)), (a_pn, (arI G 40 f_p)), (a_w, (oc6 6 6 a_wn e_w)), (a_wn, (arI G 36 f_w)), (a_bb, (arJ G 24 f_bb)), (a_j, (oc2 a_as a_sk)), (a_as, (arI G 8 z15)), (a_sk, (arJ G 50 z16)), (a_l, (arW G 6 f_l)), (a_lo, (oc3 e_cl a_hd a_sr a_cd)), (a_sr, (arI G n_sr f_sr)), (a_cd, (arI G n_cd f_cd)), (a_hd, (arI G n_hd f_hd)), (a_pt, (arI G 200 z14)), (a_ha, (oc0 a_h a_k z17 z18 z19))], rfl, ⟨z17, z4, z5, z6, z7, z8, z9, z10, z11, z12, z13, z14, z15, z16, z17, z18, z19, i_3, rfl, rfl⟩, by rw [ht]; exact hP.sub [0, 1, 2, 3, 4, 5, 6, 7, 8, 9, 10, 11, 12, 13, 14, 15, 16, 17, 18, 19, 20, 21] rfl, hD.sub [0, 1, 2, 3, 4, 5, 6, 7, 8, 9, 10, 11, 12, 13, 14, 15, 16, 17, 18, 19, 20, 21] (by decide +kernel) rfl⟩, hS.F ht⟩) hS.2.2 dX11_hang_54
    ·
      have i_2 : p_t.toInt > 2 := g5_leN (a := p_t.toInt) (b := 2) rfl (by decide +kernel) c_2
      refine lv_iconst (v := (-1)) hx hb dX11_hang_9 (by decide +kernel) ?_
      exact W.iret (v := (-1)) hx hb hr (fun t ht hW => ⟨⟨(-1), [(a_o, (oc11 a_h a_im a_ke a_k a_wa a_th a_ha a_wk a_r a_x e_tl e_fd e_fpl a_wd e_wn a_rf e_lr)), (a_k, (oc5 a_h a_j a_pt e_ln e_se e_lh e_br e_we e_me e_ce e_wy e_ho e_ov)), (a_h, (oc1 e_wa e_le e_st e_fo e_lc a_l a_g a_b a_s a_p a_w e_gb a_bb)), (a_g, (oc6 6 5 a_gn e_g)), (a_gn, (arI G 30 f_g)), (a_b, (oc6 5 24 a_bn e_b)), (a_bn, (arI G 120 f_b)), (a_p, (oc6 8 5 a_pn e_p)), (a_pn, (arI G 40 f_p)), (a_w, (oc6 6 6 a_wn e_w)), (a_wn, (arI G 36 f_w)), (a_bb, (arJ G 24 f_bb)), (a_j, (oc2 a_as a_sk)), (a_as, (arI G 8 f_as)), (a_sk, (arJ G 50 f_sk)), (a_l, (arW G 6 f_l)), (a_lo, (oc3 e_cl a_hd a_sr a_cd)), (a_sr, (arI G n_sr f_sr)), (a_cd, (arI G n_cd f_cd)), (a_hd, (arI G n_hd f_hd)), (a_pt, (arI G 200 f_pt)), (a_ha, (oc0 a_h a_k e_f1 e_f2 e_f3))], rfl, ⟨(-1), e_ln, e_se, e_lh, e_br, e_we, e_me, e_ce, e_wy, e_ho, e_ov, f_pt, f_as, f_sk, e_f1, e_f2, e_f3, h_e_ov, rfl, rfl⟩, by rw [ht]; exact hP.sub [0, 1, 2, 3, 4, 5, 6, 7, 8, 9, 10, 11, 12, 13, 14, 15, 16, 17, 18, 19, 20, 21] rfl, hD.sub [0, 1, 2, 3, 4, 5, 6, 7, 8, 9, 10, 11, 12, 13, 14, 15, 16, 17, 18, 19, 20, 21] (by decide +kernel) rfl⟩, hS.F ht⟩) hS.2.2 dX11_hang_10
set_option maxHeartbeats 4000000 in
set_option maxRecDepth 100000 in
theorem x_soonestL (l : Launch) (G : g5_G) (a_o a_k a_h a_g a_gn a_b a_bn a_p a_pn a_bb a_j a_as a_sk a_l a_lo a_sr a_cd a_hd a_pt a_wk a_go a_mt a_im a_ke a_wa a_th a_ha a_r a_x a_wd a_rf a_s a_w : Nat) (sz : Nat) (e_tl : Int32) (e_fd : Int32) (e_fpl : Int32) (e_wn : Int32) (e_lr : Int32) (e_le : Int32) (e_st : Int32) (e_fo : Int32) (e_lc : Int32) (e_g : Int32) (e_b : Int32) (e_p : Int32) (e_cl : Int32) (e_ln : Int32) (e_se : Int32) (e_lh : Int32) (e_br : Int32) (e_we : Int32) (e_me : Int32) (e_ce : Int32) (e_wy : Int32) (e_ho : Int32) (e_ov : Int32) (p_b : Int32) (p_c : Int32) (p_h : Int32) (e_wa : Int64) (e_gb : Int64) (f_g : Nat → Int32) (f_b : Nat → Int32) (f_p : Nat → Int32) (f_bb : Nat → Int64) (f_as : Nat → Int32) (f_sk : Nat → Int64) (f_l : Nat → Option Nat) (f_sr : Nat → Int32) (f_cd : Nat → Int32) (f_hd : Nat → Int32) (f_pt : Nat → Int32) (f_go : Nat → Int64) (f_mt : Nat → Int32) (n_sr : Nat) (n_cd : Nat) (n_hd : Nat) (h_e_tl : 0 ≤ e_tl.toInt ∧ e_tl.toInt ≤ 400) (h_e_wn : 0 ≤ e_wn.toInt ∧ e_wn.toInt ≤ 1) (h_e_g : 0 ≤ e_g.toInt ∧ e_g.toInt ≤ 6) (h_e_b : 0 ≤ e_b.toInt ∧ e_b.toInt ≤ 5) (h_e_p : 0 ≤ e_p.toInt ∧ e_p.toInt ≤ 8) (h_e_cl : 0 ≤ e_cl.toInt ∧ e_cl.toInt ≤ 12) (h_e_ov : 0 ≤ e_ov.toInt ∧ e_ov.toInt ≤ 1) (e_gk : gOK f_g e_g.toInt) (e_pk : gOK f_p e_p.toInt) (e_gi : inT e_gb f_g e_g.toInt) (e_f : 0 ≤ e_fo.toInt ∧ e_fo.toInt < e_lc.toInt ∧ e_lc.toInt ≤ 6) (e_a : f_l e_fo.toNatClampNeg = some a_lo) (e_hn : n_cd ≤ 400) (e_hs : ∀ j : Nat, j < n_sr → 0 ≤ (f_sr j).toInt ∧ (f_sr j).toInt ≤ (n_cd : Int)) (e_hk : ∀ j : Nat, j < n_cd → (f_cd j >>> (12 &&& 31)).toInt = 1 → (f_cd j &&& 4095).toInt < 8) (e_c : (e_cl.toInt : Int) ≤ (n_hd : Int) ∧ (e_cl.toInt + 1 : Int) ≤ (n_sr : Int)) : Met l yX11_soonest (wsG yX11_soonest cX11_soonest 4 (some .int)) ({ frames := 16, cells := 0, slots := 0, locals := 612 }) (va_Pc [.ref a_o, .int p_b, .int p_c, .int p_h] (g5_P G [(a_o, (oc11 a_h a_im a_ke a_k a_wa a_th a_ha a_wk a_r a_x e_tl e_fd e_fpl a_wd e_wn a_rf e_lr)), (a_k, (oc5 a_h a_j a_pt e_ln e_se e_lh e_br e_we e_me e_ce e_wy e_ho e_ov)), (a_h, (oc1 e_wa e_le e_st e_fo e_lc a_l a_g a_b a_s a_p a_w e_gb a_bb)), (a_g, (oc6 6 5 a_gn e_g)), (a_gn, (arI G 30 f_g)), (a_b, (oc6 5 24 a_bn e_b)), (a_bn, (arI G 120 f_b)), (a_p, (oc6 8 5 a_pn e_p)), (a_pn, (arI G 40 f_p)), (a_bb, (arJ G 24 f_bb)), (a_j, (oc2 a_as a_sk)), (a_as, (arI G 8 f_as)), (a_sk, (arJ G 50 f_sk)), (a_l, (arW G 6 f_l)), (a_lo, (oc3 e_cl a_hd a_sr a_cd)), (a_sr, (arI G n_sr f_sr)), (a_cd, (arI G n_cd f_cd)), (a_hd, (arI G n_hd f_hd)), (a_pt, (arI G 200 f_pt)), (a_wk, (oc9 a_h a_k a_go a_mt)), (a_go, (arJ G 24 f_go)), (a_mt, (arI G 1536 f_mt))] sz)) (va_Qi (fun (r : Int32) (u : va_W) => (∃ (o_r : Int32) (o_ln : Int32) (o_se : Int32) (o_lh : Int32) (o_br : Int32) (o_we : Int32) (o_me : Int32) (o_ce : Int32) (o_wy : Int32) (o_ho : Int32) (o_ov : Int32) (o_pt : Nat → Int32) (o_as : Nat → Int32) (o_sk : Nat → Int64) (o_go : Nat → Int64) (o_mt : Nat → Int32), (0 ≤ o_ov.toInt ∧ o_ov.toInt ≤ 1) ∧ (r = o_r) ∧ (u = [(a_o, (oc11 a_h a_im a_ke a_k a_wa a_th a_ha a_wk a_r a_x e_tl e_fd e_fpl a_wd e_wn a_rf e_lr)), (a_k, (oc5 a_h a_j a_pt o_ln o_se o_lh o_br o_we o_me o_ce o_wy o_ho o_ov)), (a_h, (oc1 e_wa e_le e_st e_fo e_lc a_l a_g a_b a_s a_p a_w e_gb a_bb)), (a_g, (oc6 6 5 a_gn e_g)), (a_gn, (arI G 30 f_g)), (a_b, (oc6 5 24 a_bn e_b)), (a_bn, (arI G 120 f_b)), (a_p, (oc6 8 5 a_pn e_p)), (a_pn, (arI G 40 f_p)), (a_bb, (arJ G 24 f_bb)), (a_j, (oc2 a_as a_sk)), (a_as, (arI G 8 o_as)), (a_sk, (arJ G 50 o_sk)), (a_l, (arW G 6 f_l)), (a_lo, (oc3 e_cl a_hd a_sr a_cd)), (a_sr, (arI G n_sr f_sr)), (a_cd, (arI G n_cd f_cd)), (a_hd, (arI G n_hd f_hd)), (a_pt, (arI G 200 o_pt)), (a_wk, (oc9 a_h a_k a_go a_mt)), (a_go, (arJ G 24 o_go)), (a_mt, (arI G 1536 o_mt))]))) (g5_B G (va_A [(a_o, (oc11 a_h a_im a_ke a_k a_wa a_th a_ha a_wk a_r a_x e_tl e_fd e_fpl a_wd e_wn a_rf e_lr)), (a_k, (oc5 a_h a_j a_pt e_ln e_se e_lh e_br e_we e_me e_ce e_wy e_ho e_ov)), (a_h, (oc1 e_wa e_le e_st e_fo e_lc a_l a_g a_b a_s a_p a_w e_gb a_bb)), (a_g, (oc6 6 5 a_gn e_g)), (a_gn, (arI G 30 f_g)), (a_b, (oc6 5 24 a_bn e_b)), (a_bn, (arI G 120 f_b)), (a_p, (oc6 8 5 a_pn e_p)), (a_pn, (arI G 40 f_p)), (a_bb, (arJ G 24 f_bb)), (a_j, (oc2 a_as a_sk)), (a_as, (arI G 8 f_as)), (a_sk, (arJ G 50 f_sk)), (a_l, (arW G 6 f_l)), (a_lo, (oc3 e_cl a_hd a_sr a_cd)), (a_sr, (arI G n_sr f_sr)), (a_cd, (arI G n_cd f_cd)), (a_hd, (arI G n_hd f_hd)), (a_pt, (arI G 200 f_pt)), (a_wk, (oc9 a_h a_k a_go a_mt)), (a_go, (arJ G 24 f_go)), (a_mt, (arI G 1536 f_mt))] sz)) (va_A [(a_o, (oc11 a_h a_im a_ke a_k a_wa a_th a_ha a_wk a_r a_x e_tl e_fd e_fpl a_wd e_wn a_rf e_lr)), (a_k, (oc5 a_h a_j a_pt e_ln e_se e_lh e_br e_we e_me e_ce e_wy e_ho e_ov)), (a_h, (oc1 e_wa e_le e_st e_fo e_lc a_l a_g a_b a_s a_p a_w e_gb a_bb)), (a_g, (oc6 6 5 a_gn e_g)), (a_gn, (arI G 30 f_g)), (a_b, (oc6 5 24 a_bn e_b)), (a_bn, (arI G 120 f_b)), (a_p, (oc6 8 5 a_pn e_p)), (a_pn, (arI G 40 f_p)), (a_bb, (arJ G 24 f_bb)), (a_j, (oc2 a_as a_sk)), (a_as, (arI G 8 f_as)), (a_sk, (arJ G 50 f_sk)), (a_l, (arW G 6 f_l)), (a_lo, (oc3 e_cl a_hd a_sr a_cd)), (a_sr, (arI G n_sr f_sr)), (a_cd, (arI G n_cd f_cd)), (a_hd, (arI G n_hd f_hd)), (a_pt, (arI G 200 f_pt)), (a_wk, (oc9 a_h a_k a_go a_mt)), (a_go, (arJ G 24 f_go)), (a_mt, (arI G 1536 f_mt))] sz)) 0 0 (va_A [(a_o, (oc11 a_h a_im a_ke a_k a_wa a_th a_ha a_wk a_r a_x e_tl e_fd e_fpl a_wd e_wn a_rf e_lr)), (a_k, (oc5 a_h a_j a_pt e_ln e_se e_lh e_br e_we e_me e_ce e_wy e_ho e_ov)), (a_h, (oc1 e_wa e_le e_st e_fo e_lc a_l a_g a_b a_s a_p a_w e_gb a_bb)), (a_g, (oc6 6 5 a_gn e_g)), (a_gn, (arI G 30 f_g)), (a_b, (oc6 5 24 a_bn e_b)), (a_bn, (arI G 120 f_b)), (a_p, (oc6 8 5 a_pn e_p)), (a_pn, (arI G 40 f_p)), (a_bb, (arJ G 24 f_bb)), (a_j, (oc2 a_as a_sk)), (a_as, (arI G 8 f_as)), (a_sk, (arJ G 50 f_sk)), (a_l, (arW G 6 f_l)), (a_lo, (oc3 e_cl a_hd a_sr a_cd)), (a_sr, (arI G n_sr f_sr)), (a_cd, (arI G n_cd f_cd)), (a_hd, (arI G n_hd f_hd)), (a_pt, (arI G 200 f_pt)), (a_wk, (oc9 a_h a_k a_go a_mt)), (a_go, (arJ G 24 f_go)), (a_mt, (arI G 1536 f_mt))] sz) := by
  refine Met.ofW (cc := cX11_soonest) (maxL := 4) (ret := (some .int)) (by decide +kernel) rfl ?_
  intro p e s m args below meth c s₁ B hml hv
  obtain ⟨rfl, hsz, hP, hK, hD0, hN, hT⟩ := hv
  have hx := B.exec
  have hb := B.bytes
  have hr := B.returns
  have hts : ∀ w ∈ tblG, w.before _ s = true := fun w h => atoms_spec (ws := (wsG yX11_soonest cX11_soonest 4 (some .int))) B.pre w (List.mem_cons_of_mem _ h)
  have hown : s.vm.findClass RX11 = some m.cls := findClass_of_methodNamed B.named
  have hlocks := B.notSynchronized
  subst hsz
  have hD := hD0.self (sz := s.heap.size)
  generalize hAe : va_A [(a_o, (oc11 a_h a_im a_ke a_k a_wa a_th a_ha a_wk a_r a_x e_tl e_fd e_fpl a_wd e_wn a_rf e_lr)), (a_k, (oc5 a_h a_j a_pt e_ln e_se e_lh e_br e_we e_me e_ce e_wy e_ho e_ov)), (a_h, (oc1 e_wa e_le e_st e_fo e_lc a_l a_g a_b a_s a_p a_w e_gb a_bb)), (a_g, (oc6 6 5 a_gn e_g)), (a_gn, (arI G 30 f_g)), (a_b, (oc6 5 24 a_bn e_b)), (a_bn, (arI G 120 f_b)), (a_p, (oc6 8 5 a_pn e_p)), (a_pn, (arI G 40 f_p)), (a_bb, (arJ G 24 f_bb)), (a_j, (oc2 a_as a_sk)), (a_as, (arI G 8 f_as)), (a_sk, (arJ G 50 f_sk)), (a_l, (arW G 6 f_l)), (a_lo, (oc3 e_cl a_hd a_sr a_cd)), (a_sr, (arI G n_sr f_sr)), (a_cd, (arI G n_cd f_cd)), (a_hd, (arI G n_hd f_hd)), (a_pt, (arI G 200 f_pt)), (a_wk, (oc9 a_h a_k a_go a_mt)), (a_go, (arJ G 24 f_go)), (a_mt, (arI G 1536 f_mt))] s.heap.size = A at hD hT ⊢
  have hA : ∀ q : Nat, s.heap.size ≤ q → A q := fun q h => by rw [← hAe]; exact Or.inr h
  have hS : va_S A s.heap s.heap [] := va_S.rf
  replace hP : va_P G.1 vwCl [(a_o, (oc11 a_h a_im a_ke a_k a_wa a_th a_ha a_wk a_r a_x e_tl e_fd e_fpl a_wd e_wn a_rf e_lr)), (a_k, (oc5 a_h a_j a_pt e_ln e_se e_lh e_br e_we e_me e_ce e_wy e_ho e_ov)), (a_h, (oc1 e_wa e_le e_st e_fo e_lc a_l a_g a_b a_s a_p a_w e_gb a_bb)), (a_g, (oc6 6 5 a_gn e_g)), (a_gn, (arI G 30 f_g)), (a_b, (oc6 5 24 a_bn e_b)), (a_bn, (arI G 120 f_b)), (a_p, (oc6 8 5 a_pn e_p)), (a_pn, (arI G 40 f_p)), (a_bb, (arJ G 24 f_bb)), (a_j, (oc2 a_as a_sk)), (a_as, (arI G 8 f_as)), (a_sk, (arJ G 50 f_sk)), (a_l, (arW G 6 f_l)), (a_lo, (oc3 e_cl a_hd a_sr a_cd)), (a_sr, (arI G n_sr f_sr)), (a_cd, (arI G n_cd f_cd)), (a_hd, (arI G n_hd f_hd)), (a_pt, (arI G 200 f_pt)), (a_wk, (oc9 a_h a_k a_go a_mt)), (a_go, (arJ G 24 f_go)), (a_mt, (arI G 1536 f_mt))] s.heap := hP
  have hl := lv_entry ([.ref a_o, .int p_b, .int p_c, .int p_h]) (n := 4) (Nat.le_of_ble_eq_true rfl)
  rw [lg_entry_eq]
  generalize (lg_sl ([.ref a_o, .int p_b, .int p_c, .int p_h]) ++ List.replicate (4 - (lg_sl ([.ref a_o, .int p_b, .int p_c, .int p_h])).length) Slot.unset).toArray = ls at hl ⊢
  replace hl : lv_has ls 4 [(0, .ref a_o), (1, .int p_b), (2, .int p_c), (3, .int p_h)] := hl
  refine lv_aload_n hx hb dX11_soonest_0 rfl (lv_at hl 0 rfl) ?_
  refine lv_iload_n hx hb dX11_soonest_1 rfl (lv_at hl 1 rfl) ?_
  refine lv_iload_n hx hb dX11_soonest_2 rfl (lv_at hl 2 rfl) ?_
  refine lv_iload_n hx hb dX11_soonest_3 rfl (lv_at hl 3 rfl) ?_
  refine W.eq (g2 := F0 m 4 ls [.int p_h, .int p_c, .int p_b, .ref a_o]) rfl ?_
  obtain ⟨hPc, hDc, hFc⟩ := g5_sub3 (wc := [(a_o, (oc11 a_h a_im a_ke a_k a_wa a_th a_ha a_wk a_r a_x e_tl e_fd e_fpl a_wd e_wn a_rf e_lr)), (a_h, (oc1 e_wa e_le e_st e_fo e_lc a_l a_g a_b a_s a_p a_w e_gb a_bb)), (a_b, (oc6 5 24 a_bn e_b))]) hP hD hS hA [0, 2, 5] (by decide +kernel) rfl
  refine va_calli (va_runV (As := [.int p_b, .int p_c, .int p_h]) (rest := []) ⟨hx, hb, hml, hown, hts⟩ (x_canWalk l G a_o a_h a_b a_im a_ke a_k a_wa a_th a_ha a_wk a_r a_x a_wd a_rf a_l a_g a_s a_p a_w a_bb a_bn s.heap.size e_tl e_fd e_fpl e_wn e_lr e_le e_st e_fo e_lc e_b p_b p_c p_h e_wa e_gb h_e_tl h_e_wn h_e_b) (cwV 3 hts gV_X11_327 rfl rfl rfl hv_X11_canWalk ⟨Nat.le_of_ble_eq_true rfl, Nat.le_of_ble_eq_true rfl⟩) (g5_preV hPc hK hDc hN hT hS hFc (ci := 11) (q0 := 0) rfl rfl) rfl rfl hl.1 rfl (lv_room (Nat.le_of_ble_eq_true rfl)) dX11_soonest_4 ⟨Nat.le_of_ble_eq_true rfl, Nat.le_of_ble_eq_true rfl⟩) hS (fun q _ h => hFc q h) hFc (fun r u t H locs ht hvm hw hB hz1 hk1 hS => ?_)
  obtain ⟨hP1, hD1⟩ := hB
  have hP1 := g5_ht ht hP1
  rcases hw with ⟨(i_1 : 0 ≤ p_c.toInt ∧ p_c.toInt ≤ 63), (i_2 : 0 ≤ p_h.toInt ∧ p_h.toInt ≤ 23), rfl, rfl⟩ | ⟨rfl, rfl⟩
  ·
    have hJ9 := va_join (wr := [(a_k, (oc5 a_h a_j a_pt e_ln e_se e_lh e_br e_we e_me e_ce e_wy e_ho e_ov)), (a_g, (oc6 6 5 a_gn e_g)), (a_gn, (arI G 30 f_g)), (a_bn, (arI G 120 f_b)), (a_p, (oc6 8 5 a_pn e_p)), (a_pn, (arI G 40 f_p)), (a_bb, (arJ G 24 f_bb)), (a_j, (oc2 a_as a_sk)), (a_as, (arI G 8 f_as)), (a_sk, (arJ G 50 f_sk)), (a_l, (arW G 6 f_l)), (a_lo, (oc3 e_cl a_hd a_sr a_cd)), (a_sr, (arI G n_sr f_sr)), (a_cd, (arI G n_cd f_cd)), (a_hd, (arI G n_hd f_hd)), (a_pt, (arI G 200 f_pt)), (a_wk, (oc9 a_h a_k a_go a_mt)), (a_go, (arJ G 24 f_go)), (a_mt, (arI G 1536 f_mt))]) hP hD [0, 2, 5] [1, 3, 4, 6, 7, 8, 9, 10, 11, 12, 13, 14, 15, 16, 17, 18, 19, 20, 21] rfl rfl (by decide +kernel) (by decide +kernel) hk1 hFc hP1 hD1
    clear hP hD hPc hDc hFc ht hvm hz1 hk1 hP1 hD1
    obtain ⟨hP, hD⟩ := hJ9
    refine g5_rs [(a_k, (oc5 a_h a_j a_pt e_ln e_se e_lh e_br e_we e_me e_ce e_wy e_ho e_ov)), (a_g, (oc6 6 5 a_gn e_g)), (a_gn, (arI G 30 f_g)), (a_bn, (arI G 120 f_b)), (a_p, (oc6 8 5 a_pn e_p)), (a_pn, (arI G 40 f_p)), (a_bb, (arJ G 24 f_bb)), (a_j, (oc2 a_as a_sk)), (a_as, (arI G 8 f_as)), (a_sk, (arJ G 50 f_sk)), (a_l, (arW G 6 f_l)), (a_lo, (oc3 e_cl a_hd a_sr a_cd)), (a_sr, (arI G n_sr f_sr)), (a_cd, (arI G n_cd f_cd)), (a_hd, (arI G n_hd f_hd)), (a_pt, (arI G 200 f_pt)), (a_wk, (oc9 a_h a_k a_go a_mt)), (a_go, (arJ G 24 f_go)), (a_mt, (arI G 1536 f_mt)), (a_o, (oc11 a_h a_im a_ke a_k a_wa a_th a_ha a_wk a_r a_x e_tl e_fd e_fpl a_wd e_wn a_rf e_lr)), (a_h, (oc1 e_wa e_le e_st e_fo e_lc a_l a_g a_b a_s a_p a_w e_gb a_bb)), (a_b, (oc6 5 24 a_bn e_b))] hP hD ?_
    clear hP hD
    intro hP hD
    refine lv_if_ne (tgt := 12) hx hb dX11_soonest_7 (by decide +kernel) (fun c_3 => ?_) (fun c_3 => ?_)
    ·
      refine lv_aload_n hx hb dX11_soonest_12 rfl (lv_at hl 0 rfl) ?_
      refine va_get (D := G.1) (ci := 11) (v := .ref a_wk) (C := RX11) (T := TX11) (N := 17) hx hb hts inG_X11 hown hK hP 19 rfl rfl 7 (by decide +kernel) (hts _ fl_X11_59) (fun _ h9 => h9) rfl dX11_soonest_13 ?_
      refine lv_iload_n hx hb dX11_soonest_16 rfl (lv_at hl 1 rfl) ?_
      refine lv_iload_n hx hb dX11_soonest_17 rfl (lv_at hl 2 rfl) ?_
      refine W.eq (g2 := F0 m 18 ls [.int p_c, .int p_b, .ref a_wk]) rfl ?_
      refine lv_iload_n hx hb dX11_soonest_18 rfl (lv_at hl 3 rfl) ?_
      refine lv_bipush (v := 24) hx hb dX11_soonest_19 (by decide +kernel) ?_
      obtain ⟨hPc, hDc, hFc⟩ := g5_sub3 (wc := [(a_k, (oc5 a_h a_j a_pt e_ln e_se e_lh e_br e_we e_me e_ce e_wy e_ho e_ov)), (a_h, (oc1 e_wa e_le e_st e_fo e_lc a_l a_g a_b a_s a_p a_w e_gb a_bb)), (a_g, (oc6 6 5 a_gn e_g)), (a_gn, (arI G 30 f_g)), (a_b, (oc6 5 24 a_bn e_b)), (a_bn, (arI G 120 f_b)), (a_p, (oc6 8 5 a_pn e_p)), (a_pn, (arI G 40 f_p)), (a_bb, (arJ G 24 f_bb)), (a_j, (oc2 a_as a_sk)), (a_as, (arI G 8 f_as)), (a_sk, (arJ G 50 f_sk)), (a_l, (arW G 6 f_l)), (a_lo, (oc3 e_cl a_hd a_sr a_cd)), (a_sr, (arI G n_sr f_sr)), (a_cd, (arI G n_cd f_cd)), (a_hd, (arI G n_hd f_hd)), (a_pt, (arI G 200 f_pt)), (a_wk, (oc9 a_h a_k a_go a_mt)), (a_go, (arJ G 24 f_go)), (a_mt, (arI G 1536 f_mt))]) hP hD hS hA [0, 20, 1, 2, 21, 3, 4, 5, 6, 7, 8, 9, 10, 11, 12, 13, 14, 15, 16, 17, 18] (by decide +kernel) rfl
      refine va_calli (va_runV (As := [.int p_b, .int p_c, .int p_h, .int 24]) (rest := []) ⟨hx, hb, hml, hown, hts⟩ (a_firstL l G a_k a_h a_g a_gn a_b a_bn a_p a_pn a_bb a_j a_as a_sk a_l a_lo a_sr a_cd a_hd a_pt a_wk a_go a_mt a_s a_w H.size e_le e_st e_fo e_lc e_g e_b e_p e_cl e_ln e_se e_lh e_br e_we e_me e_ce e_wy e_ho e_ov p_b p_c p_h 24 e_wa e_gb f_g f_b f_p f_bb f_as f_sk f_l f_sr f_cd f_hd f_pt f_go f_mt n_sr n_cd n_hd h_e_g h_e_b h_e_p h_e_cl h_e_ov i_1 i_2 ⟨by decide, by decide⟩ (e_gk) (e_pk) (e_gi) (e_f) (e_a) (e_hn) (e_hs) (e_hk) (e_c)) (cwV 4 hts gV_X11_330 rfl rfl rfl hv_X9_firstSight ⟨Nat.le_of_ble_eq_true rfl, Nat.le_of_ble_eq_true rfl⟩) (g5_preV hPc hK hDc hN hT hS hFc (ci := 9) (q0 := 18) rfl rfl) rfl rfl hl.1 rfl (lv_room (Nat.le_of_ble_eq_true rfl)) dX11_soonest_21 ⟨Nat.le_of_ble_eq_true rfl, Nat.le_of_ble_eq_true rfl⟩) hS (fun q _ h => hFc q h) hFc (fun r u t H locs ht hvm hw hB hz1 hk1 hS => ?_)
      obtain ⟨hP1, hD1⟩ := hB
      have hP1 := g5_ht ht hP1
      obtain ⟨z7, z8, z9, z10, z11, z12, z13, z14, z15, z16, z17, z18, z19, z20, z21, z22, (i_4 : 0 ≤ z17.toInt ∧ z17.toInt ≤ 1), (i_5 : -1 ≤ z7.toInt ∧ z7.toInt ≤ 23), (i_6 : z7.toInt = -1 ∨ (p_h.toInt ≤ z7.toInt ∧ z7.toInt < (24 : Int32).toInt)), y23, rfl⟩ := hw
      have hJ9 := va_join (wr := [(a_o, (oc11 a_h a_im a_ke a_k a_wa a_th a_ha a_wk a_r a_x e_tl e_fd e_fpl a_wd e_wn a_rf e_lr))]) hP hD [0, 20, 1, 2, 21, 3, 4, 5, 6, 7, 8, 9, 10, 11, 12, 13, 14, 15, 16, 17, 18] [19] rfl rfl (by decide +kernel) (by decide +kernel) hk1 hFc hP1 hD1
      clear hP hD hPc hDc hFc ht hvm hz1 hk1 hP1 hD1
      obtain ⟨hP, hD⟩ := hJ9
      refine g5_rs [(a_o, (oc11 a_h a_im a_ke a_k a_wa a_th a_ha a_wk a_r a_x e_tl e_fd e_fpl a_wd e_wn a_rf e_lr)), (a_k, (oc5 a_h a_j a_pt z8 z9 z10 z11 z12 z13 z14 z15 z16 z17)), (a_h, (oc1 e_wa e_le e_st e_fo e_lc a_l a_g a_b a_s a_p a_w e_gb a_bb)), (a_g, (oc6 6 5 a_gn e_g)), (a_gn, (arI G 30 f_g)), (a_b, (oc6 5 24 a_bn e_b)), (a_bn, (arI G 120 f_b)), (a_p, (oc6 8 5 a_pn e_p)), (a_pn, (arI G 40 f_p)), (a_bb, (arJ G 24 f_bb)), (a_j, (oc2 a_as a_sk)), (a_as, (arI G 8 z19)), (a_sk, (arJ G 50 z20)), (a_l, (arW G 6 f_l)), (a_lo, (oc3 e_cl a_hd a_sr a_cd)), (a_sr, (arI G n_sr f_sr)), (a_cd, (arI G n_cd f_cd)), (a_hd, (arI G n_hd f_hd)), (a_pt, (arI G 200 z18)), (a_wk, (oc9 a_h a_k a_go a_mt)), (a_go, (arJ G 24 z21)), (a_mt, (arI G 1536 z22))] hP hD ?_
      clear hP hD
      intro hP hD
      refine g5_ti (v := z7) y23 ?_
      exact W.iret (v := z7) hx hb hr (fun t ht hW => ⟨⟨z7, [(a_o, (oc11 a_h a_im a_ke a_k a_wa a_th a_ha a_wk a_r a_x e_tl e_fd e_fpl a_wd e_wn a_rf e_lr)), (a_k, (oc5 a_h a_j a_pt z8 z9 z10 z11 z12 z13 z14 z15 z16 z17)), (a_h, (oc1 e_wa e_le e_st e_fo e_lc a_l a_g a_b a_s a_p a_w e_gb a_bb)), (a_g, (oc6 6 5 a_gn e_g)), (a_gn, (arI G 30 f_g)), (a_b, (oc6 5 24 a_bn e_b)), (a_bn, (arI G 120 f_b)), (a_p, (oc6 8 5 a_pn e_p)), (a_pn, (arI G 40 f_p)), (a_bb, (arJ G 24 f_bb)), (a_j, (oc2 a_as a_sk)), (a_as, (arI G 8 z19)), (a_sk, (arJ G 50 z20)), (a_l, (arW G 6 f_l)), (a_lo, (oc3 e_cl a_hd a_sr a_cd)), (a_sr, (arI G n_sr f_sr)), (a_cd, (arI G n_cd f_cd)), (a_hd, (arI G n_hd f_hd)), (a_pt, (arI G 200 z18)), (a_wk, (oc9 a_h a_k a_go a_mt)), (a_go, (arJ G 24 z21)), (a_mt, (arI G 1536 z22))], rfl, ⟨z7, z8, z9, z10, z11, z12, z13, z14, z15, z16, z17, z18, z19, z20, z21, z22, i_4, rfl, rfl⟩, by rw [ht]; exact hP.sub [0, 1, 2, 3, 4, 5, 6, 7, 8, 9, 10, 11, 12, 13, 14, 15, 16, 17, 18, 19, 20, 21] rfl, hD.sub [0, 1, 2, 3, 4, 5, 6, 7, 8, 9, 10, 11, 12, 13, 14, 15, 16, 17, 18, 19, 20, 21] (by decide +kernel) rfl⟩, hS.F ht⟩) hS.2.2 dX11_soonest_24
    ·
      exact absurd c_3 (by decide +kernel)
  ·
    have hJ9 := va_join (wr := [(a_k, (oc5 a_h a_j a_pt e_ln e_se e_lh e_br e_we e_me e_ce e_wy e_ho e_ov)), (a_g, (oc6 6 5 a_gn e_g)), (a_gn, (arI G 30 f_g)), (a_bn, (arI G 120 f_b)), (a_p, (oc6 8 5 a_pn e_p)), (a_pn, (arI G 40 f_p)), (a_bb, (arJ G 24 f_bb)), (a_j, (oc2 a_as a_sk)), (a_as, (arI G 8 f_as)), (a_sk, (arJ G 50 f_sk)), (a_l, (arW G 6 f_l)), (a_lo, (oc3 e_cl a_hd a_sr a_cd)), (a_sr, (arI G n_sr f_sr)), (a_cd, (arI G n_cd f_cd)), (a_hd, (arI G n_hd f_hd)), (a_pt, (arI G 200 f_pt)), (a_wk, (oc9 a_h a_k a_go a_mt)), (a_go, (arJ G 24 f_go)), (a_mt, (arI G 1536 f_mt))]) hP hD [0, 2, 5] [1, 3, 4, 6, 7, 8, 9, 10, 11, 12, 13, 14, 15, 16, 17, 18, 19, 20, 21] rfl rfl (by decide +kernel) (by decide +kernel) hk1 hFc hP1 hD1
    clear hP hD hPc hDc hFc ht hvm hz1 hk1 hP1 hD1
    obtain ⟨hP, hD⟩ := hJ9
    refine g5_rs [(a_k, (oc5 a_h a_j a_pt e_ln e_se e_lh e_br e_we e_me e_ce e_wy e_ho e_ov)), (a_g, (oc6 6 5 a_gn e_g)), (a_gn, (arI G 30 f_g)), (a_bn, (arI G 120 f_b)), (a_p, (oc6 8 5 a_pn e_p)), (a_pn, (arI G 40 f_p)), (a_bb, (arJ G 24 f_bb)), (a_j, (oc2 a_as a_sk)), (a_as, (arI G 8 f_as)), (a_sk, (arJ G 50 f_sk)), (a_l, (arW G 6 f_l)), (a_lo, (oc3 e_cl a_hd a_sr a_cd)), (a_sr, (arI G n_sr f_sr)), (a_cd, (arI G n_cd f_cd)), (a_hd, (arI G n_hd f_hd)), (a_pt, (arI G 200 f_pt)), (a_wk, (oc9 a_h a_k a_go a_mt)), (a_go, (arJ G 24 f_go)), (a_mt, (arI G 1536 f_mt)), (a_o, (oc11 a_h a_im a_ke a_k a_wa a_th a_ha a_wk a_r a_x e_tl e_fd e_fpl a_wd e_wn a_rf e_lr)), (a_h, (oc1 e_wa e_le e_st e_fo e_lc a_l a_g a_b a_s a_p a_w e_gb a_bb)), (a_b, (oc6 5 24 a_bn e_b))] hP hD ?_
    clear hP hD
    intro hP hD
    refine lv_if_ne (tgt := 12) hx hb dX11_soonest_7 (by decide +kernel) (fun c_24 => ?_) (fun c_24 => ?_)
    ·
      exact absurd c_24 (by decide +kernel)
    ·
      refine lv_iconst (v := (-1)) hx hb dX11_soonest_10 (by decide +kernel) ?_
      exact W.iret (v := (-1)) hx hb hr (fun t ht hW => ⟨⟨(-1), [(a_o, (oc11 a_h a_im a_ke a_k a_wa a_th a_ha a_wk a_r a_x e_tl e_fd e_fpl a_wd e_wn a_rf e_lr)), (a_k, (oc5 a_h a_j a_pt e_ln e_se e_lh e_br e_we e_me e_ce e_wy e_ho e_ov)), (a_h, (oc1 e_wa e_le e_st e_fo e_lc a_l a_g a_b a_s a_p a_w e_gb a_bb)), (a_g, (oc6 6 5 a_gn e_g)), (a_gn, (arI G 30 f_g)), (a_b, (oc6 5 24 a_bn e_b)), (a_bn, (arI G 120 f_b)), (a_p, (oc6 8 5 a_pn e_p)), (a_pn, (arI G 40 f_p)), (a_bb, (arJ G 24 f_bb)), (a_j, (oc2 a_as a_sk)), (a_as, (arI G 8 f_as)), (a_sk, (arJ G 50 f_sk)), (a_l, (arW G 6 f_l)), (a_lo, (oc3 e_cl a_hd a_sr a_cd)), (a_sr, (arI G n_sr f_sr)), (a_cd, (arI G n_cd f_cd)), (a_hd, (arI G n_hd f_hd)), (a_pt, (arI G 200 f_pt)), (a_wk, (oc9 a_h a_k a_go a_mt)), (a_go, (arJ G 24 f_go)), (a_mt, (arI G 1536 f_mt))], rfl, ⟨(-1), e_ln, e_se, e_lh, e_br, e_we, e_me, e_ce, e_wy, e_ho, e_ov, f_pt, f_as, f_sk, f_go, f_mt, h_e_ov, rfl, rfl⟩, by rw [ht]; exact hP.sub [19, 0, 20, 1, 2, 21, 3, 4, 5, 6, 7, 8, 9, 10, 11, 12, 13, 14, 15, 16, 17, 18] rfl, hD.sub [19, 0, 20, 1, 2, 21, 3, 4, 5, 6, 7, 8, 9, 10, 11, 12, 13, 14, 15, 16, 17, 18] (by decide +kernel) rfl⟩, hS.F ht⟩) hS.2.2 dX11_soonest_11
set_option maxHeartbeats 4000000 in
set_option maxRecDepth 100000 in
theorem x_wayL (l : Launch) (G : g5_G) (a_o a_k a_h a_g a_gn a_b a_bn a_p a_pn a_bb a_j a_as a_sk a_l a_lo a_sr a_cd a_hd a_pt a_wk a_go a_mt a_im a_ke a_wa a_th a_ha a_r a_x a_wd a_rf a_s a_w : Nat) (sz : Nat) (e_tl : Int32) (e_fd : Int32) (e_fpl : Int32) (e_wn : Int32) (e_lr : Int32) (e_le : Int32) (e_st : Int32) (e_fo : Int32) (e_lc : Int32) (e_g : Int32) (e_b : Int32) (e_p : Int32) (e_cl : Int32) (e_ln : Int32) (e_se : Int32) (e_lh : Int32) (e_br : Int32) (e_we : Int32) (e_me : Int32) (e_ce : Int32) (e_wy : Int32) (e_ho : Int32) (e_ov : Int32) (p_b : Int32) (p_c : Int32) (p_h : Int32) (p_a : Int32) (e_wa : Int64) (e_gb : Int64) (f_g : Nat → Int32) (f_b : Nat → Int32) (f_p : Nat → Int32) (f_bb : Nat → Int64) (f_as : Nat → Int32) (f_sk : Nat → Int64) (f_l : Nat → Option Nat) (f_sr : Nat → Int32) (f_cd : Nat → Int32) (f_hd : Nat → Int32) (f_pt : Nat → Int32) (f_go : Nat → Int64) (f_mt : Nat → Int32) (n_sr : Nat) (n_cd : Nat) (n_hd : Nat) (h_e_tl : 0 ≤ e_tl.toInt ∧ e_tl.toInt ≤ 400) (h_e_wn : 0 ≤ e_wn.toInt ∧ e_wn.toInt ≤ 1) (h_e_g : 0 ≤ e_g.toInt ∧ e_g.toInt ≤ 6) (h_e_b : 0 ≤ e_b.toInt ∧ e_b.toInt ≤ 5) (h_e_p : 0 ≤ e_p.toInt ∧ e_p.toInt ≤ 8) (h_e_cl : 0 ≤ e_cl.toInt ∧ e_cl.toInt ≤ 12) (h_e_ov : 0 ≤ e_ov.toInt ∧ e_ov.toInt ≤ 1) (e_gk : gOK f_g e_g.toInt) (e_pk : gOK f_p e_p.toInt) (e_gi : inT e_gb f_g e_g.toInt) (e_f : 0 ≤ e_fo.toInt ∧ e_fo.toInt < e_lc.toInt ∧ e_lc.toInt ≤ 6) (e_a : f_l e_fo.toNatClampNeg = some a_lo) (e_hn : n_cd ≤ 400) (e_hs : ∀ j : Nat, j < n_sr → 0 ≤ (f_sr j).toInt ∧ (f_sr j).toInt ≤ (n_cd : Int)) (e_hk : ∀ j : Nat, j < n_cd → (f_cd j >>> (12 &&& 31)).toInt = 1 → (f_cd j &&& 4095).toInt < 8) (e_c : (e_cl.toInt : Int) ≤ (n_hd : Int) ∧ (e_cl.toInt + 1 : Int) ≤ (n_sr : Int)) : Met l yX11_way (wsG yX11_way cX11_way 6 (some .int)) ({ frames := 16, cells := 0, slots := 0, locals := 612 }) (va_Pc [.ref a_o, .int p_b, .int p_c, .int p_h, .int p_a] (g5_P G [(a_o, (oc11 a_h a_im a_ke a_k a_wa a_th a_ha a_wk a_r a_x e_tl e_fd e_fpl a_wd e_wn a_rf e_lr)), (a_k, (oc5 a_h a_j a_pt e_ln e_se e_lh e_br e_we e_me e_ce e_wy e_ho e_ov)), (a_h, (oc1 e_wa e_le e_st e_fo e_lc a_l a_g a_b a_s a_p a_w e_gb a_bb)), (a_g, (oc6 6 5 a_gn e_g)), (a_gn, (arI G 30 f_g)), (a_b, (oc6 5 24 a_bn e_b)), (a_bn, (arI G 120 f_b)), (a_p, (oc6 8 5 a_pn e_p)), (a_pn, (arI G 40 f_p)), (a_bb, (arJ G 24 f_bb)), (a_j, (oc2 a_as a_sk)), (a_as, (arI G 8 f_as)), (a_sk, (arJ G 50 f_sk)), (a_l, (arW G 6 f_l)), (a_lo, (oc3 e_cl a_hd a_sr a_cd)), (a_sr, (arI G n_sr f_sr)), (a_cd, (arI G n_cd f_cd)), (a_hd, (arI G n_hd f_hd)), (a_pt, (arI G 200 f_pt)), (a_wk, (oc9 a_h a_k a_go a_mt)), (a_go, (arJ G 24 f_go)), (a_mt, (arI G 1536 f_mt))] sz)) (va_Qi (fun (r : Int32) (u : va_W) => (∃ (o_r : Int32) (o_ln : Int32) (o_se : Int32) (o_lh : Int32) (o_br : Int32) (o_we : Int32) (o_me : Int32) (o_ce : Int32) (o_wy : Int32) (o_ho : Int32) (o_ov : Int32) (o_pt : Nat → Int32) (o_as : Nat → Int32) (o_sk : Nat → Int64) (o_go : Nat → Int64) (o_mt : Nat → Int32), (0 ≤ o_ov.toInt ∧ o_ov.toInt ≤ 1) ∧ (r = o_r) ∧ (u = [(a_o, (oc11 a_h a_im a_ke a_k a_wa a_th a_ha a_wk a_r a_x e_tl e_fd e_fpl a_wd e_wn a_rf e_lr)), (a_k, (oc5 a_h a_j a_pt o_ln o_se o_lh o_br o_we o_me o_ce o_wy o_ho o_ov)), (a_h, (oc1 e_wa e_le e_st e_fo e_lc a_l a_g a_b a_s a_p a_w e_gb a_bb)), (a_g, (oc6 6 5 a_gn e_g)), (a_gn, (arI G 30 f_g)), (a_b, (oc6 5 24 a_bn e_b)), (a_bn, (arI G 120 f_b)), (a_p, (oc6 8 5 a_pn e_p)), (a_pn, (arI G 40 f_p)), (a_bb, (arJ G 24 f_bb)), (a_j, (oc2 a_as a_sk)), (a_as, (arI G 8 o_as)), (a_sk, (arJ G 50 o_sk)), (a_l, (arW G 6 f_l)), (a_lo, (oc3 e_cl a_hd a_sr a_cd)), (a_sr, (arI G n_sr f_sr)), (a_cd, (arI G n_cd f_cd)), (a_hd, (arI G n_hd f_hd)), (a_pt, (arI G 200 o_pt)), (a_wk, (oc9 a_h a_k a_go a_mt)), (a_go, (arJ G 24 o_go)), (a_mt, (arI G 1536 o_mt))]))) (g5_B G (va_A [(a_o, (oc11 a_h a_im a_ke a_k a_wa a_th a_ha a_wk a_r a_x e_tl e_fd e_fpl a_wd e_wn a_rf e_lr)), (a_k, (oc5 a_h a_j a_pt e_ln e_se e_lh e_br e_we e_me e_ce e_wy e_ho e_ov)), (a_h, (oc1 e_wa e_le e_st e_fo e_lc a_l a_g a_b a_s a_p a_w e_gb a_bb)), (a_g, (oc6 6 5 a_gn e_g)), (a_gn, (arI G 30 f_g)), (a_b, (oc6 5 24 a_bn e_b)), (a_bn, (arI G 120 f_b)), (a_p, (oc6 8 5 a_pn e_p)), (a_pn, (arI G 40 f_p)), (a_bb, (arJ G 24 f_bb)), (a_j, (oc2 a_as a_sk)), (a_as, (arI G 8 f_as)), (a_sk, (arJ G 50 f_sk)), (a_l, (arW G 6 f_l)), (a_lo, (oc3 e_cl a_hd a_sr a_cd)), (a_sr, (arI G n_sr f_sr)), (a_cd, (arI G n_cd f_cd)), (a_hd, (arI G n_hd f_hd)), (a_pt, (arI G 200 f_pt)), (a_wk, (oc9 a_h a_k a_go a_mt)), (a_go, (arJ G 24 f_go)), (a_mt, (arI G 1536 f_mt))] sz)) (va_A [(a_o, (oc11 a_h a_im a_ke a_k a_wa a_th a_ha a_wk a_r a_x e_tl e_fd e_fpl a_wd e_wn a_rf e_lr)), (a_k, (oc5 a_h a_j a_pt e_ln e_se e_lh e_br e_we e_me e_ce e_wy e_ho e_ov)), (a_h, (oc1 e_wa e_le e_st e_fo e_lc a_l a_g a_b a_s a_p a_w e_gb a_bb)), (a_g, (oc6 6 5 a_gn e_g)), (a_gn, (arI G 30 f_g)), (a_b, (oc6 5 24 a_bn e_b)), (a_bn, (arI G 120 f_b)), (a_p, (oc6 8 5 a_pn e_p)), (a_pn, (arI G 40 f_p)), (a_bb, (arJ G 24 f_bb)), (a_j, (oc2 a_as a_sk)), (a_as, (arI G 8 f_as)), (a_sk, (arJ G 50 f_sk)), (a_l, (arW G 6 f_l)), (a_lo, (oc3 e_cl a_hd a_sr a_cd)), (a_sr, (arI G n_sr f_sr)), (a_cd, (arI G n_cd f_cd)), (a_hd, (arI G n_hd f_hd)), (a_pt, (arI G 200 f_pt)), (a_wk, (oc9 a_h a_k a_go a_mt)), (a_go, (arJ G 24 f_go)), (a_mt, (arI G 1536 f_mt))] sz)) 0 0 (va_A [(a_o, (oc11 a_h a_im a_ke a_k a_wa a_th a_ha a_wk a_r a_x e_tl e_fd e_fpl a_wd e_wn a_rf e_lr)), (a_k, (oc5 a_h a_j a_pt e_ln e_se e_lh e_br e_we e_me e_ce e_wy e_ho e_ov)), (a_h, (oc1 e_wa e_le e_st e_fo e_lc a_l a_g a_b a_s a_p a_w e_gb a_bb)), (a_g, (oc6 6 5 a_gn e_g)), (a_gn, (arI G 30 f_g)), (a_b, (oc6 5 24 a_bn e_b)), (a_bn, (arI G 120 f_b)), (a_p, (oc6 8 5 a_pn e_p)), (a_pn, (arI G 40 f_p)), (a_bb, (arJ G 24 f_bb)), (a_j, (oc2 a_as a_sk)), (a_as, (arI G 8 f_as)), (a_sk, (arJ G 50 f_sk)), (a_l, (arW G 6 f_l)), (a_lo, (oc3 e_cl a_hd a_sr a_cd)), (a_sr, (arI G n_sr f_sr)), (a_cd, (arI G n_cd f_cd)), (a_hd, (arI G n_hd f_hd)), (a_pt, (arI G 200 f_pt)), (a_wk, (oc9 a_h a_k a_go a_mt)), (a_go, (arJ G 24 f_go)), (a_mt, (arI G 1536 f_mt))] sz) := by
  refine Met.ofW (cc := cX11_way) (maxL := 6) (ret := (some .int)) (by decide +kernel) rfl ?_
  intro p e s m args below meth c s₁ B hml hv
  obtain ⟨rfl, hsz, hP, hK, hD0, hN, hT⟩ := hv
  have hx := B.exec
  have hb := B.bytes
  have hr := B.returns
  have hts : ∀ w ∈ tblG, w.before _ s = true := fun w h => atoms_spec (ws := (wsG yX11_way cX11_way 6 (some .int))) B.pre w (List.mem_cons_of_mem _ h)
  have hown : s.vm.findClass RX11 = some m.cls := findClass_of_methodNamed B.named
  have hlocks := B.notSynchronized
  subst hsz
  have hD := hD0.self (sz := s.heap.size)
  generalize hAe : va_A [(a_o, (oc11 a_h a_im a_ke a_k a_wa a_th a_ha a_wk a_r a_x e_tl e_fd e_fpl a_wd e_wn a_rf e_lr)), (a_k, (oc5 a_h a_j a_pt e_ln e_se e_lh e_br e_we e_me e_ce e_wy e_ho e_ov)), (a_h, (oc1 e_wa e_le e_st e_fo e_lc a_l a_g a_b a_s a_p a_w e_gb a_bb)), (a_g, (oc6 6 5 a_gn e_g)), (a_gn, (arI G 30 f_g)), (a_b, (oc6 5 24 a_bn e_b)), (a_bn, (arI G 120 f_b)), (a_p, (oc6 8 5 a_pn e_p)), (a_pn, (arI G 40 f_p)), (a_bb, (arJ G 24 f_bb)), (a_j, (oc2 a_as a_sk)), (a_as, (arI G 8 f_as)), (a_sk, (arJ G 50 f_sk)), (a_l, (arW G 6 f_l)), (a_lo, (oc3 e_cl a_hd a_sr a_cd)), (a_sr, (arI G n_sr f_sr)), (a_cd, (arI G n_cd f_cd)), (a_hd, (arI G n_hd f_hd)), (a_pt, (arI G 200 f_pt)), (a_wk, (oc9 a_h a_k a_go a_mt)), (a_go, (arJ G 24 f_go)), (a_mt, (arI G 1536 f_mt))] s.heap.size = A at hD hT ⊢
  have hA : ∀ q : Nat, s.heap.size ≤ q → A q := fun q h => by rw [← hAe]; exact Or.inr h
  have hS : va_S A s.heap s.heap [] := va_S.rf
  replace hP : va_P G.1 vwCl [(a_o, (oc11 a_h a_im a_ke a_k a_wa a_th a_ha a_wk a_r a_x e_tl e_fd e_fpl a_wd e_wn a_rf e_lr)), (a_k, (oc5 a_h a_j a_pt e_ln e_se e_lh e_br e_we e_me e_ce e_wy e_ho e_ov)), (a_h, (oc1 e_wa e_le e_st e_fo e_lc a_l a_g a_b a_s a_p a_w e_gb a_bb)), (a_g, (oc6 6 5 a_gn e_g)), (a_gn, (arI G 30 f_g)), (a_b, (oc6 5 24 a_bn e_b)), (a_bn, (arI G 120 f_b)), (a_p, (oc6 8 5 a_pn e_p)), (a_pn, (arI G 40 f_p)), (a_bb, (arJ G 24 f_bb)), (a_j, (oc2 a_as a_sk)), (a_as, (arI G 8 f_as)), (a_sk, (arJ G 50 f_sk)), (a_l, (arW G 6 f_l)), (a_lo, (oc3 e_cl a_hd a_sr a_cd)), (a_sr, (arI G n_sr f_sr)), (a_cd, (arI G n_cd f_cd)), (a_hd, (arI G n_hd f_hd)), (a_pt, (arI G 200 f_pt)), (a_wk, (oc9 a_h a_k a_go a_mt)), (a_go, (arJ G 24 f_go)), (a_mt, (arI G 1536 f_mt))] s.heap := hP
  have hl := lv_entry ([.ref a_o, .int p_b, .int p_c, .int p_h, .int p_a]) (n := 6) (Nat.le_of_ble_eq_true rfl)
  rw [lg_entry_eq]
  generalize (lg_sl ([.ref a_o, .int p_b, .int p_c, .int p_h, .int p_a]) ++ List.replicate (6 - (lg_sl ([.ref a_o, .int p_b, .int p_c, .int p_h, .int p_a])).length) Slot.unset).toArray = ls at hl ⊢
  replace hl : lv_has ls 6 [(0, .ref a_o), (1, .int p_b), (2, .int p_c), (3, .int p_h), (4, .int p_a)] := hl
  refine lv_aload_n hx hb dX11_way_0 rfl (lv_at hl 0 rfl) ?_
  refine lv_iload_n hx hb dX11_way_1 rfl (lv_at hl 1 rfl) ?_
  refine lv_iload_n hx hb dX11_way_2 rfl (lv_at hl 2 rfl) ?_
  refine lv_iload_n hx hb dX11_way_3 rfl (lv_at hl 3 rfl) ?_
  refine W.eq (g2 := F0 m 4 ls [.int p_h, .int p_c, .int p_b, .ref a_o]) rfl ?_
  obtain ⟨hPc, hDc, hFc⟩ := g5_sub3 (wc := [(a_o, (oc11 a_h a_im a_ke a_k a_wa a_th a_ha a_wk a_r a_x e_tl e_fd e_fpl a_wd e_wn a_rf e_lr)), (a_h, (oc1 e_wa e_le e_st e_fo e_lc a_l a_g a_b a_s a_p a_w e_gb a_bb)), (a_b, (oc6 5 24 a_bn e_b))]) hP hD hS hA [0, 2, 5] (by decide +kernel) rfl
  refine va_calli (va_runV (As := [.int p_b, .int p_c, .int p_h]) (rest := []) ⟨hx, hb, hml, hown, hts⟩ (x_canWalk l G a_o a_h a_b a_im a_ke a_k a_wa a_th a_ha a_wk a_r a_x a_wd a_rf a_l a_g a_s a_p a_w a_bb a_bn s.heap.size e_tl e_fd e_fpl e_wn e_lr e_le e_st e_fo e_lc e_b p_b p_c p_h e_wa e_gb h_e_tl h_e_wn h_e_b) (cwV 3 hts gV_X11_327 rfl rfl rfl hv_X11_canWalk ⟨Nat.le_of_ble_eq_true rfl, Nat.le_of_ble_eq_true rfl⟩) (g5_preV hPc hK hDc hN hT hS hFc (ci := 11) (q0 := 0) rfl rfl) rfl rfl hl.1 rfl (lv_room (Nat.le_of_ble_eq_true rfl)) dX11_way_4 ⟨Nat.le_of_ble_eq_true rfl, Nat.le_of_ble_eq_true rfl⟩) hS (fun q _ h => hFc q h) hFc (fun r u t H locs ht hvm hw hB hz1 hk1 hS => ?_)
  obtain ⟨hP1, hD1⟩ := hB
  have hP1 := g5_ht ht hP1
  rcases hw with ⟨(i_1 : 0 ≤ p_c.toInt ∧ p_c.toInt ≤ 63), (i_2 : 0 ≤ p_h.toInt ∧ p_h.toInt ≤ 23), rfl, rfl⟩ | ⟨rfl, rfl⟩
  ·
    have hJ9 := va_join (wr := [(a_k, (oc5 a_h a_j a_pt e_ln e_se e_lh e_br e_we e_me e_ce e_wy e_ho e_ov)), (a_g, (oc6 6 5 a_gn e_g)), (a_gn, (arI G 30 f_g)), (a_bn, (arI G 120 f_b)), (a_p, (oc6 8 5 a_pn e_p)), (a_pn, (arI G 40 f_p)), (a_bb, (arJ G 24 f_bb)), (a_j, (oc2 a_as a_sk)), (a_as, (arI G 8 f_as)), (a_sk, (arJ G 50 f_sk)), (a_l, (arW G 6 f_l)), (a_lo, (oc3 e_cl a_hd a_sr a_cd)), (a_sr, (arI G n_sr f_sr)), (a_cd, (arI G n_cd f_cd)), (a_hd, (arI G n_hd f_hd)), (a_pt, (arI G 200 f_pt)), (a_wk, (oc9 a_h a_k a_go a_mt)), (a_go, (arJ G 24 f_go)), (a_mt, (arI G 1536 f_mt))]) hP hD [0, 2, 5] [1, 3, 4, 6, 7, 8, 9, 10, 11, 12, 13, 14, 15, 16, 17, 18, 19, 20, 21] rfl rfl (by decide +kernel) (by decide +kernel) hk1 hFc hP1 hD1
    clear hP hD hPc hDc hFc ht hvm hz1 hk1 hP1 hD1
    obtain ⟨hP, hD⟩ := hJ9
    refine g5_rs [(a_k, (oc5 a_h a_j a_pt e_ln e_se e_lh e_br e_we e_me e_ce e_wy e_ho e_ov)), (a_g, (oc6 6 5 a_gn e_g)), (a_gn, (arI G 30 f_g)), (a_bn, (arI G 120 f_b)), (a_p, (oc6 8 5 a_pn e_p)), (a_pn, (arI G 40 f_p)), (a_bb, (arJ G 24 f_bb)), (a_j, (oc2 a_as a_sk)), (a_as, (arI G 8 f_as)), (a_sk, (arJ G 50 f_sk)), (a_l, (arW G 6 f_l)), (a_lo, (oc3 e_cl a_hd a_sr a_cd)), (a_sr, (arI G n_sr f_sr)), (a_cd, (arI G n_cd f_cd)), (a_hd, (arI G n_hd f_hd)), (a_pt, (arI G 200 f_pt)), (a_wk, (oc9 a_h a_k a_go a_mt)), (a_go, (arJ G 24 f_go)), (a_mt, (arI G 1536 f_mt)), (a_o, (oc11 a_h a_im a_ke a_k a_wa a_th a_ha a_wk a_r a_x e_tl e_fd e_fpl a_wd e_wn a_rf e_lr)), (a_h, (oc1 e_wa e_le e_st e_fo e_lc a_l a_g a_b a_s a_p a_w e_gb a_bb)), (a_b, (oc6 5 24 a_bn e_b))] hP hD ?_
    clear hP hD
    intro hP hD
    refine lv_if_eq (tgt := 16) hx hb dX11_way_7 (by decide +kernel) (fun c_3 => ?_) (fun c_3 => ?_)
    ·
      exact absurd c_3 (by decide +kernel)
    ·
      refine lv_iload hx hb dX11_way_10 (lv_at hl 4 rfl) ?_
      refine lv_iload_n hx hb dX11_way_12 rfl (lv_at hl 3 rfl) ?_
      refine lv_icmp_ge (tgt := 18) hx hb dX11_way_13 (by decide +kernel) (fun c_4 => ?_) (fun c_4 => ?_)
      ·
        have i_4 : p_a.toInt ≥ p_h.toInt := g5_ge (a := p_a.toInt) (b := p_h.toInt) rfl rfl c_4
        refine lv_aload_n hx hb dX11_way_18 rfl (lv_at hl 0 rfl) ?_
        refine va_get (D := G.1) (ci := 11) (v := .ref a_wk) (C := RX11) (T := TX11) (N := 17) hx hb hts inG_X11 hown hK hP 19 rfl rfl 7 (by decide +kernel) (hts _ fl_X11_59) (fun _ h9 => h9) rfl dX11_way_19 ?_
        refine lv_iload_n hx hb dX11_way_22 rfl (lv_at hl 1 rfl) ?_
        refine lv_iload_n hx hb dX11_way_23 rfl (lv_at hl 2 rfl) ?_
        refine W.eq (g2 := F0 m 24 ls [.int p_c, .int p_b, .ref a_wk]) rfl ?_
        refine lv_iload_n hx hb dX11_way_24 rfl (lv_at hl 3 rfl) ?_
        refine lv_bipush (v := 24) hx hb dX11_way_25 (by decide +kernel) ?_
        obtain ⟨hPc, hDc, hFc⟩ := g5_sub3 (wc := [(a_k, (oc5 a_h a_j a_pt e_ln e_se e_lh e_br e_we e_me e_ce e_wy e_ho e_ov)), (a_h, (oc1 e_wa e_le e_st e_fo e_lc a_l a_g a_b a_s a_p a_w e_gb a_bb)), (a_g, (oc6 6 5 a_gn e_g)), (a_gn, (arI G 30 f_g)), (a_b, (oc6 5 24 a_bn e_b)), (a_bn, (arI G 120 f_b)), (a_p, (oc6 8 5 a_pn e_p)), (a_pn, (arI G 40 f_p)), (a_bb, (arJ G 24 f_bb)), (a_j, (oc2 a_as a_sk)), (a_as, (arI G 8 f_as)), (a_sk, (arJ G 50 f_sk)), (a_l, (arW G 6 f_l)), (a_lo, (oc3 e_cl a_hd a_sr a_cd)), (a_sr, (arI G n_sr f_sr)), (a_cd, (arI G n_cd f_cd)), (a_hd, (arI G n_hd f_hd)), (a_pt, (arI G 200 f_pt)), (a_wk, (oc9 a_h a_k a_go a_mt)), (a_go, (arJ G 24 f_go)), (a_mt, (arI G 1536 f_mt))]) hP hD hS hA [0, 20, 1, 2, 21, 3, 4, 5, 6, 7, 8, 9, 10, 11, 12, 13, 14, 15, 16, 17, 18] (by decide +kernel) rfl
        refine va_calli (va_runV (As := [.int p_b, .int p_c, .int p_h, .int 24]) (rest := []) ⟨hx, hb, hml, hown, hts⟩ (a_firstL l G a_k a_h a_g a_gn a_b a_bn a_p a_pn a_bb a_j a_as a_sk a_l a_lo a_sr a_cd a_hd a_pt a_wk a_go a_mt a_s a_w H.size e_le e_st e_fo e_lc e_g e_b e_p e_cl e_ln e_se e_lh e_br e_we e_me e_ce e_wy e_ho e_ov p_b p_c p_h 24 e_wa e_gb f_g f_b f_p f_bb f_as f_sk f_l f_sr f_cd f_hd f_pt f_go f_mt n_sr n_cd n_hd h_e_g h_e_b h_e_p h_e_cl h_e_ov i_1 i_2 ⟨by decide, by decide⟩ (e_gk) (e_pk) (e_gi) (e_f) (e_a) (e_hn) (e_hs) (e_hk) (e_c)) (cwV 4 hts gV_X11_330 rfl rfl rfl hv_X9_firstSight ⟨Nat.le_of_ble_eq_true rfl, Nat.le_of_ble_eq_true rfl⟩) (g5_preV hPc hK hDc hN hT hS hFc (ci := 9) (q0 := 18) rfl rfl) rfl rfl hl.1 rfl (lv_room (Nat.le_of_ble_eq_true rfl)) dX11_way_27 ⟨Nat.le_of_ble_eq_true rfl, Nat.le_of_ble_eq_true rfl⟩) hS (fun q _ h => hFc q h) hFc (fun r u t H locs ht hvm hw hB hz1 hk1 hS => ?_)
        obtain ⟨hP1, hD1⟩ := hB
        have hP1 := g5_ht ht hP1
        obtain ⟨z8, z9, z10, z11, z12, z13, z14, z15, z16, z17, z18, z19, z20, z21, z22, z23, (i_5 : 0 ≤ z18.toInt ∧ z18.toInt ≤ 1), (i_6 : -1 ≤ z8.toInt ∧ z8.toInt ≤ 23), (i_7 : z8.toInt = -1 ∨ (p_h.toInt ≤ z8.toInt ∧ z8.toInt < (24 : Int32).toInt)), y24, rfl⟩ := hw
        have hJ9 := va_join (wr := [(a_o, (oc11 a_h a_im a_ke a_k a_wa a_th a_ha a_wk a_r a_x e_tl e_fd e_fpl a_wd e_wn a_rf e_lr))]) hP hD [0, 20, 1, 2, 21, 3, 4, 5, 6, 7, 8, 9, 10, 11, 12, 13, 14, 15, 16, 17, 18] [19] rfl rfl (by decide +kernel) (by decide +kernel) hk1 hFc hP1 hD1
        clear hP hD hPc hDc hFc ht hvm hz1 hk1 hP1 hD1
        obtain ⟨hP, hD⟩ := hJ9
        refine g5_rs [(a_o, (oc11 a_h a_im a_ke a_k a_wa a_th a_ha a_wk a_r a_x e_tl e_fd e_fpl a_wd e_wn a_rf e_lr)), (a_k, (oc5 a_h a_j a_pt z9 z10 z11 z12 z13 z14 z15 z16 z17 z18)), (a_h, (oc1 e_wa e_le e_st e_fo e_lc a_l a_g a_b a_s a_p a_w e_gb a_bb)), (a_g, (oc6 6 5 a_gn e_g)), (a_gn, (arI G 30 f_g)), (a_b, (oc6 5 24 a_bn e_b)), (a_bn, (arI G 120 f_b)), (a_p, (oc6 8 5 a_pn e_p)), (a_pn, (arI G 40 f_p)), (a_bb, (arJ G 24 f_bb)), (a_j, (oc2 a_as a_sk)), (a_as, (arI G 8 z20)), (a_sk, (arJ G 50 z21)), (a_l, (arW G 6 f_l)), (a_lo, (oc3 e_cl a_hd a_sr a_cd)), (a_sr, (arI G n_sr f_sr)), (a_cd, (arI G n_cd f_cd)), (a_hd, (arI G n_hd f_hd)), (a_pt, (arI G 200 z19)), (a_wk, (oc9 a_h a_k a_go a_mt)), (a_go, (arJ G 24 z22)), (a_mt, (arI G 1536 z23))] hP hD ?_
        clear hP hD
        intro hP hD
        refine g5_ti (v := z8) y24 ?_
        refine lv_istore (lv' := [(5, .int z8), (0, .ref a_o), (1, .int p_b), (2, .int p_c), (3, .int p_h), (4, .int p_a)]) hx hb dX11_way_30 hl (by decide +kernel) rfl ?_
        clear hl
        intro ls hl
        refine lv_iload hx hb dX11_way_32 (lv_at hl 0 rfl) ?_
        refine W.eq (g2 := F0 m 34 ls [.int z8]) rfl ?_
        refine lv_iconst (v := (-1)) hx hb dX11_way_34 (by decide +kernel) ?_
        refine lv_icmp_eq (tgt := 45) hx hb dX11_way_35 (by decide +kernel) (fun c_25 => ?_) (fun c_25 => ?_)
        ·
          have i_25 : z8.toInt = (-1) := g5_eq (a := z8.toInt) (b := (-1)) rfl (by decide +kernel) c_25
          refine lv_iconst (v := (-1)) hx hb dX11_way_45 (by decide +kernel) ?_
          refine lv_goto (tgt := 62) hx hb dX11_way_46 (by decide +kernel) ?_
          exact W.iret (v := (-1)) hx hb hr (fun t ht hW => ⟨⟨(-1), [(a_o, (oc11 a_h a_im a_ke a_k a_wa a_th a_ha a_wk a_r a_x e_tl e_fd e_fpl a_wd e_wn a_rf e_lr)), (a_k, (oc5 a_h a_j a_pt z9 z10 z11 z12 z13 z14 z15 z16 z17 z18)), (a_h, (oc1 e_wa e_le e_st e_fo e_lc a_l a_g a_b a_s a_p a_w e_gb a_bb)), (a_g, (oc6 6 5 a_gn e_g)), (a_gn, (arI G 30 f_g)), (a_b, (oc6 5 24 a_bn e_b)), (a_bn, (arI G 120 f_b)), (a_p, (oc6 8 5 a_pn e_p)), (a_pn, (arI G 40 f_p)), (a_bb, (arJ G 24 f_bb)), (a_j, (oc2 a_as a_sk)), (a_as, (arI G 8 z20)), (a_sk, (arJ G 50 z21)), (a_l, (arW G 6 f_l)), (a_lo, (oc3 e_cl a_hd a_sr a_cd)), (a_sr, (arI G n_sr f_sr)), (a_cd, (arI G n_cd f_cd)), (a_hd, (arI G n_hd f_hd)), (a_pt, (arI G 200 z19)), (a_wk, (oc9 a_h a_k a_go a_mt)), (a_go, (arJ G 24 z22)), (a_mt, (arI G 1536 z23))], rfl, ⟨(-1), z9, z10, z11, z12, z13, z14, z15, z16, z17, z18, z19, z20, z21, z22, z23, i_5, rfl, rfl⟩, by rw [ht]; exact hP.sub [0, 1, 2, 3, 4, 5, 6, 7, 8, 9, 10, 11, 12, 13, 14, 15, 16, 17, 18, 19, 20, 21] rfl, hD.sub [0, 1, 2, 3, 4, 5, 6, 7, 8, 9, 10, 11, 12, 13, 14, 15, 16, 17, 18, 19, 20, 21] (by decide +kernel) rfl⟩, hS.F ht⟩) hS.2.2 dX11_way_62
        ·
          have n_25 : gNe (z8.toInt) ((-1)) := g5_eqN (a := z8.toInt) (b := (-1)) rfl (by decide +kernel) c_25
          have i_25 : z8.toInt ≥ 0 := by have z := g5_eqN (a := z8.toInt) (b := (-1)) (by rfl) (by decide +kernel) c_25; omega
          refine lv_iload hx hb dX11_way_38 (lv_at hl 5 rfl) ?_
          refine lv_iload hx hb dX11_way_40 (lv_at hl 0 rfl) ?_
          refine lv_icmp_le (tgt := 49) hx hb dX11_way_42 (by decide +kernel) (fun c_26 => ?_) (fun c_26 => ?_)
          ·
            have i_26 : p_a.toInt ≤ z8.toInt := g5_le (a := p_a.toInt) (b := z8.toInt) rfl rfl c_26
            refine lv_aload_n hx hb dX11_way_49 rfl (lv_at hl 1 rfl) ?_
            refine va_get (D := G.1) (ci := 11) (v := .ref a_wk) (C := RX11) (T := TX11) (N := 17) hx hb hts inG_X11 hown hK hP 0 rfl rfl 7 (by decide +kernel) (hts _ fl_X11_59) (fun _ h9 => h9) rfl dX11_way_50 ?_
            refine lv_iload_n hx hb dX11_way_53 rfl (lv_at hl 3 rfl) ?_
            refine lv_iload_n hx hb dX11_way_54 rfl (lv_at hl 4 rfl) ?_
            refine W.eq (g2 := F0 m 55 ls [.int p_h, .int p_c, .ref a_wk]) rfl ?_
            refine lv_iload hx hb dX11_way_55 (lv_at hl 0 rfl) ?_
            refine lv_iload hx hb dX11_way_57 (lv_at hl 5 rfl) ?_
            obtain ⟨hPc, hDc, hFc⟩ := g5_sub3 (wc := [(a_h, (oc1 e_wa e_le e_st e_fo e_lc a_l a_g a_b a_s a_p a_w e_gb a_bb)), (a_wk, (oc9 a_h a_k a_go a_mt)), (a_go, (arJ G 24 z22))]) hP hD hS hA [2, 19, 20] (by decide +kernel) rfl
            refine va_calli (va_runV (As := [.int p_c, .int p_h, .int z8, .int p_a]) (rest := []) ⟨hx, hb, hml, hown, hts⟩ (a_row l G a_h a_wk a_go a_l a_g a_b a_s a_p a_w a_bb a_k a_mt H.size e_le e_st e_fo e_lc p_c p_h z8 p_a e_wa e_gb z22 i_1 i_2 ⟨by omega, by omega⟩ ⟨by omega, by omega⟩) (cwV 4 hts gV_X11_334 rfl rfl rfl hv_X9_firstRowAt ⟨Nat.le_of_ble_eq_true rfl, Nat.le_of_ble_eq_true rfl⟩) (g5_preV hPc hK hDc hN hT hS hFc (ci := 9) (q0 := 1) rfl rfl) rfl rfl hl.1 rfl (lv_room (Nat.le_of_ble_eq_true rfl)) dX11_way_59 ⟨Nat.le_of_ble_eq_true rfl, Nat.le_of_ble_eq_true rfl⟩) hS (fun q _ h => hFc q h) hFc (fun r u t H locs ht hvm hw hB hz1 hk1 hS => ?_)
            obtain ⟨hP1, hD1⟩ := hB
            have hP1 := g5_ht ht hP1
            obtain ⟨z28, z29, (i_27 : 0 ≤ z28.toInt ∧ z28.toInt ≤ 63), y30, rfl⟩ := hw
            have hJ9 := va_join (wr := [(a_o, (oc11 a_h a_im a_ke a_k a_wa a_th a_ha a_wk a_r a_x e_tl e_fd e_fpl a_wd e_wn a_rf e_lr)), (a_k, (oc5 a_h a_j a_pt z9 z10 z11 z12 z13 z14 z15 z16 z17 z18)), (a_g, (oc6 6 5 a_gn e_g)), (a_gn, (arI G 30 f_g)), (a_b, (oc6 5 24 a_bn e_b)), (a_bn, (arI G 120 f_b)), (a_p, (oc6 8 5 a_pn e_p)), (a_pn, (arI G 40 f_p)), (a_bb, (arJ G 24 f_bb)), (a_j, (oc2 a_as a_sk)), (a_as, (arI G 8 z20)), (a_sk, (arJ G 50 z21)), (a_l, (arW G 6 f_l)), (a_lo, (oc3 e_cl a_hd a_sr a_cd)), (a_sr, (arI G n_sr f_sr)), (a_cd, (arI G n_cd f_cd)), (a_hd, (arI G n_hd f_hd)), (a_pt, (arI G 200 z19)), (a_mt, (arI G 1536 z23))]) hP hD [2, 19, 20] [0, 1, 3, 4, 5, 6, 7, 8, 9, 10, 11, 12, 13, 14, 15, 16, 17, 18, 21] rfl rfl (by decide +kernel) (by decide +kernel) hk1 hFc hP1 hD1
            clear hP hD hPc hDc hFc ht hvm hz1 hk1 hP1 hD1
            obtain ⟨hP, hD⟩ := hJ9
            refine g5_rs [(a_o, (oc11 a_h a_im a_ke a_k a_wa a_th a_ha a_wk a_r a_x e_tl e_fd e_fpl a_wd e_wn a_rf e_lr)), (a_k, (oc5 a_h a_j a_pt z9 z10 z11 z12 z13 z14 z15 z16 z17 z18)), (a_g, (oc6 6 5 a_gn e_g)), (a_gn, (arI G 30 f_g)), (a_b, (oc6 5 24 a_bn e_b)), (a_bn, (arI G 120 f_b)), (a_p, (oc6 8 5 a_pn e_p)), (a_pn, (arI G 40 f_p)), (a_bb, (arJ G 24 f_bb)), (a_j, (oc2 a_as a_sk)), (a_as, (arI G 8 z20)), (a_sk, (arJ G 50 z21)), (a_l, (arW G 6 f_l)), (a_lo, (oc3 e_cl a_hd a_sr a_cd)), (a_sr, (arI G n_sr f_sr)), (a_cd, (arI G n_cd f_cd)), (a_hd, (arI G n_hd f_hd)), (a_pt, (arI G 200 z19)), (a_mt, (arI G 1536 z23)), (a_h, (oc1 e_wa e_le e_st e_fo e_lc a_l a_g a_b a_s a_p a_w e_gb a_bb)), (a_wk, (oc9 a_h a_k a_go a_mt)), (a_go, (arJ G 24 z29))] hP hD ?_
            clear hP hD
            intro hP hD
            refine g5_ti (v := z28) y30 ?_
            exact W.iret (v := z28) hx hb hr (fun t ht hW => ⟨⟨z28, [(a_o, (oc11 a_h a_im a_ke a_k a_wa a_th a_ha a_wk a_r a_x e_tl e_fd e_fpl a_wd e_wn a_rf e_lr)), (a_k, (oc5 a_h a_j a_pt z9 z10 z11 z12 z13 z14 z15 z16 z17 z18)), (a_h, (oc1 e_wa e_le e_st e_fo e_lc a_l a_g a_b a_s a_p a_w e_gb a_bb)), (a_g, (oc6 6 5 a_gn e_g)), (a_gn, (arI G 30 f_g)), (a_b, (oc6 5 24 a_bn e_b)), (a_bn, (arI G 120 f_b)), (a_p, (oc6 8 5 a_pn e_p)), (a_pn, (arI G 40 f_p)), (a_bb, (arJ G 24 f_bb)), (a_j, (oc2 a_as a_sk)), (a_as, (arI G 8 z20)), (a_sk, (arJ G 50 z21)), (a_l, (arW G 6 f_l)), (a_lo, (oc3 e_cl a_hd a_sr a_cd)), (a_sr, (arI G n_sr f_sr)), (a_cd, (arI G n_cd f_cd)), (a_hd, (arI G n_hd f_hd)), (a_pt, (arI G 200 z19)), (a_wk, (oc9 a_h a_k a_go a_mt)), (a_go, (arJ G 24 z29)), (a_mt, (arI G 1536 z23))], rfl, ⟨z28, z9, z10, z11, z12, z13, z14, z15, z16, z17, z18, z19, z20, z21, z29, z23, i_5, rfl, rfl⟩, by rw [ht]; exact hP.sub [0, 1, 19, 2, 3, 4, 5, 6, 7, 8, 9, 10, 11, 12, 13, 14, 15, 16, 17, 20, 21, 18] rfl, hD.sub [0, 1, 19, 2, 3, 4, 5, 6, 7, 8, 9, 10, 11, 12, 13, 14, 15, 16, 17, 20, 21, 18] (by decide +kernel) rfl⟩, hS.F ht⟩) hS.2.2 dX11_way_62
          ·
            have i_26 : p_a.toInt > z8.toInt := g5_leN (a := p_a.toInt) (b := z8.toInt) rfl rfl c_26
            refine lv_iconst (v := (-1)) hx hb dX11_way_45 (by decide +kernel) ?_
            refine lv_goto (tgt := 62) hx hb dX11_way_46 (by decide +kernel) ?_
            exact W.iret (v := (-1)) hx hb hr (fun t ht hW => ⟨⟨(-1), [(a_o, (oc11 a_h a_im a_ke a_k a_wa a_th a_ha a_wk a_r a_x e_tl e_fd e_fpl a_wd e_wn a_rf e_lr)), (a_k, (oc5 a_h a_j a_pt z9 z10 z11 z12 z13 z14 z15 z16 z17 z18)), (a_h, (oc1 e_wa e_le e_st e_fo e_lc a_l a_g a_b a_s a_p a_w e_gb a_bb)), (a_g, (oc6 6 5 a_gn e_g)), (a_gn, (arI G 30 f_g)), (a_b, (oc6 5 24 a_bn e_b)), (a_bn, (arI G 120 f_b)), (a_p, (oc6 8 5 a_pn e_p)), (a_pn, (arI G 40 f_p)), (a_bb, (arJ G 24 f_bb)), (a_j, (oc2 a_as a_sk)), (a_as, (arI G 8 z20)), (a_sk, (arJ G 50 z21)), (a_l, (arW G 6 f_l)), (a_lo, (oc3 e_cl a_hd a_sr a_cd)), (a_sr, (arI G n_sr f_sr)), (a_cd, (arI G n_cd f_cd)), (a_hd, (arI G n_hd f_hd)), (a_pt, (arI G 200 z19)), (a_wk, (oc9 a_h a_k a_go a_mt)), (a_go, (arJ G 24 z22)), (a_mt, (arI G 1536 z23))], rfl, ⟨(-1), z9, z10, z11, z12, z13, z14, z15, z16, z17, z18, z19, z20, z21, z22, z23, i_5, rfl, rfl⟩, by rw [ht]; exact hP.sub [0, 1, 2, 3, 4, 5, 6, 7, 8, 9, 10, 11, 12, 13, 14, 15, 16, 17, 18, 19, 20, 21] rfl, hD.sub [0, 1, 2, 3, 4, 5, 6, 7, 8, 9, 10, 11, 12, 13, 14, 15, 16, 17, 18, 19, 20, 21] (by decide +kernel) rfl⟩, hS.F ht⟩) hS.2.2 dX11_way_62
      ·
        have i_4 : p_a.toInt < p_h.toInt := g5_geN (a := p_a.toInt) (b := p_h.toInt) rfl rfl c_4
        refine lv_iconst (v := (-1)) hx hb dX11_way_16 (by decide +kernel) ?_
        exact W.iret (v := (-1)) hx hb hr (fun t ht hW => ⟨⟨(-1), [(a_o, (oc11 a_h a_im a_ke a_k a_wa a_th a_ha a_wk a_r a_x e_tl e_fd e_fpl a_wd e_wn a_rf e_lr)), (a_k, (oc5 a_h a_j a_pt e_ln e_se e_lh e_br e_we e_me e_ce e_wy e_ho e_ov)), (a_h, (oc1 e_wa e_le e_st e_fo e_lc a_l a_g a_b a_s a_p a_w e_gb a_bb)), (a_g, (oc6 6 5 a_gn e_g)), (a_gn, (arI G 30 f_g)), (a_b, (oc6 5 24 a_bn e_b)), (a_bn, (arI G 120 f_b)), (a_p, (oc6 8 5 a_pn e_p)), (a_pn, (arI G 40 f_p)), (a_bb, (arJ G 24 f_bb)), (a_j, (oc2 a_as a_sk)), (a_as, (arI G 8 f_as)), (a_sk, (arJ G 50 f_sk)), (a_l, (arW G 6 f_l)), (a_lo, (oc3 e_cl a_hd a_sr a_cd)), (a_sr, (arI G n_sr f_sr)), (a_cd, (arI G n_cd f_cd)), (a_hd, (arI G n_hd f_hd)), (a_pt, (arI G 200 f_pt)), (a_wk, (oc9 a_h a_k a_go a_mt)), (a_go, (arJ G 24 f_go)), (a_mt, (arI G 1536 f_mt))], rfl, ⟨(-1), e_ln, e_se, e_lh, e_br, e_we, e_me, e_ce, e_wy, e_ho, e_ov, f_pt, f_as, f_sk, f_go, f_mt, h_e_ov, rfl, rfl⟩, by rw [ht]; exact hP.sub [19, 0, 20, 1, 2, 21, 3, 4, 5, 6, 7, 8, 9, 10, 11, 12, 13, 14, 15, 16, 17, 18] rfl, hD.sub [19, 0, 20, 1, 2, 21, 3, 4, 5, 6, 7, 8, 9, 10, 11, 12, 13, 14, 15, 16, 17, 18] (by decide +kernel) rfl⟩, hS.F ht⟩) hS.2.2 dX11_way_17
  ·
    have hJ9 := va_join (wr := [(a_k, (oc5 a_h a_j a_pt e_ln e_se e_lh e_br e_we e_me e_ce e_wy e_ho e_ov)), (a_g, (oc6 6 5 a_gn e_g)), (a_gn, (arI G 30 f_g)), (a_bn, (arI G 120 f_b)), (a_p, (oc6 8 5 a_pn e_p)), (a_pn, (arI G 40 f_p)), (a_bb, (arJ G 24 f_bb)), (a_j, (oc2 a_as a_sk)), (a_as, (arI G 8 f_as)), (a_sk, (arJ G 50 f_sk)), (a_l, (arW G 6 f_l)), (a_lo, (oc3 e_cl a_hd a_sr a_cd)), (a_sr, (arI G n_sr f_sr)), (a_cd, (arI G n_cd f_cd)), (a_hd, (arI G n_hd f_hd)), (a_pt, (arI G 200 f_pt)), (a_wk, (oc9 a_h a_k a_go a_mt)), (a_go, (arJ G 24 f_go)), (a_mt, (arI G 1536 f_mt))]) hP hD [0, 2, 5] [1, 3, 4, 6, 7, 8, 9, 10, 11, 12, 13, 14, 15, 16, 17, 18, 19, 20, 21] rfl rfl (by decide +kernel) (by decide +kernel) hk1 hFc hP1 hD1
    clear hP hD hPc hDc hFc ht hvm hz1 hk1 hP1 hD1
    obtain ⟨hP, hD⟩ := hJ9
    refine g5_rs [(a_k, (oc5 a_h a_j a_pt e_ln e_se e_lh e_br e_we e_me e_ce e_wy e_ho e_ov)), (a_g, (oc6 6 5 a_gn e_g)), (a_gn, (arI G 30 f_g)), (a_bn, (arI G 120 f_b)), (a_p, (oc6 8 5 a_pn e_p)), (a_pn, (arI G 40 f_p)), (a_bb, (arJ G 24 f_bb)), (a_j, (oc2 a_as a_sk)), (a_as, (arI G 8 f_as)), (a_sk, (arJ G 50 f_sk)), (a_l, (arW G 6 f_l)), (a_lo, (oc3 e_cl a_hd a_sr a_cd)), (a_sr, (arI G n_sr f_sr)), (a_cd, (arI G n_cd f_cd)), (a_hd, (arI G n_hd f_hd)), (a_pt, (arI G 200 f_pt)), (a_wk, (oc9 a_h a_k a_go a_mt)), (a_go, (arJ G 24 f_go)), (a_mt, (arI G 1536 f_mt)), (a_o, (oc11 a_h a_im a_ke a_k a_wa a_th a_ha a_wk a_r a_x e_tl e_fd e_fpl a_wd e_wn a_rf e_lr)), (a_h, (oc1 e_wa e_le e_st e_fo e_lc a_l a_g a_b a_s a_p a_w e_gb a_bb)), (a_b, (oc6 5 24 a_bn e_b))] hP hD ?_
    clear hP hD
    intro hP hD
    refine lv_if_eq (tgt := 16) hx hb dX11_way_7 (by decide +kernel) (fun c_31 => ?_) (fun c_31 => ?_)
    ·
      refine lv_iconst (v := (-1)) hx hb dX11_way_16 (by decide +kernel) ?_
      exact W.iret (v := (-1)) hx hb hr (fun t ht hW => ⟨⟨(-1), [(a_o, (oc11 a_h a_im a_ke a_k a_wa a_th a_ha a_wk a_r a_x e_tl e_fd e_fpl a_wd e_wn a_rf e_lr)), (a_k, (oc5 a_h a_j a_pt e_ln e_se e_lh e_br e_we e_me e_ce e_wy e_ho e_ov)), (a_h, (oc1 e_wa e_le e_st e_fo e_lc a_l a_g a_b a_s a_p a_w e_gb a_bb)), (a_g, (oc6 6 5 a_gn e_g)), (a_gn, (arI G 30 f_g)), (a_b, (oc6 5 24 a_bn e_b)), (a_bn, (arI G 120 f_b)), (a_p, (oc6 8 5 a_pn e_p)), (a_pn, (arI G 40 f_p)), (a_bb, (arJ G 24 f_bb)), (a_j, (oc2 a_as a_sk)), (a_as, (arI G 8 f_as)), (a_sk, (arJ G 50 f_sk)), (a_l, (arW G 6 f_l)), (a_lo, (oc3 e_cl a_hd a_sr a_cd)), (a_sr, (arI G n_sr f_sr)), (a_cd, (arI G n_cd f_cd)), (a_hd, (arI G n_hd f_hd)), (a_pt, (arI G 200 f_pt)), (a_wk, (oc9 a_h a_k a_go a_mt)), (a_go, (arJ G 24 f_go)), (a_mt, (arI G 1536 f_mt))], rfl, ⟨(-1), e_ln, e_se, e_lh, e_br, e_we, e_me, e_ce, e_wy, e_ho, e_ov, f_pt, f_as, f_sk, f_go, f_mt, h_e_ov, rfl, rfl⟩, by rw [ht]; exact hP.sub [19, 0, 20, 1, 2, 21, 3, 4, 5, 6, 7, 8, 9, 10, 11, 12, 13, 14, 15, 16, 17, 18] rfl, hD.sub [19, 0, 20, 1, 2, 21, 3, 4, 5, 6, 7, 8, 9, 10, 11, 12, 13, 14, 15, 16, 17, 18] (by decide +kernel) rfl⟩, hS.F ht⟩) hS.2.2 dX11_way_17
    ·
      exact absurd c_31 (by decide +kernel)
theorem so_in {f : Nat → Int32} {n g : Int} {v : Int32} (hg : 0 ≤ g ∧ g < n) {r c : Int} (h : ¬ (r = g ∧ c = 1)) : tget (tset f n 5 g (1 : Int32).toInt v) n 5 r c = tget f n 5 r c := by
  have z1 : (1 : Int32).toInt = 1 := (by decide)
  rw [z1, tg_set5 (by omega), if_neg h]
theorem so_out {f k : Nat → Int32} {n g : Int} {v : Int32} (hg : 0 ≤ g ∧ g < n) (h : ∀ r c : Int, ¬ (r = g ∧ c = 1) → tget f n 5 r c = tget k n 5 r c) (hv : v = tget k n 5 g (1 : Int32).toInt) (r c : Int) : tget (tset f n 5 g (1 : Int32).toInt v) n 5 r c = tget k n 5 r c := by
  have z1 : (1 : Int32).toInt = 1 := (by decide)
  rw [z1] at hv ⊢
  rw [tg_set5 (by omega)]
  by_cases q : r = g ∧ c = 1
  · rw [if_pos q, hv, q.1, q.2]
  · rw [if_neg q]; exact h r c q
theorem dgX11_sooner_0 : ∀ r ∈ ([(0, (.aload_n 0, 1)), (1, (.iload_n 1, 1)), (2, (.iload_n 2, 1)), (3, (.iload_n 3, 1)), (4, (.invokevirtual 327, 3)), (7, (.ifCond .eq 14, 3)), (10, (.iload 4, 2)), (12, (.ifCond .lt 9, 3)), (15, (.iload 4, 2)), (17, (.iconst 2, 1)), (18, (.if_icmp .le 5, 3)), (21, (.iconst (-1), 1)), (22, (.ireturn, 1)), (23, (.aload_n 0, 1)), (24, (.getfield 59, 3)), (27, (.iload_n 1, 1)), (28, (.iload_n 2, 1)), (29, (.iload_n 3, 1)), (30, (.bipush 24, 2)), (32, (.invokevirtual 330, 3)), (35, (.istore 5, 2)), (37, (.iload 5, 2)), (39, (.iconst (-1), 1)), (40, (.if_icmp .ne 8, 3)), (43, (.bipush 24, 2)), (45, (.goto 5, 3)), (48, (.iload 5, 2)), (50, (.istore 6, 2)), (52, (.iconst (-1), 1)), (53, (.istore 7, 2)), (55, (.iconst 0, 1)), (56, (.istore 8, 2)), (58, (.iload 8, 2)), (60, (.aload_n 0, 1)), (61, (.getfield 12, 3)), (64, (.getfield 136, 3)), (67, (.getfield 238, 3)), (70, (.if_icmp .ge 132, 3)), (73, (.aload_n 0, 1)), (74, (.getfield 12, 3))] : List (Nat × (Instr × Nat))), decode cX11_sooner r.1 = .ok r.2 := by decide +kernel
theorem dX11_sooner_0 : decode cX11_sooner 0 = .ok (.aload_n 0, 1) := dgX11_sooner_0 (0, (.aload_n 0, 1)) (List.mem_of_getElem? (i := 0) rfl)
theorem dX11_sooner_1 : decode cX11_sooner 1 = .ok (.iload_n 1, 1) := dgX11_sooner_0 (1, (.iload_n 1, 1)) (List.mem_of_getElem? (i := 1) rfl)
theorem dX11_sooner_2 : decode cX11_sooner 2 = .ok (.iload_n 2, 1) := dgX11_sooner_0 (2, (.iload_n 2, 1)) (List.mem_of_getElem? (i := 2) rfl)
theorem dX11_sooner_3 : decode cX11_sooner 3 = .ok (.iload_n 3, 1) := dgX11_sooner_0 (3, (.iload_n 3, 1)) (List.mem_of_getElem? (i := 3) rfl)
theorem dX11_sooner_4 : decode cX11_sooner 4 = .ok (.invokevirtual 327, 3) := dgX11_sooner_0 (4, (.invokevirtual 327, 3)) (List.mem_of_getElem? (i := 4) rfl)
theorem dX11_sooner_7 : decode cX11_sooner 7 = .ok (.ifCond .eq 14, 3) := dgX11_sooner_0 (7, (.ifCond .eq 14, 3)) (List.mem_of_getElem? (i := 5) rfl)
theorem dX11_sooner_10 : decode cX11_sooner 10 = .ok (.iload 4, 2) := dgX11_sooner_0 (10, (.iload 4, 2)) (List.mem_of_getElem? (i := 6) rfl)
theorem dX11_sooner_12 : decode cX11_sooner 12 = .ok (.ifCond .lt 9, 3) := dgX11_sooner_0 (12, (.ifCond .lt 9, 3)) (List.mem_of_getElem? (i := 7) rfl)
theorem dX11_sooner_15 : decode cX11_sooner 15 = .ok (.iload 4, 2) := dgX11_sooner_0 (15, (.iload 4, 2)) (List.mem_of_getElem? (i := 8) rfl)
theorem dX11_sooner_17 : decode cX11_sooner 17 = .ok (.iconst 2, 1) := dgX11_sooner_0 (17, (.iconst 2, 1)) (List.mem_of_getElem? (i := 9) rfl)
theorem dX11_sooner_18 : decode cX11_sooner 18 = .ok (.if_icmp .le 5, 3) := dgX11_sooner_0 (18, (.if_icmp .le 5, 3)) (List.mem_of_getElem? (i := 10) rfl)
theorem dX11_sooner_21 : decode cX11_sooner 21 = .ok (.iconst (-1), 1) := dgX11_sooner_0 (21, (.iconst (-1), 1)) (List.mem_of_getElem? (i := 11) rfl)
theorem dX11_sooner_22 : decode cX11_sooner 22 = .ok (.ireturn, 1) := dgX11_sooner_0 (22, (.ireturn, 1)) (List.mem_of_getElem? (i := 12) rfl)
theorem dX11_sooner_23 : decode cX11_sooner 23 = .ok (.aload_n 0, 1) := dgX11_sooner_0 (23, (.aload_n 0, 1)) (List.mem_of_getElem? (i := 13) rfl)
theorem dX11_sooner_24 : decode cX11_sooner 24 = .ok (.getfield 59, 3) := dgX11_sooner_0 (24, (.getfield 59, 3)) (List.mem_of_getElem? (i := 14) rfl)
theorem dX11_sooner_27 : decode cX11_sooner 27 = .ok (.iload_n 1, 1) := dgX11_sooner_0 (27, (.iload_n 1, 1)) (List.mem_of_getElem? (i := 15) rfl)
theorem dX11_sooner_28 : decode cX11_sooner 28 = .ok (.iload_n 2, 1) := dgX11_sooner_0 (28, (.iload_n 2, 1)) (List.mem_of_getElem? (i := 16) rfl)
theorem dX11_sooner_29 : decode cX11_sooner 29 = .ok (.iload_n 3, 1) := dgX11_sooner_0 (29, (.iload_n 3, 1)) (List.mem_of_getElem? (i := 17) rfl)
theorem dX11_sooner_30 : decode cX11_sooner 30 = .ok (.bipush 24, 2) := dgX11_sooner_0 (30, (.bipush 24, 2)) (List.mem_of_getElem? (i := 18) rfl)
theorem dX11_sooner_32 : decode cX11_sooner 32 = .ok (.invokevirtual 330, 3) := dgX11_sooner_0 (32, (.invokevirtual 330, 3)) (List.mem_of_getElem? (i := 19) rfl)
theorem dX11_sooner_35 : decode cX11_sooner 35 = .ok (.istore 5, 2) := dgX11_sooner_0 (35, (.istore 5, 2)) (List.mem_of_getElem? (i := 20) rfl)
theorem dX11_sooner_37 : decode cX11_sooner 37 = .ok (.iload 5, 2) := dgX11_sooner_0 (37, (.iload 5, 2)) (List.mem_of_getElem? (i := 21) rfl)
theorem dX11_sooner_39 : decode cX11_sooner 39 = .ok (.iconst (-1), 1) := dgX11_sooner_0 (39, (.iconst (-1), 1)) (List.mem_of_getElem? (i := 22) rfl)
theorem dX11_sooner_40 : decode cX11_sooner 40 = .ok (.if_icmp .ne 8, 3) := dgX11_sooner_0 (40, (.if_icmp .ne 8, 3)) (List.mem_of_getElem? (i := 23) rfl)
theorem dX11_sooner_43 : decode cX11_sooner 43 = .ok (.bipush 24, 2) := dgX11_sooner_0 (43, (.bipush 24, 2)) (List.mem_of_getElem? (i := 24) rfl)
theorem dX11_sooner_45 : decode cX11_sooner 45 = .ok (.goto 5, 3) := dgX11_sooner_0 (45, (.goto 5, 3)) (List.mem_of_getElem? (i := 25) rfl)
theorem dX11_sooner_48 : decode cX11_sooner 48 = .ok (.iload 5, 2) := dgX11_sooner_0 (48, (.iload 5, 2)) (List.mem_of_getElem? (i := 26) rfl)
theorem dX11_sooner_50 : decode cX11_sooner 50 = .ok (.istore 6, 2) := dgX11_sooner_0 (50, (.istore 6, 2)) (List.mem_of_getElem? (i := 27) rfl)
theorem dX11_sooner_52 : decode cX11_sooner 52 = .ok (.iconst (-1), 1) := dgX11_sooner_0 (52, (.iconst (-1), 1)) (List.mem_of_getElem? (i := 28) rfl)
theorem dX11_sooner_53 : decode cX11_sooner 53 = .ok (.istore 7, 2) := dgX11_sooner_0 (53, (.istore 7, 2)) (List.mem_of_getElem? (i := 29) rfl)
theorem dX11_sooner_55 : decode cX11_sooner 55 = .ok (.iconst 0, 1) := dgX11_sooner_0 (55, (.iconst 0, 1)) (List.mem_of_getElem? (i := 30) rfl)
theorem dX11_sooner_56 : decode cX11_sooner 56 = .ok (.istore 8, 2) := dgX11_sooner_0 (56, (.istore 8, 2)) (List.mem_of_getElem? (i := 31) rfl)
theorem dX11_sooner_58 : decode cX11_sooner 58 = .ok (.iload 8, 2) := dgX11_sooner_0 (58, (.iload 8, 2)) (List.mem_of_getElem? (i := 32) rfl)
theorem dX11_sooner_60 : decode cX11_sooner 60 = .ok (.aload_n 0, 1) := dgX11_sooner_0 (60, (.aload_n 0, 1)) (List.mem_of_getElem? (i := 33) rfl)
theorem dX11_sooner_61 : decode cX11_sooner 61 = .ok (.getfield 12, 3) := dgX11_sooner_0 (61, (.getfield 12, 3)) (List.mem_of_getElem? (i := 34) rfl)
theorem dX11_sooner_64 : decode cX11_sooner 64 = .ok (.getfield 136, 3) := dgX11_sooner_0 (64, (.getfield 136, 3)) (List.mem_of_getElem? (i := 35) rfl)
theorem dX11_sooner_67 : decode cX11_sooner 67 = .ok (.getfield 238, 3) := dgX11_sooner_0 (67, (.getfield 238, 3)) (List.mem_of_getElem? (i := 36) rfl)
theorem dX11_sooner_70 : decode cX11_sooner 70 = .ok (.if_icmp .ge 132, 3) := dgX11_sooner_0 (70, (.if_icmp .ge 132, 3)) (List.mem_of_getElem? (i := 37) rfl)
theorem dX11_sooner_73 : decode cX11_sooner 73 = .ok (.aload_n 0, 1) := dgX11_sooner_0 (73, (.aload_n 0, 1)) (List.mem_of_getElem? (i := 38) rfl)
theorem dX11_sooner_74 : decode cX11_sooner 74 = .ok (.getfield 12, 3) := dgX11_sooner_0 (74, (.getfield 12, 3)) (List.mem_of_getElem? (i := 39) rfl)
theorem dgX11_sooner_1 : ∀ r ∈ ([(77, (.getfield 136, 3)), (80, (.iload 8, 2)), (82, (.iconst 1, 1)), (83, (.invokevirtual 163, 3)), (86, (.istore 9, 2)), (88, (.iconst 0, 1)), (89, (.istore 10, 2)), (91, (.iload 10, 2)), (93, (.bipush 6, 2)), (95, (.if_icmp .ge 86, 3)), (98, (.aload_n 0, 1)), (99, (.getfield 12, 3)), (102, (.getfield 136, 3)), (105, (.iload 8, 2)), (107, (.iconst 1, 1)), (108, (.iload 10, 2)), (110, (.invokevirtual 149, 3)), (113, (.iload 10, 2)), (115, (.iload 9, 2)), (117, (.if_icmp .ne 7, 3)), (120, (.iconst (-1), 1)), (121, (.goto 17, 3)), (124, (.aload_n 0, 1)), (125, (.getfield 59, 3)), (128, (.iload 8, 2)), (130, (.iload_n 1, 1)), (131, (.iload_n 2, 1)), (132, (.iload_n 3, 1)), (133, (.iload 6, 2)), (135, (.invokevirtual 336, 3)), (138, (.istore 11, 2)), (140, (.iload 11, 2)), (142, (.iconst (-1), 1)), (143, (.if_icmp .eq 32, 3)), (146, (.iload 11, 2)), (148, (.istore 6, 2)), (150, (.iload 4, 2)), (152, (.ifCond .ne 8, 3)), (155, (.iload 11, 2)), (157, (.goto 16, 3))] : List (Nat × (Instr × Nat))), decode cX11_sooner r.1 = .ok r.2 := by decide +kernel
theorem dX11_sooner_77 : decode cX11_sooner 77 = .ok (.getfield 136, 3) := dgX11_sooner_1 (77, (.getfield 136, 3)) (List.mem_of_getElem? (i := 0) rfl)
theorem dX11_sooner_80 : decode cX11_sooner 80 = .ok (.iload 8, 2) := dgX11_sooner_1 (80, (.iload 8, 2)) (List.mem_of_getElem? (i := 1) rfl)
theorem dX11_sooner_82 : decode cX11_sooner 82 = .ok (.iconst 1, 1) := dgX11_sooner_1 (82, (.iconst 1, 1)) (List.mem_of_getElem? (i := 2) rfl)
theorem dX11_sooner_83 : decode cX11_sooner 83 = .ok (.invokevirtual 163, 3) := dgX11_sooner_1 (83, (.invokevirtual 163, 3)) (List.mem_of_getElem? (i := 3) rfl)
theorem dX11_sooner_86 : decode cX11_sooner 86 = .ok (.istore 9, 2) := dgX11_sooner_1 (86, (.istore 9, 2)) (List.mem_of_getElem? (i := 4) rfl)
theorem dX11_sooner_88 : decode cX11_sooner 88 = .ok (.iconst 0, 1) := dgX11_sooner_1 (88, (.iconst 0, 1)) (List.mem_of_getElem? (i := 5) rfl)
theorem dX11_sooner_89 : decode cX11_sooner 89 = .ok (.istore 10, 2) := dgX11_sooner_1 (89, (.istore 10, 2)) (List.mem_of_getElem? (i := 6) rfl)
theorem dX11_sooner_91 : decode cX11_sooner 91 = .ok (.iload 10, 2) := dgX11_sooner_1 (91, (.iload 10, 2)) (List.mem_of_getElem? (i := 7) rfl)
theorem dX11_sooner_93 : decode cX11_sooner 93 = .ok (.bipush 6, 2) := dgX11_sooner_1 (93, (.bipush 6, 2)) (List.mem_of_getElem? (i := 8) rfl)
theorem dX11_sooner_95 : decode cX11_sooner 95 = .ok (.if_icmp .ge 86, 3) := dgX11_sooner_1 (95, (.if_icmp .ge 86, 3)) (List.mem_of_getElem? (i := 9) rfl)
theorem dX11_sooner_98 : decode cX11_sooner 98 = .ok (.aload_n 0, 1) := dgX11_sooner_1 (98, (.aload_n 0, 1)) (List.mem_of_getElem? (i := 10) rfl)
theorem dX11_sooner_99 : decode cX11_sooner 99 = .ok (.getfield 12, 3) := dgX11_sooner_1 (99, (.getfield 12, 3)) (List.mem_of_getElem? (i := 11) rfl)
theorem dX11_sooner_102 : decode cX11_sooner 102 = .ok (.getfield 136, 3) := dgX11_sooner_1 (102, (.getfield 136, 3)) (List.mem_of_getElem? (i := 12) rfl)
theorem dX11_sooner_105 : decode cX11_sooner 105 = .ok (.iload 8, 2) := dgX11_sooner_1 (105, (.iload 8, 2)) (List.mem_of_getElem? (i := 13) rfl)
theorem dX11_sooner_107 : decode cX11_sooner 107 = .ok (.iconst 1, 1) := dgX11_sooner_1 (107, (.iconst 1, 1)) (List.mem_of_getElem? (i := 14) rfl)
theorem dX11_sooner_108 : decode cX11_sooner 108 = .ok (.iload 10, 2) := dgX11_sooner_1 (108, (.iload 10, 2)) (List.mem_of_getElem? (i := 15) rfl)
theorem dX11_sooner_110 : decode cX11_sooner 110 = .ok (.invokevirtual 149, 3) := dgX11_sooner_1 (110, (.invokevirtual 149, 3)) (List.mem_of_getElem? (i := 16) rfl)
theorem dX11_sooner_113 : decode cX11_sooner 113 = .ok (.iload 10, 2) := dgX11_sooner_1 (113, (.iload 10, 2)) (List.mem_of_getElem? (i := 17) rfl)
theorem dX11_sooner_115 : decode cX11_sooner 115 = .ok (.iload 9, 2) := dgX11_sooner_1 (115, (.iload 9, 2)) (List.mem_of_getElem? (i := 18) rfl)
theorem dX11_sooner_117 : decode cX11_sooner 117 = .ok (.if_icmp .ne 7, 3) := dgX11_sooner_1 (117, (.if_icmp .ne 7, 3)) (List.mem_of_getElem? (i := 19) rfl)
theorem dX11_sooner_120 : decode cX11_sooner 120 = .ok (.iconst (-1), 1) := dgX11_sooner_1 (120, (.iconst (-1), 1)) (List.mem_of_getElem? (i := 20) rfl)
theorem dX11_sooner_121 : decode cX11_sooner 121 = .ok (.goto 17, 3) := dgX11_sooner_1 (121, (.goto 17, 3)) (List.mem_of_getElem? (i := 21) rfl)
theorem dX11_sooner_124 : decode cX11_sooner 124 = .ok (.aload_n 0, 1) := dgX11_sooner_1 (124, (.aload_n 0, 1)) (List.mem_of_getElem? (i := 22) rfl)
theorem dX11_sooner_125 : decode cX11_sooner 125 = .ok (.getfield 59, 3) := dgX11_sooner_1 (125, (.getfield 59, 3)) (List.mem_of_getElem? (i := 23) rfl)
theorem dX11_sooner_128 : decode cX11_sooner 128 = .ok (.iload 8, 2) := dgX11_sooner_1 (128, (.iload 8, 2)) (List.mem_of_getElem? (i := 24) rfl)
theorem dX11_sooner_130 : decode cX11_sooner 130 = .ok (.iload_n 1, 1) := dgX11_sooner_1 (130, (.iload_n 1, 1)) (List.mem_of_getElem? (i := 25) rfl)
theorem dX11_sooner_131 : decode cX11_sooner 131 = .ok (.iload_n 2, 1) := dgX11_sooner_1 (131, (.iload_n 2, 1)) (List.mem_of_getElem? (i := 26) rfl)
theorem dX11_sooner_132 : decode cX11_sooner 132 = .ok (.iload_n 3, 1) := dgX11_sooner_1 (132, (.iload_n 3, 1)) (List.mem_of_getElem? (i := 27) rfl)
theorem dX11_sooner_133 : decode cX11_sooner 133 = .ok (.iload 6, 2) := dgX11_sooner_1 (133, (.iload 6, 2)) (List.mem_of_getElem? (i := 28) rfl)
theorem dX11_sooner_135 : decode cX11_sooner 135 = .ok (.invokevirtual 336, 3) := dgX11_sooner_1 (135, (.invokevirtual 336, 3)) (List.mem_of_getElem? (i := 29) rfl)
theorem dX11_sooner_138 : decode cX11_sooner 138 = .ok (.istore 11, 2) := dgX11_sooner_1 (138, (.istore 11, 2)) (List.mem_of_getElem? (i := 30) rfl)
theorem dX11_sooner_140 : decode cX11_sooner 140 = .ok (.iload 11, 2) := dgX11_sooner_1 (140, (.iload 11, 2)) (List.mem_of_getElem? (i := 31) rfl)
theorem dX11_sooner_142 : decode cX11_sooner 142 = .ok (.iconst (-1), 1) := dgX11_sooner_1 (142, (.iconst (-1), 1)) (List.mem_of_getElem? (i := 32) rfl)
theorem dX11_sooner_143 : decode cX11_sooner 143 = .ok (.if_icmp .eq 32, 3) := dgX11_sooner_1 (143, (.if_icmp .eq 32, 3)) (List.mem_of_getElem? (i := 33) rfl)
theorem dX11_sooner_146 : decode cX11_sooner 146 = .ok (.iload 11, 2) := dgX11_sooner_1 (146, (.iload 11, 2)) (List.mem_of_getElem? (i := 34) rfl)
theorem dX11_sooner_148 : decode cX11_sooner 148 = .ok (.istore 6, 2) := dgX11_sooner_1 (148, (.istore 6, 2)) (List.mem_of_getElem? (i := 35) rfl)
theorem dX11_sooner_150 : decode cX11_sooner 150 = .ok (.iload 4, 2) := dgX11_sooner_1 (150, (.iload 4, 2)) (List.mem_of_getElem? (i := 36) rfl)
theorem dX11_sooner_152 : decode cX11_sooner 152 = .ok (.ifCond .ne 8, 3) := dgX11_sooner_1 (152, (.ifCond .ne 8, 3)) (List.mem_of_getElem? (i := 37) rfl)
theorem dX11_sooner_155 : decode cX11_sooner 155 = .ok (.iload 11, 2) := dgX11_sooner_1 (155, (.iload 11, 2)) (List.mem_of_getElem? (i := 38) rfl)
theorem dX11_sooner_157 : decode cX11_sooner 157 = .ok (.goto 16, 3) := dgX11_sooner_1 (157, (.goto 16, 3)) (List.mem_of_getElem? (i := 39) rfl)
theorem dgX11_sooner_2 : ∀ r ∈ ([(160, (.iload 4, 2)), (162, (.iconst 1, 1)), (163, (.if_icmp .ne 8, 3)), (166, (.iload 8, 2)), (168, (.goto 5, 3)), (171, (.iload 10, 2)), (173, (.istore 7, 2)), (175, (.iinc 10 1, 3)), (178, (.goto (-87), 3)), (181, (.aload_n 0, 1)), (182, (.getfield 12, 3)), (185, (.getfield 136, 3)), (188, (.iload 8, 2)), (190, (.iconst 1, 1)), (191, (.iload 9, 2)), (193, (.invokevirtual 149, 3)), (196, (.iinc 8 1, 3)), (199, (.goto (-141), 3)), (202, (.iload 7, 2)), (204, (.ireturn, 1))] : List (Nat × (Instr × Nat))), decode cX11_sooner r.1 = .ok r.2 := by decide +kernel
theorem dX11_sooner_160 : decode cX11_sooner 160 = .ok (.iload 4, 2) := dgX11_sooner_2 (160, (.iload 4, 2)) (List.mem_of_getElem? (i := 0) rfl)
theorem dX11_sooner_162 : decode cX11_sooner 162 = .ok (.iconst 1, 1) := dgX11_sooner_2 (162, (.iconst 1, 1)) (List.mem_of_getElem? (i := 1) rfl)
theorem dX11_sooner_163 : decode cX11_sooner 163 = .ok (.if_icmp .ne 8, 3) := dgX11_sooner_2 (163, (.if_icmp .ne 8, 3)) (List.mem_of_getElem? (i := 2) rfl)
theorem dX11_sooner_166 : decode cX11_sooner 166 = .ok (.iload 8, 2) := dgX11_sooner_2 (166, (.iload 8, 2)) (List.mem_of_getElem? (i := 3) rfl)
theorem dX11_sooner_168 : decode cX11_sooner 168 = .ok (.goto 5, 3) := dgX11_sooner_2 (168, (.goto 5, 3)) (List.mem_of_getElem? (i := 4) rfl)
theorem dX11_sooner_171 : decode cX11_sooner 171 = .ok (.iload 10, 2) := dgX11_sooner_2 (171, (.iload 10, 2)) (List.mem_of_getElem? (i := 5) rfl)
theorem dX11_sooner_173 : decode cX11_sooner 173 = .ok (.istore 7, 2) := dgX11_sooner_2 (173, (.istore 7, 2)) (List.mem_of_getElem? (i := 6) rfl)
theorem dX11_sooner_175 : decode cX11_sooner 175 = .ok (.iinc 10 1, 3) := dgX11_sooner_2 (175, (.iinc 10 1, 3)) (List.mem_of_getElem? (i := 7) rfl)
theorem dX11_sooner_178 : decode cX11_sooner 178 = .ok (.goto (-87), 3) := dgX11_sooner_2 (178, (.goto (-87), 3)) (List.mem_of_getElem? (i := 8) rfl)
theorem dX11_sooner_181 : decode cX11_sooner 181 = .ok (.aload_n 0, 1) := dgX11_sooner_2 (181, (.aload_n 0, 1)) (List.mem_of_getElem? (i := 9) rfl)
theorem dX11_sooner_182 : decode cX11_sooner 182 = .ok (.getfield 12, 3) := dgX11_sooner_2 (182, (.getfield 12, 3)) (List.mem_of_getElem? (i := 10) rfl)
theorem dX11_sooner_185 : decode cX11_sooner 185 = .ok (.getfield 136, 3) := dgX11_sooner_2 (185, (.getfield 136, 3)) (List.mem_of_getElem? (i := 11) rfl)
theorem dX11_sooner_188 : decode cX11_sooner 188 = .ok (.iload 8, 2) := dgX11_sooner_2 (188, (.iload 8, 2)) (List.mem_of_getElem? (i := 12) rfl)
theorem dX11_sooner_190 : decode cX11_sooner 190 = .ok (.iconst 1, 1) := dgX11_sooner_2 (190, (.iconst 1, 1)) (List.mem_of_getElem? (i := 13) rfl)
theorem dX11_sooner_191 : decode cX11_sooner 191 = .ok (.iload 9, 2) := dgX11_sooner_2 (191, (.iload 9, 2)) (List.mem_of_getElem? (i := 14) rfl)
theorem dX11_sooner_193 : decode cX11_sooner 193 = .ok (.invokevirtual 149, 3) := dgX11_sooner_2 (193, (.invokevirtual 149, 3)) (List.mem_of_getElem? (i := 15) rfl)
theorem dX11_sooner_196 : decode cX11_sooner 196 = .ok (.iinc 8 1, 3) := dgX11_sooner_2 (196, (.iinc 8 1, 3)) (List.mem_of_getElem? (i := 16) rfl)
theorem dX11_sooner_199 : decode cX11_sooner 199 = .ok (.goto (-141), 3) := dgX11_sooner_2 (199, (.goto (-141), 3)) (List.mem_of_getElem? (i := 17) rfl)
theorem dX11_sooner_202 : decode cX11_sooner 202 = .ok (.iload 7, 2) := dgX11_sooner_2 (202, (.iload 7, 2)) (List.mem_of_getElem? (i := 18) rfl)
theorem dX11_sooner_204 : decode cX11_sooner 204 = .ok (.ireturn, 1) := dgX11_sooner_2 (204, (.ireturn, 1)) (List.mem_of_getElem? (i := 19) rfl)
theorem ml_X11_336 : Cond.methodLink RX11 336 yX9_sightBy ∈ tblG := tg 1139 (by decide +kernel) (by decide +kernel)
theorem im_X9_sightBy : Cond.instanceMethod yX9_sightBy ∈ tblG := tg 1140 (by decide +kernel) (by decide +kernel)
theorem se_X9_sightBy : Cond.selects RX9 yX9_sightBy yX9_sightBy ∈ tblG := tg 1141 (by decide +kernel) (by decide +kernel)
theorem cd_X9_sightBy : Cond.code yX9_sightBy cX9_sightBy 11 (some .int) ∈ tblG := tg 1142 (by decide +kernel) (by decide +kernel)
theorem gW_X9_sightBy : GoodIn tblG (wsG yX9_sightBy cX9_sightBy 11 (some .int)) := tgi cd_X9_sightBy
theorem gV_X11_336 : GoodIn tblG (wsV RX11 336 RX9 yX9_sightBy (wsG yX9_sightBy cX9_sightBy 11 (some .int))) := tgV ml_X11_336 im_X9_sightBy se_X9_sightBy ini_X9 gW_X9_sightBy
theorem hv_X9_sightBy : yX9_sightBy.cls = RX9 ∧ yX9_sightBy.cls ≠ "java/lang/invoke/MethodHandle" ∧ yX9_sightBy.cls ≠ "java/lang/invoke/VarHandle" ∧ (parseMethodDescriptor yX9_sightBy.desc).map (fun d => d.parameters.length) = some 5 := by decide +kernel
set_option maxHeartbeats 4000000 in
set_option maxRecDepth 100000 in
theorem x_soonerN (l : Launch) (G : g5_G) (a_o a_k a_h a_g a_gn a_b a_bn a_p a_pn a_bb a_j a_as a_sk a_l a_pt a_wk a_go a_mt a_im a_ke a_wa a_th a_ha a_r a_x a_wd a_rf a_s a_w : Nat) (sz : Nat) (e_tl : Int32) (e_fd : Int32) (e_fpl : Int32) (e_wn : Int32) (e_lr : Int32) (e_le : Int32) (e_st : Int32) (e_fo : Int32) (e_lc : Int32) (e_g : Int32) (e_b : Int32) (e_p : Int32) (e_ln : Int32) (e_se : Int32) (e_lh : Int32) (e_br : Int32) (e_we : Int32) (e_me : Int32) (e_ce : Int32) (e_wy : Int32) (e_ho : Int32) (e_ov : Int32) (p_b : Int32) (p_c : Int32) (p_h : Int32) (p_t : Int32) (e_wa : Int64) (e_gb : Int64) (f_g : Nat → Int32) (f_b : Nat → Int32) (f_p : Nat → Int32) (f_bb : Nat → Int64) (f_as : Nat → Int32) (f_sk : Nat → Int64) (f_l : Nat → Option Nat) (f_pt : Nat → Int32) (f_go : Nat → Int64) (f_mt : Nat → Int32) (h_e_tl : 0 ≤ e_tl.toInt ∧ e_tl.toInt ≤ 400) (h_e_wn : 0 ≤ e_wn.toInt ∧ e_wn.toInt ≤ 1) (h_e_g : 0 ≤ e_g.toInt ∧ e_g.toInt ≤ 6) (h_e_b : 0 ≤ e_b.toInt ∧ e_b.toInt ≤ 5) (h_e_p : 0 ≤ e_p.toInt ∧ e_p.toInt ≤ 8) (h_e_ov : 0 ≤ e_ov.toInt ∧ e_ov.toInt ≤ 1) (e_gk : gOK f_g e_g.toInt) (e_pk : gOK f_p e_p.toInt) (e_gi : inT e_gb f_g e_g.toInt) (e_f : e_fo.toInt < 0 ∨ e_lc.toInt ≤ e_fo.toInt) : Met l yX11_sooner (wsG yX11_sooner cX11_sooner 12 (some .int)) ({ frames := 16, cells := 0, slots := 0, locals := 612 }) (va_Pc [.ref a_o, .int p_b, .int p_c, .int p_h, .int p_t] (g5_P G [(a_o, (oc11 a_h a_im a_ke a_k a_wa a_th a_ha a_wk a_r a_x e_tl e_fd e_fpl a_wd e_wn a_rf e_lr)), (a_k, (oc5 a_h a_j a_pt e_ln e_se e_lh e_br e_we e_me e_ce e_wy e_ho e_ov)), (a_h, (oc1 e_wa e_le e_st e_fo e_lc a_l a_g a_b a_s a_p a_w e_gb a_bb)), (a_g, (oc6 6 5 a_gn e_g)), (a_gn, (arI G 30 f_g)), (a_b, (oc6 5 24 a_bn e_b)), (a_bn, (arI G 120 f_b)), (a_p, (oc6 8 5 a_pn e_p)), (a_pn, (arI G 40 f_p)), (a_bb, (arJ G 24 f_bb)), (a_j, (oc2 a_as a_sk)), (a_as, (arI G 8 f_as)), (a_sk, (arJ G 50 f_sk)), (a_l, (arW G 6 f_l)), (a_pt, (arI G 200 f_pt)), (a_wk, (oc9 a_h a_k a_go a_mt)), (a_go, (arJ G 24 f_go)), (a_mt, (arI G 1536 f_mt))] sz)) (va_Qi (fun (r : Int32) (u : va_W) => (∃ (o_r : Int32) (o_ln : Int32) (o_se : Int32) (o_lh : Int32) (o_br : Int32) (o_we : Int32) (o_me : Int32) (o_ce : Int32) (o_wy : Int32) (o_ho : Int32) (o_ov : Int32) (o_pt : Nat → Int32) (o_as : Nat → Int32) (o_sk : Nat → Int64) (o_go : Nat → Int64) (o_mt : Nat → Int32) (o_f : Nat → Int32), (0 ≤ o_ov.toInt ∧ o_ov.toInt ≤ 1) ∧ (gOK o_f e_g.toInt) ∧ (inT e_gb o_f e_g.toInt) ∧ (∀ r c : Int, tget o_f e_g.toInt 5 r c = tget f_g e_g.toInt 5 r c) ∧ (r = o_r) ∧ (u = [(a_o, (oc11 a_h a_im a_ke a_k a_wa a_th a_ha a_wk a_r a_x e_tl e_fd e_fpl a_wd e_wn a_rf e_lr)), (a_k, (oc5 a_h a_j a_pt o_ln o_se o_lh o_br o_we o_me o_ce o_wy o_ho o_ov)), (a_h, (oc1 e_wa e_le e_st e_fo e_lc a_l a_g a_b a_s a_p a_w e_gb a_bb)), (a_g, (oc6 6 5 a_gn e_g)), (a_gn, (arI G 30 o_f)), (a_b, (oc6 5 24 a_bn e_b)), (a_bn, (arI G 120 f_b)), (a_p, (oc6 8 5 a_pn e_p)), (a_pn, (arI G 40 f_p)), (a_bb, (arJ G 24 f_bb)), (a_j, (oc2 a_as a_sk)), (a_as, (arI G 8 o_as)), (a_sk, (arJ G 50 o_sk)), (a_l, (arW G 6 f_l)), (a_pt, (arI G 200 o_pt)), (a_wk, (oc9 a_h a_k a_go a_mt)), (a_go, (arJ G 24 o_go)), (a_mt, (arI G 1536 o_mt))]))) (g5_B G (va_A [(a_o, (oc11 a_h a_im a_ke a_k a_wa a_th a_ha a_wk a_r a_x e_tl e_fd e_fpl a_wd e_wn a_rf e_lr)), (a_k, (oc5 a_h a_j a_pt e_ln e_se e_lh e_br e_we e_me e_ce e_wy e_ho e_ov)), (a_h, (oc1 e_wa e_le e_st e_fo e_lc a_l a_g a_b a_s a_p a_w e_gb a_bb)), (a_g, (oc6 6 5 a_gn e_g)), (a_gn, (arI G 30 f_g)), (a_b, (oc6 5 24 a_bn e_b)), (a_bn, (arI G 120 f_b)), (a_p, (oc6 8 5 a_pn e_p)), (a_pn, (arI G 40 f_p)), (a_bb, (arJ G 24 f_bb)), (a_j, (oc2 a_as a_sk)), (a_as, (arI G 8 f_as)), (a_sk, (arJ G 50 f_sk)), (a_l, (arW G 6 f_l)), (a_pt, (arI G 200 f_pt)), (a_wk, (oc9 a_h a_k a_go a_mt)), (a_go, (arJ G 24 f_go)), (a_mt, (arI G 1536 f_mt))] sz)) (va_A [(a_o, (oc11 a_h a_im a_ke a_k a_wa a_th a_ha a_wk a_r a_x e_tl e_fd e_fpl a_wd e_wn a_rf e_lr)), (a_k, (oc5 a_h a_j a_pt e_ln e_se e_lh e_br e_we e_me e_ce e_wy e_ho e_ov)), (a_h, (oc1 e_wa e_le e_st e_fo e_lc a_l a_g a_b a_s a_p a_w e_gb a_bb)), (a_g, (oc6 6 5 a_gn e_g)), (a_gn, (arI G 30 f_g)), (a_b, (oc6 5 24 a_bn e_b)), (a_bn, (arI G 120 f_b)), (a_p, (oc6 8 5 a_pn e_p)), (a_pn, (arI G 40 f_p)), (a_bb, (arJ G 24 f_bb)), (a_j, (oc2 a_as a_sk)), (a_as, (arI G 8 f_as)), (a_sk, (arJ G 50 f_sk)), (a_l, (arW G 6 f_l)), (a_pt, (arI G 200 f_pt)), (a_wk, (oc9 a_h a_k a_go a_mt)), (a_go, (arJ G 24 f_go)), (a_mt, (arI G 1536 f_mt))] sz)) 0 0 (va_A [(a_o, (oc11 a_h a_im a_ke a_k a_wa a_th a_ha a_wk a_r a_x e_tl e_fd e_fpl a_wd e_wn a_rf e_lr)), (a_k, (oc5 a_h a_j a_pt e_ln e_se e_lh e_br e_we e_me e_ce e_wy e_ho e_ov)), (a_h, (oc1 e_wa e_le e_st e_fo e_lc a_l a_g a_b a_s a_p a_w e_gb a_bb)), (a_g, (oc6 6 5 a_gn e_g)), (a_gn, (arI G 30 f_g)), (a_b, (oc6 5 24 a_bn e_b)), (a_bn, (arI G 120 f_b)), (a_p, (oc6 8 5 a_pn e_p)), (a_pn, (arI G 40 f_p)), (a_bb, (arJ G 24 f_bb)), (a_j, (oc2 a_as a_sk)), (a_as, (arI G 8 f_as)), (a_sk, (arJ G 50 f_sk)), (a_l, (arW G 6 f_l)), (a_pt, (arI G 200 f_pt)), (a_wk, (oc9 a_h a_k a_go a_mt)), (a_go, (arJ G 24 f_go)), (a_mt, (arI G 1536 f_mt))] sz) := by
  refine Met.ofW (cc := cX11_sooner) (maxL := 12) (ret := (some .int)) (by decide +kernel) rfl ?_
  intro p e s m args below meth c s₁ B hml hv
  obtain ⟨rfl, hsz, hP, hK, hD0, hN, hT⟩ := hv
  have hx := B.exec
  have hb := B.bytes
  have hr := B.returns
  have hts : ∀ w ∈ tblG, w.before _ s = true := fun w h => atoms_spec (ws := (wsG yX11_sooner cX11_sooner 12 (some .int))) B.pre w (List.mem_cons_of_mem _ h)
  have hown : s.vm.findClass RX11 = some m.cls := findClass_of_methodNamed B.named
  have hlocks := B.notSynchronized
  subst hsz
  have hD := hD0.self (sz := s.heap.size)
  generalize hAe : va_A [(a_o, (oc11 a_h a_im a_ke a_k a_wa a_th a_ha a_wk a_r a_x e_tl e_fd e_fpl a_wd e_wn a_rf e_lr)), (a_k, (oc5 a_h a_j a_pt e_ln e_se e_lh e_br e_we e_me e_ce e_wy e_ho e_ov)), (a_h, (oc1 e_wa e_le e_st e_fo e_lc a_l a_g a_b a_s a_p a_w e_gb a_bb)), (a_g, (oc6 6 5 a_gn e_g)), (a_gn, (arI G 30 f_g)), (a_b, (oc6 5 24 a_bn e_b)), (a_bn, (arI G 120 f_b)), (a_p, (oc6 8 5 a_pn e_p)), (a_pn, (arI G 40 f_p)), (a_bb, (arJ G 24 f_bb)), (a_j, (oc2 a_as a_sk)), (a_as, (arI G 8 f_as)), (a_sk, (arJ G 50 f_sk)), (a_l, (arW G 6 f_l)), (a_pt, (arI G 200 f_pt)), (a_wk, (oc9 a_h a_k a_go a_mt)), (a_go, (arJ G 24 f_go)), (a_mt, (arI G 1536 f_mt))] s.heap.size = A at hD hT ⊢
  have hA : ∀ q : Nat, s.heap.size ≤ q → A q := fun q h => by rw [← hAe]; exact Or.inr h
  have hS : va_S A s.heap s.heap [] := va_S.rf
  replace hP : va_P G.1 vwCl [(a_o, (oc11 a_h a_im a_ke a_k a_wa a_th a_ha a_wk a_r a_x e_tl e_fd e_fpl a_wd e_wn a_rf e_lr)), (a_k, (oc5 a_h a_j a_pt e_ln e_se e_lh e_br e_we e_me e_ce e_wy e_ho e_ov)), (a_h, (oc1 e_wa e_le e_st e_fo e_lc a_l a_g a_b a_s a_p a_w e_gb a_bb)), (a_g, (oc6 6 5 a_gn e_g)), (a_gn, (arI G 30 f_g)), (a_b, (oc6 5 24 a_bn e_b)), (a_bn, (arI G 120 f_b)), (a_p, (oc6 8 5 a_pn e_p)), (a_pn, (arI G 40 f_p)), (a_bb, (arJ G 24 f_bb)), (a_j, (oc2 a_as a_sk)), (a_as, (arI G 8 f_as)), (a_sk, (arJ G 50 f_sk)), (a_l, (arW G 6 f_l)), (a_pt, (arI G 200 f_pt)), (a_wk, (oc9 a_h a_k a_go a_mt)), (a_go, (arJ G 24 f_go)), (a_mt, (arI G 1536 f_mt))] s.heap := hP
  have hl := lv_entry ([.ref a_o, .int p_b, .int p_c, .int p_h, .int p_t]) (n := 12) (Nat.le_of_ble_eq_true rfl)
  rw [lg_entry_eq]
  generalize (lg_sl ([.ref a_o, .int p_b, .int p_c, .int p_h, .int p_t]) ++ List.replicate (12 - (lg_sl ([.ref a_o, .int p_b, .int p_c, .int p_h, .int p_t])).length) Slot.unset).toArray = ls at hl ⊢
  replace hl : lv_has ls 12 [(0, .ref a_o), (1, .int p_b), (2, .int p_c), (3, .int p_h), (4, .int p_t)] := hl
  refine lv_aload_n hx hb dX11_sooner_0 rfl (lv_at hl 0 rfl) ?_
  refine lv_iload_n hx hb dX11_sooner_1 rfl (lv_at hl 1 rfl) ?_
  refine lv_iload_n hx hb dX11_sooner_2 rfl (lv_at hl 2 rfl) ?_
  refine lv_iload_n hx hb dX11_sooner_3 rfl (lv_at hl 3 rfl) ?_
  refine W.eq (g2 := F0 m 4 ls [.int p_h, .int p_c, .int p_b, .ref a_o]) rfl ?_
  obtain ⟨hPc, hDc, hFc⟩ := g5_sub3 (wc := [(a_o, (oc11 a_h a_im a_ke a_k a_wa a_th a_ha a_wk a_r a_x e_tl e_fd e_fpl a_wd e_wn a_rf e_lr)), (a_h, (oc1 e_wa e_le e_st e_fo e_lc a_l a_g a_b a_s a_p a_w e_gb a_bb)), (a_b, (oc6 5 24 a_bn e_b))]) hP hD hS hA [0, 2, 5] (by decide +kernel) rfl
  refine va_calli (va_runV (As := [.int p_b, .int p_c, .int p_h]) (rest := []) ⟨hx, hb, hml, hown, hts⟩ (x_canWalk l G a_o a_h a_b a_im a_ke a_k a_wa a_th a_ha a_wk a_r a_x a_wd a_rf a_l a_g a_s a_p a_w a_bb a_bn s.heap.size e_tl e_fd e_fpl e_wn e_lr e_le e_st e_fo e_lc e_b p_b p_c p_h e_wa e_gb h_e_tl h_e_wn h_e_b) (cwV 3 hts gV_X11_327 rfl rfl rfl hv_X11_canWalk ⟨Nat.le_of_ble_eq_true rfl, Nat.le_of_ble_eq_true rfl⟩) (g5_preV hPc hK hDc hN hT hS hFc (ci := 11) (q0 := 0) rfl rfl) rfl rfl hl.1 rfl (lv_room (Nat.le_of_ble_eq_true rfl)) dX11_sooner_4 ⟨Nat.le_of_ble_eq_true rfl, Nat.le_of_ble_eq_true rfl⟩) hS (fun q _ h => hFc q h) hFc (fun r u t H locs ht hvm hw hB hz1 hk1 hS => ?_)
  obtain ⟨hP1, hD1⟩ := hB
  have hP1 := g5_ht ht hP1
  rcases hw with ⟨(i_1 : 0 ≤ p_c.toInt ∧ p_c.toInt ≤ 63), (i_2 : 0 ≤ p_h.toInt ∧ p_h.toInt ≤ 23), rfl, rfl⟩ | ⟨rfl, rfl⟩
  ·
    have hJ9 := va_join (wr := [(a_k, (oc5 a_h a_j a_pt e_ln e_se e_lh e_br e_we e_me e_ce e_wy e_ho e_ov)), (a_g, (oc6 6 5 a_gn e_g)), (a_gn, (arI G 30 f_g)), (a_bn, (arI G 120 f_b)), (a_p, (oc6 8 5 a_pn e_p)), (a_pn, (arI G 40 f_p)), (a_bb, (arJ G 24 f_bb)), (a_j, (oc2 a_as a_sk)), (a_as, (arI G 8 f_as)), (a_sk, (arJ G 50 f_sk)), (a_l, (arW G 6 f_l)), (a_pt, (arI G 200 f_pt)), (a_wk, (oc9 a_h a_k a_go a_mt)), (a_go, (arJ G 24 f_go)), (a_mt, (arI G 1536 f_mt))]) hP hD [0, 2, 5] [1, 3, 4, 6, 7, 8, 9, 10, 11, 12, 13, 14, 15, 16, 17] rfl rfl (by decide +kernel) (by decide +kernel) hk1 hFc hP1 hD1
    clear hP hD hPc hDc hFc ht hvm hz1 hk1 hP1 hD1
    obtain ⟨hP, hD⟩ := hJ9
    refine g5_rs [(a_k, (oc5 a_h a_j a_pt e_ln e_se e_lh e_br e_we e_me e_ce e_wy e_ho e_ov)), (a_g, (oc6 6 5 a_gn e_g)), (a_gn, (arI G 30 f_g)), (a_bn, (arI G 120 f_b)), (a_p, (oc6 8 5 a_pn e_p)), (a_pn, (arI G 40 f_p)), (a_bb, (arJ G 24 f_bb)), (a_j, (oc2 a_as a_sk)), (a_as, (arI G 8 f_as)), (a_sk, (arJ G 50 f_sk)), (a_l, (arW G 6 f_l)), (a_pt, (arI G 200 f_pt)), (a_wk, (oc9 a_h a_k a_go a_mt)), (a_go, (arJ G 24 f_go)), (a_mt, (arI G 1536 f_mt)), (a_o, (oc11 a_h a_im a_ke a_k a_wa a_th a_ha a_wk a_r a_x e_tl e_fd e_fpl a_wd e_wn a_rf e_lr)), (a_h, (oc1 e_wa e_le e_st e_fo e_lc a_l a_g a_b a_s a_p a_w e_gb a_bb)), (a_b, (oc6 5 24 a_bn e_b))] hP hD ?_
    clear hP hD
    intro hP hD
    refine lv_if_eq (tgt := 21) hx hb dX11_sooner_7 (by decide +kernel) (fun c_3 => ?_) (fun c_3 => ?_)
    ·
      exact absurd c_3 (by decide +kernel)
    ·
      refine lv_iload hx hb dX11_sooner_10 (lv_at hl 4 rfl) ?_
      refine lv_if_lt (tgt := 21) hx hb dX11_sooner_12 (by decide +kernel) (fun c_4 => ?_) (fun c_4 => ?_)
      ·
        have i_4 : p_t.toInt < 0 := g5_lt (a := p_t.toInt) (b := 0) rfl (by decide +kernel) c_4
        refine lv_iconst (v := (-1)) hx hb dX11_sooner_21 (by decide +kernel) ?_
        exact W.iret (v := (-1)) hx hb hr (fun t ht hW => ⟨⟨(-1), [(a_o, (oc11 a_h a_im a_ke a_k a_wa a_th a_ha a_wk a_r a_x e_tl e_fd e_fpl a_wd e_wn a_rf e_lr)), (a_k, (oc5 a_h a_j a_pt e_ln e_se e_lh e_br e_we e_me e_ce e_wy e_ho e_ov)), (a_h, (oc1 e_wa e_le e_st e_fo e_lc a_l a_g a_b a_s a_p a_w e_gb a_bb)), (a_g, (oc6 6 5 a_gn e_g)), (a_gn, (arI G 30 f_g)), (a_b, (oc6 5 24 a_bn e_b)), (a_bn, (arI G 120 f_b)), (a_p, (oc6 8 5 a_pn e_p)), (a_pn, (arI G 40 f_p)), (a_bb, (arJ G 24 f_bb)), (a_j, (oc2 a_as a_sk)), (a_as, (arI G 8 f_as)), (a_sk, (arJ G 50 f_sk)), (a_l, (arW G 6 f_l)), (a_pt, (arI G 200 f_pt)), (a_wk, (oc9 a_h a_k a_go a_mt)), (a_go, (arJ G 24 f_go)), (a_mt, (arI G 1536 f_mt))], rfl, ⟨(-1), e_ln, e_se, e_lh, e_br, e_we, e_me, e_ce, e_wy, e_ho, e_ov, f_pt, f_as, f_sk, f_go, f_mt, f_g, h_e_ov, e_gk, e_gi, fun _ _ => rfl, rfl, rfl⟩, by rw [ht]; exact hP.sub [15, 0, 16, 1, 2, 17, 3, 4, 5, 6, 7, 8, 9, 10, 11, 12, 13, 14] rfl, hD.sub [15, 0, 16, 1, 2, 17, 3, 4, 5, 6, 7, 8, 9, 10, 11, 12, 13, 14] (by decide +kernel) rfl⟩, hS.F ht⟩) hS.2.2 dX11_sooner_22
      ·
        have i_4 : p_t.toInt ≥ 0 := g5_ltN (a := p_t.toInt) (b := 0) rfl (by decide +kernel) c_4
        refine lv_iload hx hb dX11_sooner_15 (lv_at hl 4 rfl) ?_
        refine lv_iconst (v := 2) hx hb dX11_sooner_17 (by decide +kernel) ?_
        refine lv_icmp_le (tgt := 23) hx hb dX11_sooner_18 (by decide +kernel) (fun c_5 => ?_) (fun c_5 => ?_)
        ·
          have i_5 : p_t.toInt ≤ 2 := g5_le (a := p_t.toInt) (b := 2) rfl (by decide +kernel) c_5
          refine lv_aload_n hx hb dX11_sooner_23 rfl (lv_at hl 0 rfl) ?_
          refine va_get (D := G.1) (ci := 11) (v := .ref a_wk) (C := RX11) (T := TX11) (N := 17) hx hb hts inG_X11 hown hK hP 15 rfl rfl 7 (by decide +kernel) (hts _ fl_X11_59) (fun _ h9 => h9) rfl dX11_sooner_24 ?_
          refine lv_iload_n hx hb dX11_sooner_27 rfl (lv_at hl 1 rfl) ?_
          refine lv_iload_n hx hb dX11_sooner_28 rfl (lv_at hl 2 rfl) ?_
          refine W.eq (g2 := F0 m 29 ls [.int p_c, .int p_b, .ref a_wk]) rfl ?_
          refine lv_iload_n hx hb dX11_sooner_29 rfl (lv_at hl 3 rfl) ?_
          refine lv_bipush (v := 24) hx hb dX11_sooner_30 (by decide +kernel) ?_
          obtain ⟨hPc, hDc, hFc⟩ := g5_sub3 (wc := [(a_k, (oc5 a_h a_j a_pt e_ln e_se e_lh e_br e_we e_me e_ce e_wy e_ho e_ov)), (a_h, (oc1 e_wa e_le e_st e_fo e_lc a_l a_g a_b a_s a_p a_w e_gb a_bb)), (a_g, (oc6 6 5 a_gn e_g)), (a_gn, (arI G 30 f_g)), (a_b, (oc6 5 24 a_bn e_b)), (a_bn, (arI G 120 f_b)), (a_p, (oc6 8 5 a_pn e_p)), (a_pn, (arI G 40 f_p)), (a_bb, (arJ G 24 f_bb)), (a_j, (oc2 a_as a_sk)), (a_as, (arI G 8 f_as)), (a_sk, (arJ G 50 f_sk)), (a_l, (arW G 6 f_l)), (a_pt, (arI G 200 f_pt)), (a_wk, (oc9 a_h a_k a_go a_mt)), (a_go, (arJ G 24 f_go)), (a_mt, (arI G 1536 f_mt))]) hP hD hS hA [0, 16, 1, 2, 17, 3, 4, 5, 6, 7, 8, 9, 10, 11, 12, 13, 14] (by decide +kernel) rfl
          refine va_calli (va_runV (As := [.int p_b, .int p_c, .int p_h, .int 24]) (rest := []) ⟨hx, hb, hml, hown, hts⟩ (a_firstN l G a_k a_h a_g a_gn a_b a_bn a_p a_pn a_bb a_j a_as a_sk a_l a_pt a_wk a_go a_mt a_s a_w H.size e_le e_st e_fo e_lc e_g e_b e_p e_ln e_se e_lh e_br e_we e_me e_ce e_wy e_ho e_ov p_b p_c p_h 24 e_wa e_gb f_g f_b f_p f_bb f_as f_sk f_l f_pt f_go f_mt h_e_g h_e_b h_e_p h_e_ov i_1 i_2 ⟨by decide, by decide⟩ (e_gk) (e_pk) (e_gi) (e_f)) (cwV 4 hts gV_X11_330 rfl rfl rfl hv_X9_firstSight ⟨Nat.le_of_ble_eq_true rfl, Nat.le_of_ble_eq_true rfl⟩) (g5_preV hPc hK hDc hN hT hS hFc (ci := 9) (q0 := 14) rfl rfl) rfl rfl hl.1 rfl (lv_room (Nat.le_of_ble_eq_true rfl)) dX11_sooner_32 ⟨Nat.le_of_ble_eq_true rfl, Nat.le_of_ble_eq_true rfl⟩) hS (fun q _ h => hFc q h) hFc (fun r u t H locs ht hvm hw hB hz1 hk1 hS => ?_)
          obtain ⟨hP1, hD1⟩ := hB
          have hP1 := g5_ht ht hP1
          obtain ⟨z9, z10, z11, z12, z13, z14, z15, z16, z17, z18, z19, z20, z21, z22, z23, z24, (i_6 : 0 ≤ z19.toInt ∧ z19.toInt ≤ 1), (i_7 : -1 ≤ z9.toInt ∧ z9.toInt ≤ 23), (i_8 : z9.toInt = -1 ∨ (p_h.toInt ≤ z9.toInt ∧ z9.toInt < (24 : Int32).toInt)), y25, rfl⟩ := hw
          have hJ9 := va_join (wr := [(a_o, (oc11 a_h a_im a_ke a_k a_wa a_th a_ha a_wk a_r a_x e_tl e_fd e_fpl a_wd e_wn a_rf e_lr))]) hP hD [0, 16, 1, 2, 17, 3, 4, 5, 6, 7, 8, 9, 10, 11, 12, 13, 14] [15] rfl rfl (by decide +kernel) (by decide +kernel) hk1 hFc hP1 hD1
          clear hP hD hPc hDc hFc ht hvm hz1 hk1 hP1 hD1
          obtain ⟨hP, hD⟩ := hJ9
          refine g5_rs [(a_o, (oc11 a_h a_im a_ke a_k a_wa a_th a_ha a_wk a_r a_x e_tl e_fd e_fpl a_wd e_wn a_rf e_lr)), (a_k, (oc5 a_h a_j a_pt z10 z11 z12 z13 z14 z15 z16 z17 z18 z19)), (a_h, (oc1 e_wa e_le e_st e_fo e_lc a_l a_g a_b a_s a_p a_w e_gb a_bb)), (a_g, (oc6 6 5 a_gn e_g)), (a_gn, (arI G 30 f_g)), (a_b, (oc6 5 24 a_bn e_b)), (a_bn, (arI G 120 f_b)), (a_p, (oc6 8 5 a_pn e_p)), (a_pn, (arI G 40 f_p)), (a_bb, (arJ G 24 f_bb)), (a_j, (oc2 a_as a_sk)), (a_as, (arI G 8 z21)), (a_sk, (arJ G 50 z22)), (a_l, (arW G 6 f_l)), (a_pt, (arI G 200 z20)), (a_wk, (oc9 a_h a_k a_go a_mt)), (a_go, (arJ G 24 z23)), (a_mt, (arI G 1536 z24))] hP hD ?_
          clear hP hD
          intro hP hD
          refine g5_ti (v := z9) y25 ?_
          refine lv_istore (lv' := [(5, .int z9), (0, .ref a_o), (1, .int p_b), (2, .int p_c), (3, .int p_h), (4, .int p_t)]) hx hb dX11_sooner_35 hl (by decide +kernel) rfl ?_
          clear hl
          intro ls hl
          refine lv_iload hx hb dX11_sooner_37 (lv_at hl 0 rfl) ?_
          refine W.eq (g2 := F0 m 39 ls [.int z9]) rfl ?_
          refine lv_iconst (v := (-1)) hx hb dX11_sooner_39 (by decide +kernel) ?_
          refine lv_icmp_ne (tgt := 48) hx hb dX11_sooner_40 (by decide +kernel) (fun c_26 => ?_) (fun c_26 => ?_)
          ·
            have n_26 : gNe (z9.toInt) ((-1)) := g5_ne (a := z9.toInt) (b := (-1)) rfl (by decide +kernel) c_26
            have i_26 : z9.toInt ≥ 0 := by have z := g5_ne (a := z9.toInt) (b := (-1)) (by rfl) (by decide +kernel) c_26; omega
            refine lv_iload hx hb dX11_sooner_48 (lv_at hl 0 rfl) ?_
            refine lv_istore (lv' := [(6, .int z9), (5, .int z9), (0, .ref a_o), (1, .int p_b), (2, .int p_c), (3, .int p_h), (4, .int p_t)]) hx hb dX11_sooner_50 hl (by decide +kernel) rfl ?_
            clear hl
            intro ls hl
            refine lv_iconst (v := (-1)) hx hb dX11_sooner_52 (by decide +kernel) ?_
            refine lv_istore (lv' := [(7, .int (-1)), (6, .int z9), (5, .int z9), (0, .ref a_o), (1, .int p_b), (2, .int p_c), (3, .int p_h), (4, .int p_t)]) hx hb dX11_sooner_53 hl (by decide +kernel) rfl ?_
            clear hl
            intro ls hl
            refine W.eq (g2 := F0 m 55 ls []) rfl ?_
            refine lv_iconst (v := 0) hx hb dX11_sooner_55 (by decide +kernel) ?_
            refine lv_istore (lv' := [(8, .int 0), (7, .int (-1)), (6, .int z9), (5, .int z9), (0, .ref a_o), (1, .int p_b), (2, .int p_c), (3, .int p_h), (4, .int p_t)]) hx hb dX11_sooner_56 hl (by decide +kernel) rfl ?_
            clear hl
            intro ls hl
            refine g5_loop (α := (Int32) × (Int32) × (Int32) × (Int32) × (Int32) × (Int32) × (Int32) × (Int32) × (Int32) × (Int32) × (Int32) × (Int32) × (Nat → Int32) × (Nat → Int32) × (Nat → Int64) × (Int32) × (Nat → Int32)) (fun (q : (Int32) × (Int32) × (Int32) × (Int32) × (Int32) × (Int32) × (Int32) × (Int32) × (Int32) × (Int32) × (Int32) × (Int32) × (Nat → Int32) × (Nat → Int32) × (Nat → Int64) × (Int32) × (Nat → Int32)) (ls : Array Slot) (H : Heap) (locs : List Loc) => match q with | (k_t, k_a, k_g, k_se, k_lh, k_br, k_we, k_me, k_ce, k_wy, k_ho, k_ov, k_pt, k_as, k_sk, k_ln, k_f) => lv_has ls 12 [(6, .int k_t), (7, .int k_a), (8, .int k_g), (0, .ref a_o), (1, .int p_b), (2, .int p_c), (3, .int p_h), (4, .int p_t)] ∧ va_P G.1 vwCl [(a_o, (oc11 a_h a_im a_ke a_k a_wa a_th a_ha a_wk a_r a_x e_tl e_fd e_fpl a_wd e_wn a_rf e_lr)), (a_k, (oc5 a_h a_j a_pt k_ln k_se k_lh k_br k_we k_me k_ce k_wy k_ho k_ov)), (a_h, (oc1 e_wa e_le e_st e_fo e_lc a_l a_g a_b a_s a_p a_w e_gb a_bb)), (a_g, (oc6 6 5 a_gn e_g)), (a_gn, (arI G 30 k_f)), (a_b, (oc6 5 24 a_bn e_b)), (a_bn, (arI G 120 f_b)), (a_p, (oc6 8 5 a_pn e_p)), (a_pn, (arI G 40 f_p)), (a_bb, (arJ G 24 f_bb)), (a_j, (oc2 a_as a_sk)), (a_as, (arI G 8 k_as)), (a_sk, (arJ G 50 k_sk)), (a_l, (arW G 6 f_l)), (a_pt, (arI G 200 k_pt)), (a_wk, (oc9 a_h a_k a_go a_mt)), (a_go, (arJ G 24 z23)), (a_mt, (arI G 1536 z24))] H ∧ va_D A [(a_o, (oc11 a_h a_im a_ke a_k a_wa a_th a_ha a_wk a_r a_x e_tl e_fd e_fpl a_wd e_wn a_rf e_lr)), (a_k, (oc5 a_h a_j a_pt k_ln k_se k_lh k_br k_we k_me k_ce k_wy k_ho k_ov)), (a_h, (oc1 e_wa e_le e_st e_fo e_lc a_l a_g a_b a_s a_p a_w e_gb a_bb)), (a_g, (oc6 6 5 a_gn e_g)), (a_gn, (arI G 30 k_f)), (a_b, (oc6 5 24 a_bn e_b)), (a_bn, (arI G 120 f_b)), (a_p, (oc6 8 5 a_pn e_p)), (a_pn, (arI G 40 f_p)), (a_bb, (arJ G 24 f_bb)), (a_j, (oc2 a_as a_sk)), (a_as, (arI G 8 k_as)), (a_sk, (arJ G 50 k_sk)), (a_l, (arW G 6 f_l)), (a_pt, (arI G 200 k_pt)), (a_wk, (oc9 a_h a_k a_go a_mt)), (a_go, (arJ G 24 z23)), (a_mt, (arI G 1536 z24))] ∧ va_S A s.heap H locs ∧ (0 ≤ k_t.toInt ∧ k_t.toInt ≤ 24) ∧ (0 ≤ k_g.toInt ∧ k_g.toInt ≤ 6) ∧ (0 ≤ k_ov.toInt ∧ k_ov.toInt ≤ 1) ∧ (∀ r c : Int, tget k_f e_g.toInt 5 r c = tget f_g e_g.toInt 5 r c) ∧ (gOK k_f e_g.toInt) ∧ (inT e_gb k_f e_g.toInt)) (fun (q : (Int32) × (Int32) × (Int32) × (Int32) × (Int32) × (Int32) × (Int32) × (Int32) × (Int32) × (Int32) × (Int32) × (Int32) × (Nat → Int32) × (Nat → Int32) × (Nat → Int64) × (Int32) × (Nat → Int32)) => match q with | (k_t, k_a, k_g, k_se, k_lh, k_br, k_we, k_me, k_ce, k_wy, k_ho, k_ov, k_pt, k_as, k_sk, k_ln, k_f) => Int.toNat (6 - k_g.toInt)) (z9, (-1), 0, z11, z12, z13, z14, z15, z16, z17, z18, z19, z20, z21, z22, z10, f_g) ⟨lv_sub hl [2, 1, 0, 4, 5, 6, 7, 8] rfl, hP, hD, hS, ⟨by omega, by omega⟩, ⟨by decide, by decide⟩, i_6, fun _ _ => rfl, e_gk, e_gi⟩ ?_
            rintro ⟨k_t, k_a, k_g, k_se, k_lh, k_br, k_we, k_me, k_ce, k_wy, k_ho, k_ov, k_pt, k_as, k_sk, k_ln, k_f⟩ ls H locs ⟨hl, hP, hD, hS, (i_27 : 0 ≤ k_t.toInt ∧ k_t.toInt ≤ 24), (i_28 : 0 ≤ k_g.toInt ∧ k_g.toInt ≤ 6), (i_29 : 0 ≤ k_ov.toInt ∧ k_ov.toInt ≤ 1), (i_30 : ∀ r c : Int, tget k_f e_g.toInt 5 r c = tget f_g e_g.toInt 5 r c), (i_31 : gOK k_f e_g.toInt), (i_32 : inT e_gb k_f e_g.toInt)⟩ ih_58_33
            replace hl : lv_has ls 12 [(6, .int k_t), (7, .int k_a), (8, .int k_g), (0, .ref a_o), (1, .int p_b), (2, .int p_c), (3, .int p_h), (4, .int p_t)] := hl
            refine g5_rs [(a_o, (oc11 a_h a_im a_ke a_k a_wa a_th a_ha a_wk a_r a_x e_tl e_fd e_fpl a_wd e_wn a_rf e_lr)), (a_k, (oc5 a_h a_j a_pt k_ln k_se k_lh k_br k_we k_me k_ce k_wy k_ho k_ov)), (a_h, (oc1 e_wa e_le e_st e_fo e_lc a_l a_g a_b a_s a_p a_w e_gb a_bb)), (a_g, (oc6 6 5 a_gn e_g)), (a_gn, (arI G 30 k_f)), (a_b, (oc6 5 24 a_bn e_b)), (a_bn, (arI G 120 f_b)), (a_p, (oc6 8 5 a_pn e_p)), (a_pn, (arI G 40 f_p)), (a_bb, (arJ G 24 f_bb)), (a_j, (oc2 a_as a_sk)), (a_as, (arI G 8 k_as)), (a_sk, (arJ G 50 k_sk)), (a_l, (arW G 6 f_l)), (a_pt, (arI G 200 k_pt)), (a_wk, (oc9 a_h a_k a_go a_mt)), (a_go, (arJ G 24 z23)), (a_mt, (arI G 1536 z24))] hP hD ?_
            clear hP hD
            intro hP hD
            refine lv_iload hx hb dX11_sooner_58 (lv_at hl 2 rfl) ?_
            refine lv_aload_n hx hb dX11_sooner_60 rfl (lv_at hl 3 rfl) ?_
            refine va_get (D := G.1) (ci := 11) (v := .ref a_h) (C := RX11) (T := TX11) (N := 17) hx hb hts inG_X11 hown hK hP 0 rfl rfl 0 (by decide +kernel) (hts _ fl_X11_12) (fun _ h9 => h9) rfl dX11_sooner_61 ?_
            refine va_get (D := G.1) (ci := 1) (v := .ref a_g) (C := RX1) (T := TX1) (N := 13) hx hb hts inG_X1 hown hK hP 2 rfl rfl 6 (by decide +kernel) (hts _ fl_X11_136) (fun _ h9 => h9) rfl dX11_sooner_64 ?_
            refine W.eq (g2 := F0 m 67 ls [.ref a_g, .int k_g]) rfl ?_
            refine va_get (D := G.1) (ci := 6) (v := .int e_g) (C := RX6) (T := TX6) (N := 4) hx hb hts inG_X6 hown hK hP 3 rfl rfl 3 (by decide +kernel) (hts _ fl_X11_238) (fun _ h9 => h9) rfl dX11_sooner_67 ?_
            refine lv_icmp_ge (tgt := 202) hx hb dX11_sooner_70 (by decide +kernel) (fun c_34 => ?_) (fun c_34 => ?_)
            ·
              have i_34 : k_g.toInt ≥ e_g.toInt := g5_ge (a := k_g.toInt) (b := e_g.toInt) rfl rfl c_34
              refine lv_iload hx hb dX11_sooner_202 (lv_at hl 1 rfl) ?_
              exact W.iret (v := k_a) hx hb hr (fun t ht hW => ⟨⟨k_a, [(a_o, (oc11 a_h a_im a_ke a_k a_wa a_th a_ha a_wk a_r a_x e_tl e_fd e_fpl a_wd e_wn a_rf e_lr)), (a_k, (oc5 a_h a_j a_pt k_ln k_se k_lh k_br k_we k_me k_ce k_wy k_ho k_ov)), (a_h, (oc1 e_wa e_le e_st e_fo e_lc a_l a_g a_b a_s a_p a_w e_gb a_bb)), (a_g, (oc6 6 5 a_gn e_g)), (a_gn, (arI G 30 k_f)), (a_b, (oc6 5 24 a_bn e_b)), (a_bn, (arI G 120 f_b)), (a_p, (oc6 8 5 a_pn e_p)), (a_pn, (arI G 40 f_p)), (a_bb, (arJ G 24 f_bb)), (a_j, (oc2 a_as a_sk)), (a_as, (arI G 8 k_as)), (a_sk, (arJ G 50 k_sk)), (a_l, (arW G 6 f_l)), (a_pt, (arI G 200 k_pt)), (a_wk, (oc9 a_h a_k a_go a_mt)), (a_go, (arJ G 24 z23)), (a_mt, (arI G 1536 z24))], rfl, ⟨k_a, k_ln, k_se, k_lh, k_br, k_we, k_me, k_ce, k_wy, k_ho, k_ov, k_pt, k_as, k_sk, z23, z24, k_f, i_29, i_31, i_32, i_30, rfl, rfl⟩, by rw [ht]; exact hP.sub [0, 1, 2, 3, 4, 5, 6, 7, 8, 9, 10, 11, 12, 13, 14, 15, 16, 17] rfl, hD.sub [0, 1, 2, 3, 4, 5, 6, 7, 8, 9, 10, 11, 12, 13, 14, 15, 16, 17] (by decide +kernel) rfl⟩, hS.F ht⟩) hS.2.2 dX11_sooner_204
            ·
              have i_34 : k_g.toInt < e_g.toInt := g5_geN (a := k_g.toInt) (b := e_g.toInt) rfl rfl c_34
              refine lv_aload_n hx hb dX11_sooner_73 rfl (lv_at hl 3 rfl) ?_
              refine va_get (D := G.1) (ci := 11) (v := .ref a_h) (C := RX11) (T := TX11) (N := 17) hx hb hts inG_X11 hown hK hP 0 rfl rfl 0 (by decide +kernel) (hts _ fl_X11_12) (fun _ h9 => h9) rfl dX11_sooner_74 ?_
              refine va_get (D := G.1) (ci := 1) (v := .ref a_g) (C := RX1) (T := TX1) (N := 13) hx hb hts inG_X1 hown hK hP 2 rfl rfl 6 (by decide +kernel) (hts _ fl_X11_136) (fun _ h9 => h9) rfl dX11_sooner_77 ?_
              refine lv_iload hx hb dX11_sooner_80 (lv_at hl 2 rfl) ?_
              refine W.eq (g2 := F0 m 82 ls [.int k_g, .ref a_g]) rfl ?_
              refine lv_iconst (v := 1) hx hb dX11_sooner_82 (by decide +kernel) ?_
              obtain ⟨hPc, hDc, hFc⟩ := g5_sub3 (wc := [(a_g, (oc6 6 5 a_gn e_g)), (a_gn, (arI G 30 k_f))]) hP hD hS hA [3, 4] (by decide +kernel) rfl
              refine va_calli (va_runV (As := [.int k_g, .int 1]) (rest := []) ⟨hx, hb, hml, hown, hts⟩ (t_get_G l G a_g a_gn H.size e_g k_g 1 k_f h_e_g) (cwV 2 hts gV_X11_163 rfl rfl rfl hv_X6_get ⟨Nat.le_of_ble_eq_true rfl, Nat.le_of_ble_eq_true rfl⟩) (g5_preV hPc hK hDc hN hT hS hFc (ci := 6) (q0 := 0) rfl rfl) rfl rfl hl.1 rfl (lv_room (Nat.le_of_ble_eq_true rfl)) dX11_sooner_83 ⟨Nat.le_of_ble_eq_true rfl, Nat.le_of_ble_eq_true rfl⟩) hS (fun q _ h => hFc q h) hFc (fun r u t H locs ht hvm hw hB hz1 hk1 hS => ?_)
              obtain ⟨hP1, hD1⟩ := hB
              have hP1 := g5_ht ht hP1
              obtain ⟨z36, (i_35 : z36 = tget k_f e_g.toInt 5 k_g.toInt (1 : Int32).toInt), y37, rfl⟩ := hw
              have hJ9 := va_join (wr := [(a_o, (oc11 a_h a_im a_ke a_k a_wa a_th a_ha a_wk a_r a_x e_tl e_fd e_fpl a_wd e_wn a_rf e_lr)), (a_k, (oc5 a_h a_j a_pt k_ln k_se k_lh k_br k_we k_me k_ce k_wy k_ho k_ov)), (a_h, (oc1 e_wa e_le e_st e_fo e_lc a_l a_g a_b a_s a_p a_w e_gb a_bb)), (a_b, (oc6 5 24 a_bn e_b)), (a_bn, (arI G 120 f_b)), (a_p, (oc6 8 5 a_pn e_p)), (a_pn, (arI G 40 f_p)), (a_bb, (arJ G 24 f_bb)), (a_j, (oc2 a_as a_sk)), (a_as, (arI G 8 k_as)), (a_sk, (arJ G 50 k_sk)), (a_l, (arW G 6 f_l)), (a_pt, (arI G 200 k_pt)), (a_wk, (oc9 a_h a_k a_go a_mt)), (a_go, (arJ G 24 z23)), (a_mt, (arI G 1536 z24))]) hP hD [3, 4] [0, 1, 2, 5, 6, 7, 8, 9, 10, 11, 12, 13, 14, 15, 16, 17] rfl rfl (by decide +kernel) (by decide +kernel) hk1 hFc hP1 hD1
              clear hP hD hPc hDc hFc ht hvm hz1 hk1 hP1 hD1
              obtain ⟨hP, hD⟩ := hJ9
              refine g5_rs [(a_o, (oc11 a_h a_im a_ke a_k a_wa a_th a_ha a_wk a_r a_x e_tl e_fd e_fpl a_wd e_wn a_rf e_lr)), (a_k, (oc5 a_h a_j a_pt k_ln k_se k_lh k_br k_we k_me k_ce k_wy k_ho k_ov)), (a_h, (oc1 e_wa e_le e_st e_fo e_lc a_l a_g a_b a_s a_p a_w e_gb a_bb)), (a_b, (oc6 5 24 a_bn e_b)), (a_bn, (arI G 120 f_b)), (a_p, (oc6 8 5 a_pn e_p)), (a_pn, (arI G 40 f_p)), (a_bb, (arJ G 24 f_bb)), (a_j, (oc2 a_as a_sk)), (a_as, (arI G 8 k_as)), (a_sk, (arJ G 50 k_sk)), (a_l, (arW G 6 f_l)), (a_pt, (arI G 200 k_pt)), (a_wk, (oc9 a_h a_k a_go a_mt)), (a_go, (arJ G 24 z23)), (a_mt, (arI G 1536 z24)), (a_g, (oc6 6 5 a_gn e_g)), (a_gn, (arI G 30 k_f))] hP hD ?_
              clear hP hD
              intro hP hD
              refine g5_ti (v := z36) y37 ?_
              have hg_38 : 0 ≤ z36.toInt ∧ z36.toInt ≤ 5 := by rw [i_35]; exact (i_31 k_g.toInt (by omega) (by omega)).2.1
              refine lv_istore (lv' := [(9, .int z36), (6, .int k_t), (7, .int k_a), (8, .int k_g), (0, .ref a_o), (1, .int p_b), (2, .int p_c), (3, .int p_h), (4, .int p_t)]) hx hb dX11_sooner_86 hl (by decide +kernel) rfl ?_
              clear hl
              intro ls hl
              refine lv_iconst (v := 0) hx hb dX11_sooner_88 (by decide +kernel) ?_
              refine lv_istore (lv' := [(10, .int 0), (9, .int z36), (6, .int k_t), (7, .int k_a), (8, .int k_g), (0, .ref a_o), (1, .int p_b), (2, .int p_c), (3, .int p_h), (4, .int p_t)]) hx hb dX11_sooner_89 hl (by decide +kernel) rfl ?_
              clear hl
              intro ls hl
              refine g5_loop (α := (Int32) × (Int32) × (Int32) × (Int32) × (Int32) × (Int32) × (Int32) × (Int32) × (Int32) × (Int32) × (Int32) × (Int32) × (Nat → Int32) × (Nat → Int32) × (Nat → Int64) × (Int32) × (Nat → Int32)) (fun (q : (Int32) × (Int32) × (Int32) × (Int32) × (Int32) × (Int32) × (Int32) × (Int32) × (Int32) × (Int32) × (Int32) × (Int32) × (Nat → Int32) × (Nat → Int32) × (Nat → Int64) × (Int32) × (Nat → Int32)) (ls : Array Slot) (H : Heap) (locs : List Loc) => match q with | (m_t, m_a, m_o, m_se, m_lh, m_br, m_we, m_me, m_ce, m_wy, m_ho, m_ov, m_pt, m_as, m_sk, m_ln, m_f) => lv_has ls 12 [(6, .int m_t), (7, .int m_a), (10, .int m_o), (9, .int z36), (8, .int k_g), (0, .ref a_o), (1, .int p_b), (2, .int p_c), (3, .int p_h), (4, .int p_t)] ∧ va_P G.1 vwCl [(a_o, (oc11 a_h a_im a_ke a_k a_wa a_th a_ha a_wk a_r a_x e_tl e_fd e_fpl a_wd e_wn a_rf e_lr)), (a_k, (oc5 a_h a_j a_pt m_ln m_se m_lh m_br m_we m_me m_ce m_wy m_ho m_ov)), (a_h, (oc1 e_wa e_le e_st e_fo e_lc a_l a_g a_b a_s a_p a_w e_gb a_bb)), (a_b, (oc6 5 24 a_bn e_b)), (a_bn, (arI G 120 f_b)), (a_p, (oc6 8 5 a_pn e_p)), (a_pn, (arI G 40 f_p)), (a_bb, (arJ G 24 f_bb)), (a_j, (oc2 a_as a_sk)), (a_as, (arI G 8 m_as)), (a_sk, (arJ G 50 m_sk)), (a_l, (arW G 6 f_l)), (a_pt, (arI G 200 m_pt)), (a_wk, (oc9 a_h a_k a_go a_mt)), (a_go, (arJ G 24 z23)), (a_mt, (arI G 1536 z24)), (a_g, (oc6 6 5 a_gn e_g)), (a_gn, (arI G 30 m_f))] H ∧ va_D A [(a_o, (oc11 a_h a_im a_ke a_k a_wa a_th a_ha a_wk a_r a_x e_tl e_fd e_fpl a_wd e_wn a_rf e_lr)), (a_k, (oc5 a_h a_j a_pt m_ln m_se m_lh m_br m_we m_me m_ce m_wy m_ho m_ov)), (a_h, (oc1 e_wa e_le e_st e_fo e_lc a_l a_g a_b a_s a_p a_w e_gb a_bb)), (a_b, (oc6 5 24 a_bn e_b)), (a_bn, (arI G 120 f_b)), (a_p, (oc6 8 5 a_pn e_p)), (a_pn, (arI G 40 f_p)), (a_bb, (arJ G 24 f_bb)), (a_j, (oc2 a_as a_sk)), (a_as, (arI G 8 m_as)), (a_sk, (arJ G 50 m_sk)), (a_l, (arW G 6 f_l)), (a_pt, (arI G 200 m_pt)), (a_wk, (oc9 a_h a_k a_go a_mt)), (a_go, (arJ G 24 z23)), (a_mt, (arI G 1536 z24)), (a_g, (oc6 6 5 a_gn e_g)), (a_gn, (arI G 30 m_f))] ∧ va_S A s.heap H locs ∧ (0 ≤ m_t.toInt ∧ m_t.toInt ≤ 24) ∧ (0 ≤ m_o.toInt ∧ m_o.toInt ≤ 6) ∧ (0 ≤ m_ov.toInt ∧ m_ov.toInt ≤ 1) ∧ (∀ r c : Int, ¬ (r = k_g.toInt ∧ c = 1) → tget m_f e_g.toInt 5 r c = tget k_f e_g.toInt 5 r c) ∧ (gOK m_f e_g.toInt) ∧ (inT e_gb m_f e_g.toInt)) (fun (q : (Int32) × (Int32) × (Int32) × (Int32) × (Int32) × (Int32) × (Int32) × (Int32) × (Int32) × (Int32) × (Int32) × (Int32) × (Nat → Int32) × (Nat → Int32) × (Nat → Int64) × (Int32) × (Nat → Int32)) => match q with | (m_t, m_a, m_o, m_se, m_lh, m_br, m_we, m_me, m_ce, m_wy, m_ho, m_ov, m_pt, m_as, m_sk, m_ln, m_f) => Int.toNat (6 - m_o.toInt)) (k_t, k_a, 0, k_se, k_lh, k_br, k_we, k_me, k_ce, k_wy, k_ho, k_ov, k_pt, k_as, k_sk, k_ln, k_f) ⟨lv_sub hl [2, 3, 0, 1, 4, 5, 6, 7, 8, 9] rfl, hP, hD, hS, i_27, ⟨by decide, by decide⟩, i_29, fun _ _ _ => rfl, i_31, i_32⟩ ?_
              rintro ⟨m_t, m_a, m_o, m_se, m_lh, m_br, m_we, m_me, m_ce, m_wy, m_ho, m_ov, m_pt, m_as, m_sk, m_ln, m_f⟩ ls H locs ⟨hl, hP, hD, hS, (i_39 : 0 ≤ m_t.toInt ∧ m_t.toInt ≤ 24), (i_40 : 0 ≤ m_o.toInt ∧ m_o.toInt ≤ 6), (i_41 : 0 ≤ m_ov.toInt ∧ m_ov.toInt ≤ 1), (i_42 : ∀ r c : Int, ¬ (r = k_g.toInt ∧ c = 1) → tget m_f e_g.toInt 5 r c = tget k_f e_g.toInt 5 r c), (i_43 : gOK m_f e_g.toInt), (i_44 : inT e_gb m_f e_g.toInt)⟩ ih_91_45
              replace hl : lv_has ls 12 [(6, .int m_t), (7, .int m_a), (10, .int m_o), (9, .int z36), (8, .int k_g), (0, .ref a_o), (1, .int p_b), (2, .int p_c), (3, .int p_h), (4, .int p_t)] := hl
              refine g5_rs [(a_o, (oc11 a_h a_im a_ke a_k a_wa a_th a_ha a_wk a_r a_x e_tl e_fd e_fpl a_wd e_wn a_rf e_lr)), (a_k, (oc5 a_h a_j a_pt m_ln m_se m_lh m_br m_we m_me m_ce m_wy m_ho m_ov)), (a_h, (oc1 e_wa e_le e_st e_fo e_lc a_l a_g a_b a_s a_p a_w e_gb a_bb)), (a_b, (oc6 5 24 a_bn e_b)), (a_bn, (arI G 120 f_b)), (a_p, (oc6 8 5 a_pn e_p)), (a_pn, (arI G 40 f_p)), (a_bb, (arJ G 24 f_bb)), (a_j, (oc2 a_as a_sk)), (a_as, (arI G 8 m_as)), (a_sk, (arJ G 50 m_sk)), (a_l, (arW G 6 f_l)), (a_pt, (arI G 200 m_pt)), (a_wk, (oc9 a_h a_k a_go a_mt)), (a_go, (arJ G 24 z23)), (a_mt, (arI G 1536 z24)), (a_g, (oc6 6 5 a_gn e_g)), (a_gn, (arI G 30 m_f))] hP hD ?_
              clear hP hD
              intro hP hD
              refine lv_iload hx hb dX11_sooner_91 (lv_at hl 2 rfl) ?_
              refine lv_bipush (v := 6) hx hb dX11_sooner_93 (by decide +kernel) ?_
              refine lv_icmp_ge (tgt := 181) hx hb dX11_sooner_95 (by decide +kernel) (fun c_46 => ?_) (fun c_46 => ?_)
              ·
                have i_46 : m_o.toInt ≥ 6 := g5_ge (a := m_o.toInt) (b := 6) rfl (by decide +kernel) c_46
                refine lv_aload_n hx hb dX11_sooner_181 rfl (lv_at hl 5 rfl) ?_
                refine va_get (D := G.1) (ci := 11) (v := .ref a_h) (C := RX11) (T := TX11) (N := 17) hx hb hts inG_X11 hown hK hP 0 rfl rfl 0 (by decide +kernel) (hts _ fl_X11_12) (fun _ h9 => h9) rfl dX11_sooner_182 ?_
                refine va_get (D := G.1) (ci := 1) (v := .ref a_g) (C := RX1) (T := TX1) (N := 13) hx hb hts inG_X1 hown hK hP 2 rfl rfl 6 (by decide +kernel) (hts _ fl_X11_136) (fun _ h9 => h9) rfl dX11_sooner_185 ?_
                refine lv_iload hx hb dX11_sooner_188 (lv_at hl 4 rfl) ?_
                refine W.eq (g2 := F0 m 190 ls [.int k_g, .ref a_g]) rfl ?_
                refine lv_iconst (v := 1) hx hb dX11_sooner_190 (by decide +kernel) ?_
                refine lv_iload hx hb dX11_sooner_191 (lv_at hl 3 rfl) ?_
                obtain ⟨hPc, hDc, hFc⟩ := g5_sub3 (wc := [(a_g, (oc6 6 5 a_gn e_g)), (a_gn, (arI G 30 m_f))]) hP hD hS hA [16, 17] (by decide +kernel) rfl
                refine va_callv (va_runV (As := [.int k_g, .int 1, .int z36]) (rest := []) ⟨hx, hb, hml, hown, hts⟩ (t_set_G l G a_g a_gn H.size e_g k_g 1 z36 m_f h_e_g) (cwV 3 hts gV_X11_149 rfl rfl rfl hv_X6_set ⟨Nat.le_of_ble_eq_true rfl, Nat.le_of_ble_eq_true rfl⟩) (g5_preV hPc hK hDc hN hT hS hFc (ci := 6) (q0 := 0) rfl rfl) rfl rfl hl.1 rfl (lv_room (Nat.le_of_ble_eq_true rfl)) dX11_sooner_193 ⟨Nat.le_of_ble_eq_true rfl, Nat.le_of_ble_eq_true rfl⟩) hS (fun q _ h => hFc q h) hFc (fun u t H locs ht hvm hw hB hz1 hk1 hS => ?_)
                obtain ⟨hP1, hD1⟩ := hB
                have hP1 := g5_ht ht hP1
                obtain ⟨z48, (i_47 : z48 = tset m_f e_g.toInt 5 k_g.toInt (1 : Int32).toInt z36), rfl⟩ := hw
                have hJ9 := va_join (wr := [(a_o, (oc11 a_h a_im a_ke a_k a_wa a_th a_ha a_wk a_r a_x e_tl e_fd e_fpl a_wd e_wn a_rf e_lr)), (a_k, (oc5 a_h a_j a_pt m_ln m_se m_lh m_br m_we m_me m_ce m_wy m_ho m_ov)), (a_h, (oc1 e_wa e_le e_st e_fo e_lc a_l a_g a_b a_s a_p a_w e_gb a_bb)), (a_b, (oc6 5 24 a_bn e_b)), (a_bn, (arI G 120 f_b)), (a_p, (oc6 8 5 a_pn e_p)), (a_pn, (arI G 40 f_p)), (a_bb, (arJ G 24 f_bb)), (a_j, (oc2 a_as a_sk)), (a_as, (arI G 8 m_as)), (a_sk, (arJ G 50 m_sk)), (a_l, (arW G 6 f_l)), (a_pt, (arI G 200 m_pt)), (a_wk, (oc9 a_h a_k a_go a_mt)), (a_go, (arJ G 24 z23)), (a_mt, (arI G 1536 z24))]) hP hD [16, 17] [0, 1, 2, 3, 4, 5, 6, 7, 8, 9, 10, 11, 12, 13, 14, 15] rfl rfl (by decide +kernel) (by decide +kernel) hk1 hFc hP1 hD1
                clear hP hD hPc hDc hFc ht hvm hz1 hk1 hP1 hD1
                obtain ⟨hP, hD⟩ := hJ9
                refine g5_rs [(a_o, (oc11 a_h a_im a_ke a_k a_wa a_th a_ha a_wk a_r a_x e_tl e_fd e_fpl a_wd e_wn a_rf e_lr)), (a_k, (oc5 a_h a_j a_pt m_ln m_se m_lh m_br m_we m_me m_ce m_wy m_ho m_ov)), (a_h, (oc1 e_wa e_le e_st e_fo e_lc a_l a_g a_b a_s a_p a_w e_gb a_bb)), (a_b, (oc6 5 24 a_bn e_b)), (a_bn, (arI G 120 f_b)), (a_p, (oc6 8 5 a_pn e_p)), (a_pn, (arI G 40 f_p)), (a_bb, (arJ G 24 f_bb)), (a_j, (oc2 a_as a_sk)), (a_as, (arI G 8 m_as)), (a_sk, (arJ G 50 m_sk)), (a_l, (arW G 6 f_l)), (a_pt, (arI G 200 m_pt)), (a_wk, (oc9 a_h a_k a_go a_mt)), (a_go, (arJ G 24 z23)), (a_mt, (arI G 1536 z24)), (a_g, (oc6 6 5 a_gn e_g)), (a_gn, (arI G 30 z48))] hP hD ?_
                clear hP hD
                intro hP hD
                have hgk_49 : gOK z48 e_g.toInt := by rw [i_47]; exact g_turn i_43 (by omega) (Or.inl ⟨by decide, by omega, by omega⟩)
                have hgi_49 : inT e_gb z48 e_g.toInt := by rw [i_47]; exact g_inTturn i_44 (by omega) ⟨by decide, by decide⟩
                refine lv_iinc (v := (k_g + 1)) (lv' := [(8, .int (k_g + 1)), (6, .int m_t), (7, .int m_a), (10, .int m_o), (9, .int z36), (0, .ref a_o), (1, .int p_b), (2, .int p_c), (3, .int p_h), (4, .int p_t)]) hx hb dX11_sooner_196 hl (k := 4) rfl rfl (by decide +kernel) rfl ?_
                clear hl
                intro ls hl
                have t_50 : (k_g + 1).toInt = k_g.toInt + 1 := g5_iadd (a := k_g.toInt) (b := 1) rfl (by decide +kernel) (by omega) (by omega)
                refine lv_goto (tgt := 58) hx hb dX11_sooner_199 (by decide +kernel) ?_
                exact ih_58_33 (m_t, m_a, (k_g + 1), m_se, m_lh, m_br, m_we, m_me, m_ce, m_wy, m_ho, m_ov, m_pt, m_as, m_sk, m_ln, z48) ls H locs (show Int.toNat (6 - (k_g + 1).toInt) < Int.toNat (6 - k_g.toInt) from g_up (show k_g.toInt < (k_g + 1).toInt by omega) (show k_g.toInt < 6 by omega)) ⟨lv_sub hl [1, 2, 0, 5, 6, 7, 8, 9] rfl, hP.sub [0, 1, 2, 16, 17, 3, 4, 5, 6, 7, 8, 9, 10, 11, 12, 13, 14, 15] rfl, hD.sub [0, 1, 2, 16, 17, 3, 4, 5, 6, 7, 8, 9, 10, 11, 12, 13, 14, 15] (by decide +kernel) rfl, hS, i_39, ⟨by omega, by omega⟩, i_41, fun r c => by rw [i_47, so_out ⟨by omega, by omega⟩ i_42 i_35 r c]; exact i_30 r c, hgk_49, hgi_49⟩
              ·
                have i_46 : m_o.toInt < 6 := g5_geN (a := m_o.toInt) (b := 6) rfl (by decide +kernel) c_46
                refine lv_aload_n hx hb dX11_sooner_98 rfl (lv_at hl 5 rfl) ?_
                refine va_get (D := G.1) (ci := 11) (v := .ref a_h) (C := RX11) (T := TX11) (N := 17) hx hb hts inG_X11 hown hK hP 0 rfl rfl 0 (by decide +kernel) (hts _ fl_X11_12) (fun _ h9 => h9) rfl dX11_sooner_99 ?_
                refine va_get (D := G.1) (ci := 1) (v := .ref a_g) (C := RX1) (T := TX1) (N := 13) hx hb hts inG_X1 hown hK hP 2 rfl rfl 6 (by decide +kernel) (hts _ fl_X11_136) (fun _ h9 => h9) rfl dX11_sooner_102 ?_
                refine lv_iload hx hb dX11_sooner_105 (lv_at hl 4 rfl) ?_
                refine W.eq (g2 := F0 m 107 ls [.int k_g, .ref a_g]) rfl ?_
                refine lv_iconst (v := 1) hx hb dX11_sooner_107 (by decide +kernel) ?_
                refine lv_iload hx hb dX11_sooner_108 (lv_at hl 2 rfl) ?_
                obtain ⟨hPc, hDc, hFc⟩ := g5_sub3 (wc := [(a_g, (oc6 6 5 a_gn e_g)), (a_gn, (arI G 30 m_f))]) hP hD hS hA [16, 17] (by decide +kernel) rfl
                refine va_callv (va_runV (As := [.int k_g, .int 1, .int m_o]) (rest := []) ⟨hx, hb, hml, hown, hts⟩ (t_set_G l G a_g a_gn H.size e_g k_g 1 m_o m_f h_e_g) (cwV 3 hts gV_X11_149 rfl rfl rfl hv_X6_set ⟨Nat.le_of_ble_eq_true rfl, Nat.le_of_ble_eq_true rfl⟩) (g5_preV hPc hK hDc hN hT hS hFc (ci := 6) (q0 := 0) rfl rfl) rfl rfl hl.1 rfl (lv_room (Nat.le_of_ble_eq_true rfl)) dX11_sooner_110 ⟨Nat.le_of_ble_eq_true rfl, Nat.le_of_ble_eq_true rfl⟩) hS (fun q _ h => hFc q h) hFc (fun u t H locs ht hvm hw hB hz1 hk1 hS => ?_)
                obtain ⟨hP1, hD1⟩ := hB
                have hP1 := g5_ht ht hP1
                obtain ⟨z52, (i_51 : z52 = tset m_f e_g.toInt 5 k_g.toInt (1 : Int32).toInt m_o), rfl⟩ := hw
                have hJ9 := va_join (wr := [(a_o, (oc11 a_h a_im a_ke a_k a_wa a_th a_ha a_wk a_r a_x e_tl e_fd e_fpl a_wd e_wn a_rf e_lr)), (a_k, (oc5 a_h a_j a_pt m_ln m_se m_lh m_br m_we m_me m_ce m_wy m_ho m_ov)), (a_h, (oc1 e_wa e_le e_st e_fo e_lc a_l a_g a_b a_s a_p a_w e_gb a_bb)), (a_b, (oc6 5 24 a_bn e_b)), (a_bn, (arI G 120 f_b)), (a_p, (oc6 8 5 a_pn e_p)), (a_pn, (arI G 40 f_p)), (a_bb, (arJ G 24 f_bb)), (a_j, (oc2 a_as a_sk)), (a_as, (arI G 8 m_as)), (a_sk, (arJ G 50 m_sk)), (a_l, (arW G 6 f_l)), (a_pt, (arI G 200 m_pt)), (a_wk, (oc9 a_h a_k a_go a_mt)), (a_go, (arJ G 24 z23)), (a_mt, (arI G 1536 z24))]) hP hD [16, 17] [0, 1, 2, 3, 4, 5, 6, 7, 8, 9, 10, 11, 12, 13, 14, 15] rfl rfl (by decide +kernel) (by decide +kernel) hk1 hFc hP1 hD1
                clear hP hD hPc hDc hFc ht hvm hz1 hk1 hP1 hD1
                obtain ⟨hP, hD⟩ := hJ9
                refine g5_rs [(a_o, (oc11 a_h a_im a_ke a_k a_wa a_th a_ha a_wk a_r a_x e_tl e_fd e_fpl a_wd e_wn a_rf e_lr)), (a_k, (oc5 a_h a_j a_pt m_ln m_se m_lh m_br m_we m_me m_ce m_wy m_ho m_ov)), (a_h, (oc1 e_wa e_le e_st e_fo e_lc a_l a_g a_b a_s a_p a_w e_gb a_bb)), (a_b, (oc6 5 24 a_bn e_b)), (a_bn, (arI G 120 f_b)), (a_p, (oc6 8 5 a_pn e_p)), (a_pn, (arI G 40 f_p)), (a_bb, (arJ G 24 f_bb)), (a_j, (oc2 a_as a_sk)), (a_as, (arI G 8 m_as)), (a_sk, (arJ G 50 m_sk)), (a_l, (arW G 6 f_l)), (a_pt, (arI G 200 m_pt)), (a_wk, (oc9 a_h a_k a_go a_mt)), (a_go, (arJ G 24 z23)), (a_mt, (arI G 1536 z24)), (a_g, (oc6 6 5 a_gn e_g)), (a_gn, (arI G 30 z52))] hP hD ?_
                clear hP hD
                intro hP hD
                have hgk_53 : gOK z52 e_g.toInt := by rw [i_51]; exact g_turn i_43 (by omega) (Or.inl ⟨by decide, by omega, by omega⟩)
                have hgi_53 : inT e_gb z52 e_g.toInt := by rw [i_51]; exact g_inTturn i_44 (by omega) ⟨by decide, by decide⟩
                refine lv_iload hx hb dX11_sooner_113 (lv_at hl 2 rfl) ?_
                refine lv_iload hx hb dX11_sooner_115 (lv_at hl 3 rfl) ?_
                refine W.eq (g2 := F0 m 117 ls [.int z36, .int m_o]) rfl ?_
                refine lv_icmp_ne (tgt := 124) hx hb dX11_sooner_117 (by decide +kernel) (fun c_54 => ?_) (fun c_54 => ?_)
                ·
                  have n_54 : gNe (m_o.toInt) (z36.toInt) := g5_ne (a := m_o.toInt) (b := z36.toInt) rfl rfl c_54
                  refine lv_aload_n hx hb dX11_sooner_124 rfl (lv_at hl 5 rfl) ?_
                  refine va_get (D := G.1) (ci := 11) (v := .ref a_wk) (C := RX11) (T := TX11) (N := 17) hx hb hts inG_X11 hown hK hP 0 rfl rfl 7 (by decide +kernel) (hts _ fl_X11_59) (fun _ h9 => h9) rfl dX11_sooner_125 ?_
                  refine lv_iload hx hb dX11_sooner_128 (lv_at hl 4 rfl) ?_
                  refine lv_iload_n hx hb dX11_sooner_130 rfl (lv_at hl 6 rfl) ?_
                  refine W.eq (g2 := F0 m 131 ls [.int p_b, .int k_g, .ref a_wk]) rfl ?_
                  refine lv_iload_n hx hb dX11_sooner_131 rfl (lv_at hl 7 rfl) ?_
                  refine lv_iload_n hx hb dX11_sooner_132 rfl (lv_at hl 8 rfl) ?_
                  refine lv_iload hx hb dX11_sooner_133 (lv_at hl 0 rfl) ?_
                  obtain ⟨hPc, hDc, hFc⟩ := g5_sub3 (wc := [(a_k, (oc5 a_h a_j a_pt m_ln m_se m_lh m_br m_we m_me m_ce m_wy m_ho m_ov)), (a_h, (oc1 e_wa e_le e_st e_fo e_lc a_l a_g a_b a_s a_p a_w e_gb a_bb)), (a_g, (oc6 6 5 a_gn e_g)), (a_gn, (arI G 30 z52)), (a_b, (oc6 5 24 a_bn e_b)), (a_bn, (arI G 120 f_b)), (a_p, (oc6 8 5 a_pn e_p)), (a_pn, (arI G 40 f_p)), (a_bb, (arJ G 24 f_bb)), (a_j, (oc2 a_as a_sk)), (a_as, (arI G 8 m_as)), (a_sk, (arJ G 50 m_sk)), (a_l, (arW G 6 f_l)), (a_pt, (arI G 200 m_pt)), (a_wk, (oc9 a_h a_k a_go a_mt)), (a_go, (arJ G 24 z23)), (a_mt, (arI G 1536 z24))]) hP hD hS hA [1, 2, 16, 17, 3, 4, 5, 6, 7, 8, 9, 10, 11, 12, 13, 14, 15] (by decide +kernel) rfl
                  refine va_calli (va_runV (As := [.int k_g, .int p_b, .int p_c, .int p_h, .int m_t]) (rest := []) ⟨hx, hb, hml, hown, hts⟩ (a_byN l G a_k a_h a_g a_gn a_b a_bn a_p a_pn a_bb a_j a_as a_sk a_l a_pt a_wk a_go a_mt a_s a_w H.size e_le e_st e_fo e_lc e_g e_b e_p m_ln m_se m_lh m_br m_we m_me m_ce m_wy m_ho m_ov k_g p_b p_c p_h m_t e_wa e_gb z52 f_b f_p f_bb m_as m_sk f_l m_pt z23 z24 h_e_g h_e_b h_e_p i_41 i_1 i_2 i_39 (hgk_53) (e_pk) (hgi_53) (e_f)) (cwV 5 hts gV_X11_336 rfl rfl rfl hv_X9_sightBy ⟨Nat.le_of_ble_eq_true rfl, Nat.le_of_ble_eq_true rfl⟩) (g5_preV hPc hK hDc hN hT hS hFc (ci := 9) (q0 := 14) rfl rfl) rfl rfl hl.1 rfl (lv_room (Nat.le_of_ble_eq_true rfl)) dX11_sooner_135 ⟨Nat.le_of_ble_eq_true rfl, Nat.le_of_ble_eq_true rfl⟩) hS (fun q _ h => hFc q h) hFc (fun r u t H locs ht hvm hw hB hz1 hk1 hS => ?_)
                  obtain ⟨hP1, hD1⟩ := hB
                  have hP1 := g5_ht ht hP1
                  obtain ⟨z58, z59, z60, z61, z62, z63, z64, z65, z66, z67, z68, z69, z70, z71, (i_55 : 0 ≤ z68.toInt ∧ z68.toInt ≤ 1), (i_56 : -1 ≤ z58.toInt ∧ z58.toInt ≤ 23), (i_57 : z58.toInt = -1 ∨ (p_h.toInt ≤ z58.toInt ∧ z58.toInt < m_t.toInt)), y72, rfl⟩ := hw
                  have hJ9 := va_join (wr := [(a_o, (oc11 a_h a_im a_ke a_k a_wa a_th a_ha a_wk a_r a_x e_tl e_fd e_fpl a_wd e_wn a_rf e_lr))]) hP hD [1, 2, 16, 17, 3, 4, 5, 6, 7, 8, 9, 10, 11, 12, 13, 14, 15] [0] rfl rfl (by decide +kernel) (by decide +kernel) hk1 hFc hP1 hD1
                  clear hP hD hPc hDc hFc ht hvm hz1 hk1 hP1 hD1
                  obtain ⟨hP, hD⟩ := hJ9
                  refine g5_rs [(a_o, (oc11 a_h a_im a_ke a_k a_wa a_th a_ha a_wk a_r a_x e_tl e_fd e_fpl a_wd e_wn a_rf e_lr)), (a_k, (oc5 a_h a_j a_pt z59 z60 z61 z62 z63 z64 z65 z66 z67 z68)), (a_h, (oc1 e_wa e_le e_st e_fo e_lc a_l a_g a_b a_s a_p a_w e_gb a_bb)), (a_g, (oc6 6 5 a_gn e_g)), (a_gn, (arI G 30 z52)), (a_b, (oc6 5 24 a_bn e_b)), (a_bn, (arI G 120 f_b)), (a_p, (oc6 8 5 a_pn e_p)), (a_pn, (arI G 40 f_p)), (a_bb, (arJ G 24 f_bb)), (a_j, (oc2 a_as a_sk)), (a_as, (arI G 8 z70)), (a_sk, (arJ G 50 z71)), (a_l, (arW G 6 f_l)), (a_pt, (arI G 200 z69)), (a_wk, (oc9 a_h a_k a_go a_mt)), (a_go, (arJ G 24 z23)), (a_mt, (arI G 1536 z24))] hP hD ?_
                  clear hP hD
                  intro hP hD
                  refine g5_ti (v := z58) y72 ?_
                  refine lv_istore (lv' := [(11, .int z58), (6, .int m_t), (7, .int m_a), (10, .int m_o), (9, .int z36), (8, .int k_g), (0, .ref a_o), (1, .int p_b), (2, .int p_c), (3, .int p_h), (4, .int p_t)]) hx hb dX11_sooner_138 hl (by decide +kernel) rfl ?_
                  clear hl
                  intro ls hl
                  refine W.eq (g2 := F0 m 140 ls []) rfl ?_
                  refine lv_iload hx hb dX11_sooner_140 (lv_at hl 0 rfl) ?_
                  refine lv_iconst (v := (-1)) hx hb dX11_sooner_142 (by decide +kernel) ?_
                  refine lv_icmp_eq (tgt := 175) hx hb dX11_sooner_143 (by decide +kernel) (fun c_73 => ?_) (fun c_73 => ?_)
                  ·
                    have i_73 : z58.toInt = (-1) := g5_eq (a := z58.toInt) (b := (-1)) rfl (by decide +kernel) c_73
                    refine lv_iinc (v := (m_o + 1)) (lv' := [(10, .int (m_o + 1)), (11, .int z58), (6, .int m_t), (7, .int m_a), (9, .int z36), (8, .int k_g), (0, .ref a_o), (1, .int p_b), (2, .int p_c), (3, .int p_h), (4, .int p_t)]) hx hb dX11_sooner_175 hl (k := 3) rfl rfl (by decide +kernel) rfl ?_
                    clear hl
                    intro ls hl
                    have t_74 : (m_o + 1).toInt = m_o.toInt + 1 := g5_iadd (a := m_o.toInt) (b := 1) rfl (by decide +kernel) (by omega) (by omega)
                    refine lv_goto (tgt := 91) hx hb dX11_sooner_178 (by decide +kernel) ?_
                    exact ih_91_45 (m_t, m_a, (m_o + 1), z60, z61, z62, z63, z64, z65, z66, z67, z68, z69, z70, z71, z59, z52) ls H locs (show Int.toNat (6 - (m_o + 1).toInt) < Int.toNat (6 - m_o.toInt) from g_up (show m_o.toInt < (m_o + 1).toInt by omega) (show m_o.toInt < 6 by omega)) ⟨lv_sub hl [2, 3, 0, 4, 5, 6, 7, 8, 9, 10] rfl, hP.sub [0, 1, 2, 5, 6, 7, 8, 9, 10, 11, 12, 13, 14, 15, 16, 17, 3, 4] rfl, hD.sub [0, 1, 2, 5, 6, 7, 8, 9, 10, 11, 12, 13, 14, 15, 16, 17, 3, 4] (by decide +kernel) rfl, hS, i_39, ⟨by omega, by omega⟩, i_55, fun r c h9 => by rw [i_51, so_in ⟨by omega, by omega⟩ h9]; exact i_42 r c h9, hgk_53, hgi_53⟩
                  ·
                    have n_73 : gNe (z58.toInt) ((-1)) := g5_eqN (a := z58.toInt) (b := (-1)) rfl (by decide +kernel) c_73
                    have i_73 : z58.toInt ≥ 0 := by have z := g5_eqN (a := z58.toInt) (b := (-1)) (by rfl) (by decide +kernel) c_73; omega
                    refine lv_iload hx hb dX11_sooner_146 (lv_at hl 0 rfl) ?_
                    refine lv_istore (lv' := [(6, .int z58), (11, .int z58), (7, .int m_a), (10, .int m_o), (9, .int z36), (8, .int k_g), (0, .ref a_o), (1, .int p_b), (2, .int p_c), (3, .int p_h), (4, .int p_t)]) hx hb dX11_sooner_148 hl (by decide +kernel) rfl ?_
                    clear hl
                    intro ls hl
                    refine lv_iload hx hb dX11_sooner_150 (lv_at hl 10 rfl) ?_
                    refine lv_if_ne (tgt := 160) hx hb dX11_sooner_152 (by decide +kernel) (fun c_75 => ?_) (fun c_75 => ?_)
                    ·
                      have n_75 : gNe (p_t.toInt) (0) := g5_ne (a := p_t.toInt) (b := 0) rfl (by decide +kernel) c_75
                      have i_75 : p_t.toInt ≥ 1 := by have z := g5_ne (a := p_t.toInt) (b := 0) (by rfl) (by decide +kernel) c_75; omega
                      refine lv_iload hx hb dX11_sooner_160 (lv_at hl 10 rfl) ?_
                      refine lv_iconst (v := 1) hx hb dX11_sooner_162 (by decide +kernel) ?_
                      refine lv_icmp_ne (tgt := 171) hx hb dX11_sooner_163 (by decide +kernel) (fun c_76 => ?_) (fun c_76 => ?_)
                      ·
                        have n_76 : gNe (p_t.toInt) (1) := g5_ne (a := p_t.toInt) (b := 1) rfl (by decide +kernel) c_76
                        have i_76 : p_t.toInt ≥ 2 := by have z := g5_ne (a := p_t.toInt) (b := 1) (by rfl) (by decide +kernel) c_76; omega
                        refine lv_iload hx hb dX11_sooner_171 (lv_at hl 3 rfl) ?_
                        refine lv_istore (lv' := [(7, .int m_o), (6, .int z58), (11, .int z58), (10, .int m_o), (9, .int z36), (8, .int k_g), (0, .ref a_o), (1, .int p_b), (2, .int p_c), (3, .int p_h), (4, .int p_t)]) hx hb dX11_sooner_173 hl (by decide +kernel) rfl ?_
                        clear hl
                        intro ls hl
                        refine lv_iinc (v := (m_o + 1)) (lv' := [(10, .int (m_o + 1)), (7, .int m_o), (6, .int z58), (11, .int z58), (9, .int z36), (8, .int k_g), (0, .ref a_o), (1, .int p_b), (2, .int p_c), (3, .int p_h), (4, .int p_t)]) hx hb dX11_sooner_175 hl (k := 3) rfl rfl (by decide +kernel) rfl ?_
                        clear hl
                        intro ls hl
                        have t_77 : (m_o + 1).toInt = m_o.toInt + 1 := g5_iadd (a := m_o.toInt) (b := 1) rfl (by decide +kernel) (by omega) (by omega)
                        refine lv_goto (tgt := 91) hx hb dX11_sooner_178 (by decide +kernel) ?_
                        exact ih_91_45 (z58, m_o, (m_o + 1), z60, z61, z62, z63, z64, z65, z66, z67, z68, z69, z70, z71, z59, z52) ls H locs (show Int.toNat (6 - (m_o + 1).toInt) < Int.toNat (6 - m_o.toInt) from g_up (show m_o.toInt < (m_o + 1).toInt by omega) (show m_o.toInt < 6 by omega)) ⟨lv_sub hl [2, 1, 0, 4, 5, 6, 7, 8, 9, 10] rfl, hP.sub [0, 1, 2, 5, 6, 7, 8, 9, 10, 11, 12, 13, 14, 15, 16, 17, 3, 4] rfl, hD.sub [0, 1, 2, 5, 6, 7, 8, 9, 10, 11, 12, 13, 14, 15, 16, 17, 3, 4] (by decide +kernel) rfl, hS, ⟨by omega, by omega⟩, ⟨by omega, by omega⟩, i_55, fun r c h9 => by rw [i_51, so_in ⟨by omega, by omega⟩ h9]; exact i_42 r c h9, hgk_53, hgi_53⟩
                      ·
                        have i_76 : p_t.toInt = 1 := g5_neN (a := p_t.toInt) (b := 1) rfl (by decide +kernel) c_76
                        refine lv_iload hx hb dX11_sooner_166 (lv_at hl 5 rfl) ?_
                        refine lv_goto (tgt := 173) hx hb dX11_sooner_168 (by decide +kernel) ?_
                        refine lv_istore (lv' := [(7, .int k_g), (6, .int z58), (11, .int z58), (10, .int m_o), (9, .int z36), (8, .int k_g), (0, .ref a_o), (1, .int p_b), (2, .int p_c), (3, .int p_h), (4, .int p_t)]) hx hb dX11_sooner_173 hl (by decide +kernel) rfl ?_
                        clear hl
                        intro ls hl
                        refine lv_iinc (v := (m_o + 1)) (lv' := [(10, .int (m_o + 1)), (7, .int k_g), (6, .int z58), (11, .int z58), (9, .int z36), (8, .int k_g), (0, .ref a_o), (1, .int p_b), (2, .int p_c), (3, .int p_h), (4, .int p_t)]) hx hb dX11_sooner_175 hl (k := 3) rfl rfl (by decide +kernel) rfl ?_
                        clear hl
                        intro ls hl
                        have t_78 : (m_o + 1).toInt = m_o.toInt + 1 := g5_iadd (a := m_o.toInt) (b := 1) rfl (by decide +kernel) (by omega) (by omega)
                        refine W.eq (g2 := F0 m 178 ls []) rfl ?_
                        refine lv_goto (tgt := 91) hx hb dX11_sooner_178 (by decide +kernel) ?_
                        exact ih_91_45 (z58, k_g, (m_o + 1), z60, z61, z62, z63, z64, z65, z66, z67, z68, z69, z70, z71, z59, z52) ls H locs (show Int.toNat (6 - (m_o + 1).toInt) < Int.toNat (6 - m_o.toInt) from g_up (show m_o.toInt < (m_o + 1).toInt by omega) (show m_o.toInt < 6 by omega)) ⟨lv_sub hl [2, 1, 0, 4, 5, 6, 7, 8, 9, 10] rfl, hP.sub [0, 1, 2, 5, 6, 7, 8, 9, 10, 11, 12, 13, 14, 15, 16, 17, 3, 4] rfl, hD.sub [0, 1, 2, 5, 6, 7, 8, 9, 10, 11, 12, 13, 14, 15, 16, 17, 3, 4] (by decide +kernel) rfl, hS, ⟨by omega, by omega⟩, ⟨by omega, by omega⟩, i_55, fun r c h9 => by rw [i_51, so_in ⟨by omega, by omega⟩ h9]; exact i_42 r c h9, hgk_53, hgi_53⟩
                    ·
                      have i_75 : p_t.toInt = 0 := g5_neN (a := p_t.toInt) (b := 0) rfl (by decide +kernel) c_75
                      refine lv_iload hx hb dX11_sooner_155 (lv_at hl 1 rfl) ?_
                      refine lv_goto (tgt := 173) hx hb dX11_sooner_157 (by decide +kernel) ?_
                      refine lv_istore (lv' := [(7, .int z58), (6, .int z58), (11, .int z58), (10, .int m_o), (9, .int z36), (8, .int k_g), (0, .ref a_o), (1, .int p_b), (2, .int p_c), (3, .int p_h), (4, .int p_t)]) hx hb dX11_sooner_173 hl (by decide +kernel) rfl ?_
                      clear hl
                      intro ls hl
                      refine lv_iinc (v := (m_o + 1)) (lv' := [(10, .int (m_o + 1)), (7, .int z58), (6, .int z58), (11, .int z58), (9, .int z36), (8, .int k_g), (0, .ref a_o), (1, .int p_b), (2, .int p_c), (3, .int p_h), (4, .int p_t)]) hx hb dX11_sooner_175 hl (k := 3) rfl rfl (by decide +kernel) rfl ?_
                      clear hl
                      intro ls hl
                      have t_79 : (m_o + 1).toInt = m_o.toInt + 1 := g5_iadd (a := m_o.toInt) (b := 1) rfl (by decide +kernel) (by omega) (by omega)
                      refine W.eq (g2 := F0 m 178 ls []) rfl ?_
                      refine lv_goto (tgt := 91) hx hb dX11_sooner_178 (by decide +kernel) ?_
                      exact ih_91_45 (z58, z58, (m_o + 1), z60, z61, z62, z63, z64, z65, z66, z67, z68, z69, z70, z71, z59, z52) ls H locs (show Int.toNat (6 - (m_o + 1).toInt) < Int.toNat (6 - m_o.toInt) from g_up (show m_o.toInt < (m_o + 1).toInt by omega) (show m_o.toInt < 6 by omega)) ⟨lv_sub hl [2, 1, 0, 4, 5, 6, 7, 8, 9, 10] rfl, hP.sub [0, 1, 2, 5, 6, 7, 8, 9, 10, 11, 12, 13, 14, 15, 16, 17, 3, 4] rfl, hD.sub [0, 1, 2, 5, 6, 7, 8, 9, 10, 11, 12, 13, 14, 15, 16, 17, 3, 4] (by decide +kernel) rfl, hS, ⟨by omega, by omega⟩, ⟨by omega, by omega⟩, i_55, fun r c h9 => by rw [i_51, so_in ⟨by omega, by omega⟩ h9]; exact i_42 r c h9, hgk_53, hgi_53⟩
                ·
                  have i_54 : m_o.toInt = z36.toInt := g5_neN (a := m_o.toInt) (b := z36.toInt) rfl rfl c_54
                  refine lv_iconst (v := (-1)) hx hb dX11_sooner_120 (by decide +kernel) ?_
                  refine lv_goto (tgt := 138) hx hb dX11_sooner_121 (by decide +kernel) ?_
                  refine lv_istore (lv' := [(11, .int (-1)), (6, .int m_t), (7, .int m_a), (10, .int m_o), (9, .int z36), (8, .int k_g), (0, .ref a_o), (1, .int p_b), (2, .int p_c), (3, .int p_h), (4, .int p_t)]) hx hb dX11_sooner_138 hl (by decide +kernel) rfl ?_
                  clear hl
                  intro ls hl
                  refine lv_iload hx hb dX11_sooner_140 (lv_at hl 0 rfl) ?_
                  refine W.eq (g2 := F0 m 142 ls [.int (-1)]) rfl ?_
                  refine lv_iconst (v := (-1)) hx hb dX11_sooner_142 (by decide +kernel) ?_
                  refine lv_icmp_eq (tgt := 175) hx hb dX11_sooner_143 (by decide +kernel) (fun c_80 => ?_) (fun c_80 => ?_)
                  ·
                    refine lv_iinc (v := (m_o + 1)) (lv' := [(10, .int (m_o + 1)), (11, .int (-1)), (6, .int m_t), (7, .int m_a), (9, .int z36), (8, .int k_g), (0, .ref a_o), (1, .int p_b), (2, .int p_c), (3, .int p_h), (4, .int p_t)]) hx hb dX11_sooner_175 hl (k := 3) rfl rfl (by decide +kernel) rfl ?_
                    clear hl
                    intro ls hl
                    have t_81 : (m_o + 1).toInt = m_o.toInt + 1 := g5_iadd (a := m_o.toInt) (b := 1) rfl (by decide +kernel) (by omega) (by omega)
                    refine lv_goto (tgt := 91) hx hb dX11_sooner_178 (by decide +kernel) ?_
                    exact ih_91_45 (m_t, m_a, (m_o + 1), m_se, m_lh, m_br, m_we, m_me, m_ce, m_wy, m_ho, m_ov, m_pt, m_as, m_sk, m_ln, z52) ls H locs (show Int.toNat (6 - (m_o + 1).toInt) < Int.toNat (6 - m_o.toInt) from g_up (show m_o.toInt < (m_o + 1).toInt by omega) (show m_o.toInt < 6 by omega)) ⟨lv_sub hl [2, 3, 0, 4, 5, 6, 7, 8, 9, 10] rfl, hP, hD, hS, i_39, ⟨by omega, by omega⟩, i_41, fun r c h9 => by rw [i_51, so_in ⟨by omega, by omega⟩ h9]; exact i_42 r c h9, hgk_53, hgi_53⟩
                  ·
                    exact absurd c_80 (by decide +kernel)
          ·
            have i_26 : z9.toInt = (-1) := g5_neN (a := z9.toInt) (b := (-1)) rfl (by decide +kernel) c_26
            refine lv_bipush (v := 24) hx hb dX11_sooner_43 (by decide +kernel) ?_
            refine lv_goto (tgt := 50) hx hb dX11_sooner_45 (by decide +kernel) ?_
            refine lv_istore (lv' := [(6, .int 24), (5, .int z9), (0, .ref a_o), (1, .int p_b), (2, .int p_c), (3, .int p_h), (4, .int p_t)]) hx hb dX11_sooner_50 hl (by decide +kernel) rfl ?_
            clear hl
            intro ls hl
            refine lv_iconst (v := (-1)) hx hb dX11_sooner_52 (by decide +kernel) ?_
            refine W.eq (g2 := F0 m 53 ls [.int (-1)]) rfl ?_
            refine lv_istore (lv' := [(7, .int (-1)), (6, .int 24), (5, .int z9), (0, .ref a_o), (1, .int p_b), (2, .int p_c), (3, .int p_h), (4, .int p_t)]) hx hb dX11_sooner_53 hl (by decide +kernel) rfl ?_
            clear hl
            intro ls hl
            refine lv_iconst (v := 0) hx hb dX11_sooner_55 (by decide +kernel) ?_
            refine lv_istore (lv' := [(8, .int 0), (7, .int (-1)), (6, .int 24), (5, .int z9), (0, .ref a_o), (1, .int p_b), (2, .int p_c), (3, .int p_h), (4, .int p_t)]) hx hb dX11_sooner_56 hl (by decide +kernel) rfl ?_
            clear hl
            intro ls hl
            refine g5_loop (α := (Int32) × (Int32) × (Int32) × (Int32) × (Int32) × (Int32) × (Int32) × (Int32) × (Int32) × (Int32) × (Int32) × (Int32) × (Nat → Int32) × (Nat → Int32) × (Nat → Int64) × (Int32) × (Nat → Int32)) (fun (q : (Int32) × (Int32) × (Int32) × (Int32) × (Int32) × (Int32) × (Int32) × (Int32) × (Int32) × (Int32) × (Int32) × (Int32) × (Nat → Int32) × (Nat → Int32) × (Nat → Int64) × (Int32) × (Nat → Int32)) (ls : Array Slot) (H : Heap) (locs : List Loc) => match q with | (k_t, k_a, k_g, k_se, k_lh, k_br, k_we, k_me, k_ce, k_wy, k_ho, k_ov, k_pt, k_as, k_sk, k_ln, k_f) => lv_has ls 12 [(6, .int k_t), (7, .int k_a), (8, .int k_g), (0, .ref a_o), (1, .int p_b), (2, .int p_c), (3, .int p_h), (4, .int p_t)] ∧ va_P G.1 vwCl [(a_o, (oc11 a_h a_im a_ke a_k a_wa a_th a_ha a_wk a_r a_x e_tl e_fd e_fpl a_wd e_wn a_rf e_lr)), (a_k, (oc5 a_h a_j a_pt k_ln k_se k_lh k_br k_we k_me k_ce k_wy k_ho k_ov)), (a_h, (oc1 e_wa e_le e_st e_fo e_lc a_l a_g a_b a_s a_p a_w e_gb a_bb)), (a_g, (oc6 6 5 a_gn e_g)), (a_gn, (arI G 30 k_f)), (a_b, (oc6 5 24 a_bn e_b)), (a_bn, (arI G 120 f_b)), (a_p, (oc6 8 5 a_pn e_p)), (a_pn, (arI G 40 f_p)), (a_bb, (arJ G 24 f_bb)), (a_j, (oc2 a_as a_sk)), (a_as, (arI G 8 k_as)), (a_sk, (arJ G 50 k_sk)), (a_l, (arW G 6 f_l)), (a_pt, (arI G 200 k_pt)), (a_wk, (oc9 a_h a_k a_go a_mt)), (a_go, (arJ G 24 z23)), (a_mt, (arI G 1536 z24))] H ∧ va_D A [(a_o, (oc11 a_h a_im a_ke a_k a_wa a_th a_ha a_wk a_r a_x e_tl e_fd e_fpl a_wd e_wn a_rf e_lr)), (a_k, (oc5 a_h a_j a_pt k_ln k_se k_lh k_br k_we k_me k_ce k_wy k_ho k_ov)), (a_h, (oc1 e_wa e_le e_st e_fo e_lc a_l a_g a_b a_s a_p a_w e_gb a_bb)), (a_g, (oc6 6 5 a_gn e_g)), (a_gn, (arI G 30 k_f)), (a_b, (oc6 5 24 a_bn e_b)), (a_bn, (arI G 120 f_b)), (a_p, (oc6 8 5 a_pn e_p)), (a_pn, (arI G 40 f_p)), (a_bb, (arJ G 24 f_bb)), (a_j, (oc2 a_as a_sk)), (a_as, (arI G 8 k_as)), (a_sk, (arJ G 50 k_sk)), (a_l, (arW G 6 f_l)), (a_pt, (arI G 200 k_pt)), (a_wk, (oc9 a_h a_k a_go a_mt)), (a_go, (arJ G 24 z23)), (a_mt, (arI G 1536 z24))] ∧ va_S A s.heap H locs ∧ (0 ≤ k_t.toInt ∧ k_t.toInt ≤ 24) ∧ (0 ≤ k_g.toInt ∧ k_g.toInt ≤ 6) ∧ (0 ≤ k_ov.toInt ∧ k_ov.toInt ≤ 1) ∧ (∀ r c : Int, tget k_f e_g.toInt 5 r c = tget f_g e_g.toInt 5 r c) ∧ (gOK k_f e_g.toInt) ∧ (inT e_gb k_f e_g.toInt)) (fun (q : (Int32) × (Int32) × (Int32) × (Int32) × (Int32) × (Int32) × (Int32) × (Int32) × (Int32) × (Int32) × (Int32) × (Int32) × (Nat → Int32) × (Nat → Int32) × (Nat → Int64) × (Int32) × (Nat → Int32)) => match q with | (k_t, k_a, k_g, k_se, k_lh, k_br, k_we, k_me, k_ce, k_wy, k_ho, k_ov, k_pt, k_as, k_sk, k_ln, k_f) => Int.toNat (6 - k_g.toInt)) (24, (-1), 0, z11, z12, z13, z14, z15, z16, z17, z18, z19, z20, z21, z22, z10, f_g) ⟨lv_sub hl [2, 1, 0, 4, 5, 6, 7, 8] rfl, hP, hD, hS, ⟨by decide, by decide⟩, ⟨by decide, by decide⟩, i_6, fun _ _ => rfl, e_gk, e_gi⟩ ?_
            rintro ⟨k_t, k_a, k_g, k_se, k_lh, k_br, k_we, k_me, k_ce, k_wy, k_ho, k_ov, k_pt, k_as, k_sk, k_ln, k_f⟩ ls H locs ⟨hl, hP, hD, hS, (i_82 : 0 ≤ k_t.toInt ∧ k_t.toInt ≤ 24), (i_83 : 0 ≤ k_g.toInt ∧ k_g.toInt ≤ 6), (i_84 : 0 ≤ k_ov.toInt ∧ k_ov.toInt ≤ 1), (i_85 : ∀ r c : Int, tget k_f e_g.toInt 5 r c = tget f_g e_g.toInt 5 r c), (i_86 : gOK k_f e_g.toInt), (i_87 : inT e_gb k_f e_g.toInt)⟩ ih_58_88
            replace hl : lv_has ls 12 [(6, .int k_t), (7, .int k_a), (8, .int k_g), (0, .ref a_o), (1, .int p_b), (2, .int p_c), (3, .int p_h), (4, .int p_t)] := hl
            refine g5_rs [(a_o, (oc11 a_h a_im a_ke a_k a_wa a_th a_ha a_wk a_r a_x e_tl e_fd e_fpl a_wd e_wn a_rf e_lr)), (a_k, (oc5 a_h a_j a_pt k_ln k_se k_lh k_br k_we k_me k_ce k_wy k_ho k_ov)), (a_h, (oc1 e_wa e_le e_st e_fo e_lc a_l a_g a_b a_s a_p a_w e_gb a_bb)), (a_g, (oc6 6 5 a_gn e_g)), (a_gn, (arI G 30 k_f)), (a_b, (oc6 5 24 a_bn e_b)), (a_bn, (arI G 120 f_b)), (a_p, (oc6 8 5 a_pn e_p)), (a_pn, (arI G 40 f_p)), (a_bb, (arJ G 24 f_bb)), (a_j, (oc2 a_as a_sk)), (a_as, (arI G 8 k_as)), (a_sk, (arJ G 50 k_sk)), (a_l, (arW G 6 f_l)), (a_pt, (arI G 200 k_pt)), (a_wk, (oc9 a_h a_k a_go a_mt)), (a_go, (arJ G 24 z23)), (a_mt, (arI G 1536 z24))] hP hD ?_
            clear hP hD
            intro hP hD
            refine lv_iload hx hb dX11_sooner_58 (lv_at hl 2 rfl) ?_
            refine lv_aload_n hx hb dX11_sooner_60 rfl (lv_at hl 3 rfl) ?_
            refine va_get (D := G.1) (ci := 11) (v := .ref a_h) (C := RX11) (T := TX11) (N := 17) hx hb hts inG_X11 hown hK hP 0 rfl rfl 0 (by decide +kernel) (hts _ fl_X11_12) (fun _ h9 => h9) rfl dX11_sooner_61 ?_
            refine va_get (D := G.1) (ci := 1) (v := .ref a_g) (C := RX1) (T := TX1) (N := 13) hx hb hts inG_X1 hown hK hP 2 rfl rfl 6 (by decide +kernel) (hts _ fl_X11_136) (fun _ h9 => h9) rfl dX11_sooner_64 ?_
            refine W.eq (g2 := F0 m 67 ls [.ref a_g, .int k_g]) rfl ?_
            refine va_get (D := G.1) (ci := 6) (v := .int e_g) (C := RX6) (T := TX6) (N := 4) hx hb hts inG_X6 hown hK hP 3 rfl rfl 3 (by decide +kernel) (hts _ fl_X11_238) (fun _ h9 => h9) rfl dX11_sooner_67 ?_
            refine lv_icmp_ge (tgt := 202) hx hb dX11_sooner_70 (by decide +kernel) (fun c_89 => ?_) (fun c_89 => ?_)
            ·
              have i_89 : k_g.toInt ≥ e_g.toInt := g5_ge (a := k_g.toInt) (b := e_g.toInt) rfl rfl c_89
              refine lv_iload hx hb dX11_sooner_202 (lv_at hl 1 rfl) ?_
              exact W.iret (v := k_a) hx hb hr (fun t ht hW => ⟨⟨k_a, [(a_o, (oc11 a_h a_im a_ke a_k a_wa a_th a_ha a_wk a_r a_x e_tl e_fd e_fpl a_wd e_wn a_rf e_lr)), (a_k, (oc5 a_h a_j a_pt k_ln k_se k_lh k_br k_we k_me k_ce k_wy k_ho k_ov)), (a_h, (oc1 e_wa e_le e_st e_fo e_lc a_l a_g a_b a_s a_p a_w e_gb a_bb)), (a_g, (oc6 6 5 a_gn e_g)), (a_gn, (arI G 30 k_f)), (a_b, (oc6 5 24 a_bn e_b)), (a_bn, (arI G 120 f_b)), (a_p, (oc6 8 5 a_pn e_p)), (a_pn, (arI G 40 f_p)), (a_bb, (arJ G 24 f_bb)), (a_j, (oc2 a_as a_sk)), (a_as, (arI G 8 k_as)), (a_sk, (arJ G 50 k_sk)), (a_l, (arW G 6 f_l)), (a_pt, (arI G 200 k_pt)), (a_wk, (oc9 a_h a_k a_go a_mt)), (a_go, (arJ G 24 z23)), (a_mt, (arI G 1536 z24))], rfl, ⟨k_a, k_ln, k_se, k_lh, k_br, k_we, k_me, k_ce, k_wy, k_ho, k_ov, k_pt, k_as, k_sk, z23, z24, k_f, i_84, i_86, i_87, i_85, rfl, rfl⟩, by rw [ht]; exact hP.sub [0, 1, 2, 3, 4, 5, 6, 7, 8, 9, 10, 11, 12, 13, 14, 15, 16, 17] rfl, hD.sub [0, 1, 2, 3, 4, 5, 6, 7, 8, 9, 10, 11, 12, 13, 14, 15, 16, 17] (by decide +kernel) rfl⟩, hS.F ht⟩) hS.2.2 dX11_sooner_204
            ·
              have i_89 : k_g.toInt < e_g.toInt := g5_geN (a := k_g.toInt) (b := e_g.toInt) rfl rfl c_89
              refine lv_aload_n hx hb dX11_sooner_73 rfl (lv_at hl 3 rfl) ?_
              refine va_get (D := G.1) (ci := 11) (v := .ref a_h) (C := RX11) (T := TX11) (N := 17) hx hb hts inG_X11 hown hK hP 0 rfl rfl 0 (by decide +kernel) (hts _ fl_X11_12) (fun _ h9 => h9) rfl dX11_sooner_74 ?_
              refine va_get (D := G.1) (ci := 1) (v := .ref a_g) (C := RX1) (T := TX1) (N := 13) hx hb hts inG_X1 hown hK hP 2 rfl rfl 6 (by decide +kernel) (hts _ fl_X11_136) (fun _ h9 => h9) rfl dX11_sooner_77 ?_
              refine lv_iload hx hb dX11_sooner_80 (lv_at hl 2 rfl) ?_
              refine W.eq (g2 := F0 m 82 ls [.int k_g, .ref a_g]) rfl ?_
              refine lv_iconst (v := 1) hx hb dX11_sooner_82 (by decide +kernel) ?_
              obtain ⟨hPc, hDc, hFc⟩ := g5_sub3 (wc := [(a_g, (oc6 6 5 a_gn e_g)), (a_gn, (arI G 30 k_f))]) hP hD hS hA [3, 4] (by decide +kernel) rfl
              refine va_calli (va_runV (As := [.int k_g, .int 1]) (rest := []) ⟨hx, hb, hml, hown, hts⟩ (t_get_G l G a_g a_gn H.size e_g k_g 1 k_f h_e_g) (cwV 2 hts gV_X11_163 rfl rfl rfl hv_X6_get ⟨Nat.le_of_ble_eq_true rfl, Nat.le_of_ble_eq_true rfl⟩) (g5_preV hPc hK hDc hN hT hS hFc (ci := 6) (q0 := 0) rfl rfl) rfl rfl hl.1 rfl (lv_room (Nat.le_of_ble_eq_true rfl)) dX11_sooner_83 ⟨Nat.le_of_ble_eq_true rfl, Nat.le_of_ble_eq_true rfl⟩) hS (fun q _ h => hFc q h) hFc (fun r u t H locs ht hvm hw hB hz1 hk1 hS => ?_)
              obtain ⟨hP1, hD1⟩ := hB
              have hP1 := g5_ht ht hP1
              obtain ⟨z91, (i_90 : z91 = tget k_f e_g.toInt 5 k_g.toInt (1 : Int32).toInt), y92, rfl⟩ := hw
              have hJ9 := va_join (wr := [(a_o, (oc11 a_h a_im a_ke a_k a_wa a_th a_ha a_wk a_r a_x e_tl e_fd e_fpl a_wd e_wn a_rf e_lr)), (a_k, (oc5 a_h a_j a_pt k_ln k_se k_lh k_br k_we k_me k_ce k_wy k_ho k_ov)), (a_h, (oc1 e_wa e_le e_st e_fo e_lc a_l a_g a_b a_s a_p a_w e_gb a_bb)), (a_b, (oc6 5 24 a_bn e_b)), (a_bn, (arI G 120 f_b)), (a_p, (oc6 8 5 a_pn e_p)), (a_pn, (arI G 40 f_p)), (a_bb, (arJ G 24 f_bb)), (a_j, (oc2 a_as a_sk)), (a_as, (arI G 8 k_as)), (a_sk, (arJ G 50 k_sk)), (a_l, (arW G 6 f_l)), (a_pt, (arI G 200 k_pt)), (a_wk, (oc9 a_h a_k a_go a_mt)), (a_go, (arJ G 24 z23)), (a_mt, (arI G 1536 z24))]) hP hD [3, 4] [0, 1, 2, 5, 6, 7, 8, 9, 10, 11, 12, 13, 14, 15, 16, 17] rfl rfl (by decide +kernel) (by decide +kernel) hk1 hFc hP1 hD1
              clear hP hD hPc hDc hFc ht hvm hz1 hk1 hP1 hD1
              obtain ⟨hP, hD⟩ := hJ9
              refine g5_rs [(a_o, (oc11 a_h a_im a_ke a_k a_wa a_th a_ha a_wk a_r a_x e_tl e_fd e_fpl a_wd e_wn a_rf e_lr)), (a_k, (oc5 a_h a_j a_pt k_ln k_se k_lh k_br k_we k_me k_ce k_wy k_ho k_ov)), (a_h, (oc1 e_wa e_le e_st e_fo e_lc a_l a_g a_b a_s a_p a_w e_gb a_bb)), (a_b, (oc6 5 24 a_bn e_b)), (a_bn, (arI G 120 f_b)), (a_p, (oc6 8 5 a_pn e_p)), (a_pn, (arI G 40 f_p)), (a_bb, (arJ G 24 f_bb)), (a_j, (oc2 a_as a_sk)), (a_as, (arI G 8 k_as)), (a_sk, (arJ G 50 k_sk)), (a_l, (arW G 6 f_l)), (a_pt, (arI G 200 k_pt)), (a_wk, (oc9 a_h a_k a_go a_mt)), (a_go, (arJ G 24 z23)), (a_mt, (arI G 1536 z24)), (a_g, (oc6 6 5 a_gn e_g)), (a_gn, (arI G 30 k_f))] hP hD ?_
              clear hP hD
              intro hP hD
              refine g5_ti (v := z91) y92 ?_
              have hg_93 : 0 ≤ z91.toInt ∧ z91.toInt ≤ 5 := by rw [i_90]; exact (i_86 k_g.toInt (by omega) (by omega)).2.1
              refine lv_istore (lv' := [(9, .int z91), (6, .int k_t), (7, .int k_a), (8, .int k_g), (0, .ref a_o), (1, .int p_b), (2, .int p_c), (3, .int p_h), (4, .int p_t)]) hx hb dX11_sooner_86 hl (by decide +kernel) rfl ?_
              clear hl
              intro ls hl
              refine lv_iconst (v := 0) hx hb dX11_sooner_88 (by decide +kernel) ?_
              refine lv_istore (lv' := [(10, .int 0), (9, .int z91), (6, .int k_t), (7, .int k_a), (8, .int k_g), (0, .ref a_o), (1, .int p_b), (2, .int p_c), (3, .int p_h), (4, .int p_t)]) hx hb dX11_sooner_89 hl (by decide +kernel) rfl ?_
              clear hl
              intro ls hl
              refine g5_loop (α := (Int32) × (Int32) × (Int32) × (Int32) × (Int32) × (Int32) × (Int32) × (Int32) × (Int32) × (Int32) × (Int32) × (Int32) × (Nat → Int32) × (Nat → Int32) × (Nat → Int64) × (Int32) × (Nat → Int32)) (fun (q : (Int32) × (Int32) × (Int32) × (Int32) × (Int32) × (Int32) × (Int32) × (Int32) × (Int32) × (Int32) × (Int32) × (Int32) × (Nat → Int32) × (Nat → Int32) × (Nat → Int64) × (Int32) × (Nat → Int32)) (ls : Array Slot) (H : Heap) (locs : List Loc) => match q with | (m_t, m_a, m_o, m_se, m_lh, m_br, m_we, m_me, m_ce, m_wy, m_ho, m_ov, m_pt, m_as, m_sk, m_ln, m_f) => lv_has ls 12 [(6, .int m_t), (7, .int m_a), (10, .int m_o), (9, .int z91), (8, .int k_g), (0, .ref a_o), (1, .int p_b), (2, .int p_c), (3, .int p_h), (4, .int p_t)] ∧ va_P G.1 vwCl [(a_o, (oc11 a_h a_im a_ke a_k a_wa a_th a_ha a_wk a_r a_x e_tl e_fd e_fpl a_wd e_wn a_rf e_lr)), (a_k, (oc5 a_h a_j a_pt m_ln m_se m_lh m_br m_we m_me m_ce m_wy m_ho m_ov)), (a_h, (oc1 e_wa e_le e_st e_fo e_lc a_l a_g a_b a_s a_p a_w e_gb a_bb)), (a_b, (oc6 5 24 a_bn e_b)), (a_bn, (arI G 120 f_b)), (a_p, (oc6 8 5 a_pn e_p)), (a_pn, (arI G 40 f_p)), (a_bb, (arJ G 24 f_bb)), (a_j, (oc2 a_as a_sk)), (a_as, (arI G 8 m_as)), (a_sk, (arJ G 50 m_sk)), (a_l, (arW G 6 f_l)), (a_pt, (arI G 200 m_pt)), (a_wk, (oc9 a_h a_k a_go a_mt)), (a_go, (arJ G 24 z23)), (a_mt, (arI G 1536 z24)), (a_g, (oc6 6 5 a_gn e_g)), (a_gn, (arI G 30 m_f))] H ∧ va_D A [(a_o, (oc11 a_h a_im a_ke a_k a_wa a_th a_ha a_wk a_r a_x e_tl e_fd e_fpl a_wd e_wn a_rf e_lr)), (a_k, (oc5 a_h a_j a_pt m_ln m_se m_lh m_br m_we m_me m_ce m_wy m_ho m_ov)), (a_h, (oc1 e_wa e_le e_st e_fo e_lc a_l a_g a_b a_s a_p a_w e_gb a_bb)), (a_b, (oc6 5 24 a_bn e_b)), (a_bn, (arI G 120 f_b)), (a_p, (oc6 8 5 a_pn e_p)), (a_pn, (arI G 40 f_p)), (a_bb, (arJ G 24 f_bb)), (a_j, (oc2 a_as a_sk)), (a_as, (arI G 8 m_as)), (a_sk, (arJ G 50 m_sk)), (a_l, (arW G 6 f_l)), (a_pt, (arI G 200 m_pt)), (a_wk, (oc9 a_h a_k a_go a_mt)), (a_go, (arJ G 24 z23)), (a_mt, (arI G 1536 z24)), (a_g, (oc6 6 5 a_gn e_g)), (a_gn, (arI G 30 m_f))] ∧ va_S A s.heap H locs ∧ (0 ≤ m_t.toInt ∧ m_t.toInt ≤ 24) ∧ (0 ≤ m_o.toInt ∧ m_o.toInt ≤ 6) ∧ (0 ≤ m_ov.toInt ∧ m_ov.toInt ≤ 1) ∧ (∀ r c : Int, ¬ (r = k_g.toInt ∧ c = 1) → tget m_f e_g.toInt 5 r c = tget k_f e_g.toInt 5 r c) ∧ (gOK m_f e_g.toInt) ∧ (inT e_gb m_f e_g.toInt)) (fun (q : (Int32) × (Int32) × (Int32) × (Int32) × (Int32) × (Int32) × (Int32) × (Int32) × (Int32) × (Int32) × (Int32) × (Int32) × (Nat → Int32) × (Nat → Int32) × (Nat → Int64) × (Int32) × (Nat → Int32)) => match q with | (m_t, m_a, m_o, m_se, m_lh, m_br, m_we, m_me, m_ce, m_wy, m_ho, m_ov, m_pt, m_as, m_sk, m_ln, m_f) => Int.toNat (6 - m_o.toInt)) (k_t, k_a, 0, k_se, k_lh, k_br, k_we, k_me, k_ce, k_wy, k_ho, k_ov, k_pt, k_as, k_sk, k_ln, k_f) ⟨lv_sub hl [2, 3, 0, 1, 4, 5, 6, 7, 8, 9] rfl, hP, hD, hS, i_82, ⟨by decide, by decide⟩, i_84, fun _ _ _ => rfl, i_86, i_87⟩ ?_
              rintro ⟨m_t, m_a, m_o, m_se, m_lh, m_br, m_we, m_me, m_ce, m_wy, m_ho, m_ov, m_pt, m_as, m_sk, m_ln, m_f⟩ ls H locs ⟨hl, hP, hD, hS, (i_94 : 0 ≤ m_t.toInt ∧ m_t.toInt ≤ 24), (i_95 : 0 ≤ m_o.toInt ∧ m_o.toInt ≤ 6), (i_96 : 0 ≤ m_ov.toInt ∧ m_ov.toInt ≤ 1), (i_97 : ∀ r c : Int, ¬ (r = k_g.toInt ∧ c = 1) → tget m_f e_g.toInt 5 r c = tget k_f e_g.toInt 5 r c), (i_98 : gOK m_f e_g.toInt), (i_99 : inT e_gb m_f e_g.toInt)⟩ ih_91_100
              replace hl : lv_has ls 12 [(6, .int m_t), (7, .int m_a), (10, .int m_o), (9, .int z91), (8, .int k_g), (0, .ref a_o), (1, .int p_b), (2, .int p_c), (3, .int p_h), (4, .int p_t)] := hl
              refine g5_rs [(a_o, (oc11 a_h a_im a_ke a_k a_wa a_th a_ha a_wk a_r a_x e_tl e_fd e_fpl a_wd e_wn a_rf e_lr)), (a_k, (oc5 a_h a_j a_pt m_ln m_se m_lh m_br m_we m_me m_ce m_wy m_ho m_ov)), (a_h, (oc1 e_wa e_le e_st e_fo e_lc a_l a_g a_b a_s a_p a_w e_gb a_bb)), (a_b, (oc6 5 24 a_bn e_b)), (a_bn, (arI G 120 f_b)), (a_p, (oc6 8 5 a_pn e_p)), (a_pn, (arI G 40 f_p)), (a_bb, (arJ G 24 f_bb)), (a_j, (oc2 a_as a_sk)), (a_as, (arI G 8 m_as)), (a_sk, (arJ G 50 m_sk)), (a_l, (arW G 6 f_l)), (a_pt, (arI G 200 m_pt)), (a_wk, (oc9 a_h a_k a_go a_mt)), (a_go, (arJ G 24 z23)), (a_mt, (arI G 1536 z24)), (a_g, (oc6 6 5 a_gn e_g)), (a_gn, (arI G 30 m_f))] hP hD ?_
              clear hP hD
              intro hP hD
              refine lv_iload hx hb dX11_sooner_91 (lv_at hl 2 rfl) ?_
              refine lv_bipush (v := 6) hx hb dX11_sooner_93 (by decide +kernel) ?_
              refine lv_icmp_ge (tgt := 181) hx hb dX11_sooner_95 (by decide +kernel) (fun c_101 => ?_) (fun c_101 => ?_)
              ·
                have i_101 : m_o.toInt ≥ 6 := g5_ge (a := m_o.toInt) (b := 6) rfl (by decide +kernel) c_101
                refine lv_aload_n hx hb dX11_sooner_181 rfl (lv_at hl 5 rfl) ?_
                refine va_get (D := G.1) (ci := 11) (v := .ref a_h) (C := RX11) (T := TX11) (N := 17) hx hb hts inG_X11 hown hK hP 0 rfl rfl 0 (by decide +kernel) (hts _ fl_X11_12) (fun _ h9 => h9) rfl dX11_sooner_182 ?_
                refine va_get (D := G.1) (ci := 1) (v := .ref a_g) (C := RX1) (T := TX1) (N := 13) hx hb hts inG_X1 hown hK hP 2 rfl rfl 6 (by decide +kernel) (hts _ fl_X11_136) (fun _ h9 => h9) rfl dX11_sooner_185 ?_
                refine lv_iload hx hb dX11_sooner_188 (lv_at hl 4 rfl) ?_
                refine W.eq (g2 := F0 m 190 ls [.int k_g, .ref a_g]) rfl ?_
                refine lv_iconst (v := 1) hx hb dX11_sooner_190 (by decide +kernel) ?_
                refine lv_iload hx hb dX11_sooner_191 (lv_at hl 3 rfl) ?_
                obtain ⟨hPc, hDc, hFc⟩ := g5_sub3 (wc := [(a_g, (oc6 6 5 a_gn e_g)), (a_gn, (arI G 30 m_f))]) hP hD hS hA [16, 17] (by decide +kernel) rfl
                refine va_callv (va_runV (As := [.int k_g, .int 1, .int z91]) (rest := []) ⟨hx, hb, hml, hown, hts⟩ (t_set_G l G a_g a_gn H.size e_g k_g 1 z91 m_f h_e_g) (cwV 3 hts gV_X11_149 rfl rfl rfl hv_X6_set ⟨Nat.le_of_ble_eq_true rfl, Nat.le_of_ble_eq_true rfl⟩) (g5_preV hPc hK hDc hN hT hS hFc (ci := 6) (q0 := 0) rfl rfl) rfl rfl hl.1 rfl (lv_room (Nat.le_of_ble_eq_true rfl)) dX11_sooner_193 ⟨Nat.le_of_ble_eq_true rfl, Nat.le_of_ble_eq_true rfl⟩) hS (fun q _ h => hFc q h) hFc (fun u t H locs ht hvm hw hB hz1 hk1 hS => ?_)
                obtain ⟨hP1, hD1⟩ := hB
                have hP1 := g5_ht ht hP1
                obtain ⟨z103, (i_102 : z103 = tset m_f e_g.toInt 5 k_g.toInt (1 : Int32).toInt z91), rfl⟩ := hw
                have hJ9 := va_join (wr := [(a_o, (oc11 a_h a_im a_ke a_k a_wa a_th a_ha a_wk a_r a_x e_tl e_fd e_fpl a_wd e_wn a_rf e_lr)), (a_k, (oc5 a_h a_j a_pt m_ln m_se m_lh m_br m_we m_me m_ce m_wy m_ho m_ov)), (a_h, (oc1 e_wa e_le e_st e_fo e_lc a_l a_g a_b a_s a_p a_w e_gb a_bb)), (a_b, (oc6 5 24 a_bn e_b)), (a_bn, (arI G 120 f_b)), (a_p, (oc6 8 5 a_pn e_p)), (a_pn, (arI G 40 f_p)), (a_bb, (arJ G 24 f_bb)), (a_j, (oc2 a_as a_sk)), (a_as, (arI G 8 m_as)), (a_sk, (arJ G 50 m_sk)), (a_l, (arW G 6 f_l)), (a_pt, (arI G 200 m_pt)), (a_wk, (oc9 a_h a_k a_go a_mt)), (a_go, (arJ G 24 z23)), (a_mt, (arI G 1536 z24))]) hP hD [16, 17] [0, 1, 2, 3, 4, 5, 6, 7, 8, 9, 10, 11, 12, 13, 14, 15] rfl rfl (by decide +kernel) (by decide +kernel) hk1 hFc hP1 hD1
                clear hP hD hPc hDc hFc ht hvm hz1 hk1 hP1 hD1
                obtain ⟨hP, hD⟩ := hJ9
                refine g5_rs [(a_o, (oc11 a_h a_im a_ke a_k a_wa a_th a_ha a_wk a_r a_x e_tl e_fd e_fpl a_wd e_wn a_rf e_lr)), (a_k, (oc5 a_h a_j a_pt m_ln m_se m_lh m_br m_we m_me m_ce m_wy m_ho m_ov)), (a_h, (oc1 e_wa e_le e_st e_fo e_lc a_l a_g a_b a_s a_p a_w e_gb a_bb)), (a_b, (oc6 5 24 a_bn e_b)), (a_bn, (arI G 120 f_b)), (a_p, (oc6 8 5 a_pn e_p)), (a_pn, (arI G 40 f_p)), (a_bb, (arJ G 24 f_bb)), (a_j, (oc2 a_as a_sk)), (a_as, (arI G 8 m_as)), (a_sk, (arJ G 50 m_sk)), (a_l, (arW G 6 f_l)), (a_pt, (arI G 200 m_pt)), (a_wk, (oc9 a_h a_k a_go a_mt)), (a_go, (arJ G 24 z23)), (a_mt, (arI G 1536 z24)), (a_g, (oc6 6 5 a_gn e_g)), (a_gn, (arI G 30 z103))] hP hD ?_
                clear hP hD
                intro hP hD
                have hgk_104 : gOK z103 e_g.toInt := by rw [i_102]; exact g_turn i_98 (by omega) (Or.inl ⟨by decide, by omega, by omega⟩)
                have hgi_104 : inT e_gb z103 e_g.toInt := by rw [i_102]; exact g_inTturn i_99 (by omega) ⟨by decide, by decide⟩
                refine lv_iinc (v := (k_g + 1)) (lv' := [(8, .int (k_g + 1)), (6, .int m_t), (7, .int m_a), (10, .int m_o), (9, .int z91), (0, .ref a_o), (1, .int p_b), (2, .int p_c), (3, .int p_h), (4, .int p_t)]) hx hb dX11_sooner_196 hl (k := 4) rfl rfl (by decide +kernel) rfl ?_
                clear hl
                intro ls hl
                have t_105 : (k_g + 1).toInt = k_g.toInt + 1 := g5_iadd (a := k_g.toInt) (b := 1) rfl (by decide +kernel) (by omega) (by omega)
                refine lv_goto (tgt := 58) hx hb dX11_sooner_199 (by decide +kernel) ?_
                exact ih_58_88 (m_t, m_a, (k_g + 1), m_se, m_lh, m_br, m_we, m_me, m_ce, m_wy, m_ho, m_ov, m_pt, m_as, m_sk, m_ln, z103) ls H locs (show Int.toNat (6 - (k_g + 1).toInt) < Int.toNat (6 - k_g.toInt) from g_up (show k_g.toInt < (k_g + 1).toInt by omega) (show k_g.toInt < 6 by omega)) ⟨lv_sub hl [1, 2, 0, 5, 6, 7, 8, 9] rfl, hP.sub [0, 1, 2, 16, 17, 3, 4, 5, 6, 7, 8, 9, 10, 11, 12, 13, 14, 15] rfl, hD.sub [0, 1, 2, 16, 17, 3, 4, 5, 6, 7, 8, 9, 10, 11, 12, 13, 14, 15] (by decide +kernel) rfl, hS, i_94, ⟨by omega, by omega⟩, i_96, fun r c => by rw [i_102, so_out ⟨by omega, by omega⟩ i_97 i_90 r c]; exact i_85 r c, hgk_104, hgi_104⟩
              ·
                have i_101 : m_o.toInt < 6 := g5_geN (a := m_o.toInt) (b := 6) rfl (by decide +kernel) c_101
                refine lv_aload_n hx hb dX11_sooner_98 rfl (lv_at hl 5 rfl) ?_
                refine va_get (D := G.1) (ci := 11) (v := .ref a_h) (C := RX11) (T := TX11) (N := 17) hx hb hts inG_X11 hown hK hP 0 rfl rfl 0 (by decide +kernel) (hts _ fl_X11_12) (fun _ h9 => h9) rfl dX11_sooner_99 ?_
                refine va_get (D := G.1) (ci := 1) (v := .ref a_g) (C := RX1) (T := TX1) (N := 13) hx hb hts inG_X1 hown hK hP 2 rfl rfl 6 (by decide +kernel) (hts _ fl_X11_136) (fun _ h9 => h9) rfl dX11_sooner_102 ?_
                refine lv_iload hx hb dX11_sooner_105 (lv_at hl 4 rfl) ?_
                refine W.eq (g2 := F0 m 107 ls [.int k_g, .ref a_g]) rfl ?_
                refine lv_iconst (v := 1) hx hb dX11_sooner_107 (by decide +kernel) ?_
                refine lv_iload hx hb dX11_sooner_108 (lv_at hl 2 rfl) ?_
                obtain ⟨hPc, hDc, hFc⟩ := g5_sub3 (wc := [(a_g, (oc6 6 5 a_gn e_g)), (a_gn, (arI G 30 m_f))]) hP hD hS hA [16, 17] (by decide +kernel) rfl
                refine va_callv (va_runV (As := [.int k_g, .int 1, .int m_o]) (rest := []) ⟨hx, hb, hml, hown, hts⟩ (t_set_G l G a_g a_gn H.size e_g k_g 1 m_o m_f h_e_g) (cwV 3 hts gV_X11_149 rfl rfl rfl hv_X6_set ⟨Nat.le_of_ble_eq_true rfl, Nat.le_of_ble_eq_true rfl⟩) (g5_preV hPc hK hDc hN hT hS hFc (ci := 6) (q0 := 0) rfl rfl) rfl rfl hl.1 rfl (lv_room (Nat.le_of_ble_eq_true rfl)) dX11_sooner_110 ⟨Nat.le_of_ble_eq_true rfl, Nat.le_of_ble_eq_true rfl⟩) hS (fun q _ h => hFc q h) hFc (fun u t H locs ht hvm hw hB hz1 hk1 hS => ?_)
                obtain ⟨hP1, hD1⟩ := hB
                have hP1 := g5_ht ht hP1
                obtain ⟨z107, (i_106 : z107 = tset m_f e_g.toInt 5 k_g.toInt (1 : Int32).toInt m_o), rfl⟩ := hw
                have hJ9 := va_join (wr := [(a_o, (oc11 a_h a_im a_ke a_k a_wa a_th a_ha a_wk a_r a_x e_tl e_fd e_fpl a_wd e_wn a_rf e_lr)), (a_k, (oc5 a_h a_j a_pt m_ln m_se m_lh m_br m_we m_me m_ce m_wy m_ho m_ov)), (a_h, (oc1 e_wa e_le e_st e_fo e_lc a_l a_g a_b a_s a_p a_w e_gb a_bb)), (a_b, (oc6 5 24 a_bn e_b)), (a_bn, (arI G 120 f_b)), (a_p, (oc6 8 5 a_pn e_p)), (a_pn, (arI G 40 f_p)), (a_bb, (arJ G 24 f_bb)), (a_j, (oc2 a_as a_sk)), (a_as, (arI G 8 m_as)), (a_sk, (arJ G 50 m_sk)), (a_l, (arW G 6 f_l)), (a_pt, (arI G 200 m_pt)), (a_wk, (oc9 a_h a_k a_go a_mt)), (a_go, (arJ G 24 z23)), (a_mt, (arI G 1536 z24))]) hP hD [16, 17] [0, 1, 2, 3, 4, 5, 6, 7, 8, 9, 10, 11, 12, 13, 14, 15] rfl rfl (by decide +kernel) (by decide +kernel) hk1 hFc hP1 hD1
                clear hP hD hPc hDc hFc ht hvm hz1 hk1 hP1 hD1
                obtain ⟨hP, hD⟩ := hJ9
                refine g5_rs [(a_o, (oc11 a_h a_im a_ke a_k a_wa a_th a_ha a_wk a_r a_x e_tl e_fd e_fpl a_wd e_wn a_rf e_lr)), (a_k, (oc5 a_h a_j a_pt m_ln m_se m_lh m_br m_we m_me m_ce m_wy m_ho m_ov)), (a_h, (oc1 e_wa e_le e_st e_fo e_lc a_l a_g a_b a_s a_p a_w e_gb a_bb)), (a_b, (oc6 5 24 a_bn e_b)), (a_bn, (arI G 120 f_b)), (a_p, (oc6 8 5 a_pn e_p)), (a_pn, (arI G 40 f_p)), (a_bb, (arJ G 24 f_bb)), (a_j, (oc2 a_as a_sk)), (a_as, (arI G 8 m_as)), (a_sk, (arJ G 50 m_sk)), (a_l, (arW G 6 f_l)), (a_pt, (arI G 200 m_pt)), (a_wk, (oc9 a_h a_k a_go a_mt)), (a_go, (arJ G 24 z23)), (a_mt, (arI G 1536 z24)), (a_g, (oc6 6 5 a_gn e_g)), (a_gn, (arI G 30 z107))] hP hD ?_
                clear hP hD
                intro hP hD
                have hgk_108 : gOK z107 e_g.toInt := by rw [i_106]; exact g_turn i_98 (by omega) (Or.inl ⟨by decide, by omega, by omega⟩)
                have hgi_108 : inT e_gb z107 e_g.toInt := by rw [i_106]; exact g_inTturn i_99 (by omega) ⟨by decide, by decide⟩
                refine lv_iload hx hb dX11_sooner_113 (lv_at hl 2 rfl) ?_
                refine lv_iload hx hb dX11_sooner_115 (lv_at hl 3 rfl) ?_
                refine W.eq (g2 := F0 m 117 ls [.int z91, .int m_o]) rfl ?_
                refine lv_icmp_ne (tgt := 124) hx hb dX11_sooner_117 (by decide +kernel) (fun c_109 => ?_) (fun c_109 => ?_)
                ·
                  have n_109 : gNe (m_o.toInt) (z91.toInt) := g5_ne (a := m_o.toInt) (b := z91.toInt) rfl rfl c_109
                  refine lv_aload_n hx hb dX11_sooner_124 rfl (lv_at hl 5 rfl) ?_
                  refine va_get (D := G.1) (ci := 11) (v := .ref a_wk) (C := RX11) (T := TX11) (N := 17) hx hb hts inG_X11 hown hK hP 0 rfl rfl 7 (by decide +kernel) (hts _ fl_X11_59) (fun _ h9 => h9) rfl dX11_sooner_125 ?_
                  refine lv_iload hx hb dX11_sooner_128 (lv_at hl 4 rfl) ?_
                  refine lv_iload_n hx hb dX11_sooner_130 rfl (lv_at hl 6 rfl) ?_
                  refine W.eq (g2 := F0 m 131 ls [.int p_b, .int k_g, .ref a_wk]) rfl ?_
                  refine lv_iload_n hx hb dX11_sooner_131 rfl (lv_at hl 7 rfl) ?_
                  refine lv_iload_n hx hb dX11_sooner_132 rfl (lv_at hl 8 rfl) ?_
                  refine lv_iload hx hb dX11_sooner_133 (lv_at hl 0 rfl) ?_
                  obtain ⟨hPc, hDc, hFc⟩ := g5_sub3 (wc := [(a_k, (oc5 a_h a_j a_pt m_ln m_se m_lh m_br m_we m_me m_ce m_wy m_ho m_ov)), (a_h, (oc1 e_wa e_le e_st e_fo e_lc a_l a_g a_b a_s a_p a_w e_gb a_bb)), (a_g, (oc6 6 5 a_gn e_g)), (a_gn, (arI G 30 z107)), (a_b, (oc6 5 24 a_bn e_b)), (a_bn, (arI G 120 f_b)), (a_p, (oc6 8 5 a_pn e_p)), (a_pn, (arI G 40 f_p)), (a_bb, (arJ G 24 f_bb)), (a_j, (oc2 a_as a_sk)), (a_as, (arI G 8 m_as)), (a_sk, (arJ G 50 m_sk)), (a_l, (arW G 6 f_l)), (a_pt, (arI G 200 m_pt)), (a_wk, (oc9 a_h a_k a_go a_mt)), (a_go, (arJ G 24 z23)), (a_mt, (arI G 1536 z24))]) hP hD hS hA [1, 2, 16, 17, 3, 4, 5, 6, 7, 8, 9, 10, 11, 12, 13, 14, 15] (by decide +kernel) rfl
                  refine va_calli (va_runV (As := [.int k_g, .int p_b, .int p_c, .int p_h, .int m_t]) (rest := []) ⟨hx, hb, hml, hown, hts⟩ (a_byN l G a_k a_h a_g a_gn a_b a_bn a_p a_pn a_bb a_j a_as a_sk a_l a_pt a_wk a_go a_mt a_s a_w H.size e_le e_st e_fo e_lc e_g e_b e_p m_ln m_se m_lh m_br m_we m_me m_ce m_wy m_ho m_ov k_g p_b p_c p_h m_t e_wa e_gb z107 f_b f_p f_bb m_as m_sk f_l m_pt z23 z24 h_e_g h_e_b h_e_p i_96 i_1 i_2 i_94 (hgk_108) (e_pk) (hgi_108) (e_f)) (cwV 5 hts gV_X11_336 rfl rfl rfl hv_X9_sightBy ⟨Nat.le_of_ble_eq_true rfl, Nat.le_of_ble_eq_true rfl⟩) (g5_preV hPc hK hDc hN hT hS hFc (ci := 9) (q0 := 14) rfl rfl) rfl rfl hl.1 rfl (lv_room (Nat.le_of_ble_eq_true rfl)) dX11_sooner_135 ⟨Nat.le_of_ble_eq_true rfl, Nat.le_of_ble_eq_true rfl⟩) hS (fun q _ h => hFc q h) hFc (fun r u t H locs ht hvm hw hB hz1 hk1 hS => ?_)
                  obtain ⟨hP1, hD1⟩ := hB
                  have hP1 := g5_ht ht hP1
                  obtain ⟨z113, z114, z115, z116, z117, z118, z119, z120, z121, z122, z123, z124, z125, z126, (i_110 : 0 ≤ z123.toInt ∧ z123.toInt ≤ 1), (i_111 : -1 ≤ z113.toInt ∧ z113.toInt ≤ 23), (i_112 : z113.toInt = -1 ∨ (p_h.toInt ≤ z113.toInt ∧ z113.toInt < m_t.toInt)), y127, rfl⟩ := hw
                  have hJ9 := va_join (wr := [(a_o, (oc11 a_h a_im a_ke a_k a_wa a_th a_ha a_wk a_r a_x e_tl e_fd e_fpl a_wd e_wn a_rf e_lr))]) hP hD [1, 2, 16, 17, 3, 4, 5, 6, 7, 8, 9, 10, 11, 12, 13, 14, 15] [0] rfl rfl (by decide +kernel) (by decide +kernel) hk1 hFc hP1 hD1
                  clear hP hD hPc hDc hFc ht hvm hz1 hk1 hP1 hD1
                  obtain ⟨hP, hD⟩ := hJ9
                  refine g5_rs [(a_o, (oc11 a_h a_im a_ke a_k a_wa a_th a_ha a_wk a_r a_x e_tl e_fd e_fpl a_wd e_wn a_rf e_lr)), (a_k, (oc5 a_h a_j a_pt z114 z115 z116 z117 z118 z119 z120 z121 z122 z123)), (a_h, (oc1 e_wa e_le e_st e_fo e_lc a_l a_g a_b a_s a_p a_w e_gb a_bb)), (a_g, (oc6 6 5 a_gn e_g)), (a_gn, (arI G 30 z107)), (a_b, (oc6 5 24 a_bn e_b)), (a_bn, (arI G 120 f_b)), (a_p, (oc6 8 5 a_pn e_p)), (a_pn, (arI G 40 f_p)), (a_bb, (arJ G 24 f_bb)), (a_j, (oc2 a_as a_sk)), (a_as, (arI G 8 z125)), (a_sk, (arJ G 50 z126)), (a_l, (arW G 6 f_l)), (a_pt, (arI G 200 z124)), (a_wk, (oc9 a_h a_k a_go a_mt)), (a_go, (arJ G 24 z23)), (a_mt, (arI G 1536 z24))] hP hD ?_
                  clear hP hD
                  intro hP hD
                  refine g5_ti (v := z113) y127 ?_
                  refine lv_istore (lv' := [(11, .int z113), (6, .int m_t), (7, .int m_a), (10, .int m_o), (9, .int z91), (8, .int k_g), (0, .ref a_o), (1, .int p_b), (2, .int p_c), (3, .int p_h), (4, .int p_t)]) hx hb dX11_sooner_138 hl (by decide +kernel) rfl ?_
                  clear hl
                  intro ls hl
                  refine W.eq (g2 := F0 m 140 ls []) rfl ?_
                  refine lv_iload hx hb dX11_sooner_140 (lv_at hl 0 rfl) ?_
                  refine lv_iconst (v := (-1)) hx hb dX11_sooner_142 (by decide +kernel) ?_
                  refine lv_icmp_eq (tgt := 175) hx hb dX11_sooner_143 (by decide +kernel) (fun c_128 => ?_) (fun c_128 => ?_)
                  ·
                    have i_128 : z113.toInt = (-1) := g5_eq (a := z113.toInt) (b := (-1)) rfl (by decide +kernel) c_128
                    refine lv_iinc (v := (m_o + 1)) (lv' := [(10, .int (m_o + 1)), (11, .int z113), (6, .int m_t), (7, .int m_a), (9, .int z91), (8, .int k_g), (0, .ref a_o), (1, .int p_b), (2, .int p_c), (3, .int p_h), (4, .int p_t)]) hx hb dX11_sooner_175 hl (k := 3) rfl rfl (by decide +kernel) rfl ?_
                    clear hl
                    intro ls hl
                    have t_129 : (m_o + 1).toInt = m_o.toInt + 1 := g5_iadd (a := m_o.toInt) (b := 1) rfl (by decide +kernel) (by omega) (by omega)
                    refine lv_goto (tgt := 91) hx hb dX11_sooner_178 (by decide +kernel) ?_
                    exact ih_91_100 (m_t, m_a, (m_o + 1), z115, z116, z117, z118, z119, z120, z121, z122, z123, z124, z125, z126, z114, z107) ls H locs (show Int.toNat (6 - (m_o + 1).toInt) < Int.toNat (6 - m_o.toInt) from g_up (show m_o.toInt < (m_o + 1).toInt by omega) (show m_o.toInt < 6 by omega)) ⟨lv_sub hl [2, 3, 0, 4, 5, 6, 7, 8, 9, 10] rfl, hP.sub [0, 1, 2, 5, 6, 7, 8, 9, 10, 11, 12, 13, 14, 15, 16, 17, 3, 4] rfl, hD.sub [0, 1, 2, 5, 6, 7, 8, 9, 10, 11, 12, 13, 14, 15, 16, 17, 3, 4] (by decide +kernel) rfl, hS, i_94, ⟨by omega, by omega⟩, i_110, fun r c h9 => by rw [i_106, so_in ⟨by omega, by omega⟩ h9]; exact i_97 r c h9, hgk_108, hgi_108⟩
                  ·
                    have n_128 : gNe (z113.toInt) ((-1)) := g5_eqN (a := z113.toInt) (b := (-1)) rfl (by decide +kernel) c_128
                    have i_128 : z113.toInt ≥ 0 := by have z := g5_eqN (a := z113.toInt) (b := (-1)) (by rfl) (by decide +kernel) c_128; omega
                    refine lv_iload hx hb dX11_sooner_146 (lv_at hl 0 rfl) ?_
                    refine lv_istore (lv' := [(6, .int z113), (11, .int z113), (7, .int m_a), (10, .int m_o), (9, .int z91), (8, .int k_g), (0, .ref a_o), (1, .int p_b), (2, .int p_c), (3, .int p_h), (4, .int p_t)]) hx hb dX11_sooner_148 hl (by decide +kernel) rfl ?_
                    clear hl
                    intro ls hl
                    refine lv_iload hx hb dX11_sooner_150 (lv_at hl 10 rfl) ?_
                    refine lv_if_ne (tgt := 160) hx hb dX11_sooner_152 (by decide +kernel) (fun c_130 => ?_) (fun c_130 => ?_)
                    ·
                      have n_130 : gNe (p_t.toInt) (0) := g5_ne (a := p_t.toInt) (b := 0) rfl (by decide +kernel) c_130
                      have i_130 : p_t.toInt ≥ 1 := by have z := g5_ne (a := p_t.toInt) (b := 0) (by rfl) (by decide +kernel) c_130; omega
                      refine lv_iload hx hb dX11_sooner_160 (lv_at hl 10 rfl) ?_
                      refine lv_iconst (v := 1) hx hb dX11_sooner_162 (by decide +kernel) ?_
                      refine lv_icmp_ne (tgt := 171) hx hb dX11_sooner_163 (by decide +kernel) (fun c_131 => ?_) (fun c_131 => ?_)
                      ·
                        have n_131 : gNe (p_t.toInt) (1) := g5_ne (a := p_t.toInt) (b := 1) rfl (by decide +kernel) c_131
                        have i_131 : p_t.toInt ≥ 2 := by have z := g5_ne (a := p_t.toInt) (b := 1) (by rfl) (by decide +kernel) c_131; omega
                        refine lv_iload hx hb dX11_sooner_171 (lv_at hl 3 rfl) ?_
                        refine lv_istore (lv' := [(7, .int m_o), (6, .int z113), (11, .int z113), (10, .int m_o), (9, .int z91), (8, .int k_g), (0, .ref a_o), (1, .int p_b), (2, .int p_c), (3, .int p_h), (4, .int p_t)]) hx hb dX11_sooner_173 hl (by decide +kernel) rfl ?_
                        clear hl
                        intro ls hl
                        refine lv_iinc (v := (m_o + 1)) (lv' := [(10, .int (m_o + 1)), (7, .int m_o), (6, .int z113), (11, .int z113), (9, .int z91), (8, .int k_g), (0, .ref a_o), (1, .int p_b), (2, .int p_c), (3, .int p_h), (4, .int p_t)]) hx hb dX11_sooner_175 hl (k := 3) rfl rfl (by decide +kernel) rfl ?_
                        clear hl
                        intro ls hl
                        have t_132 : (m_o + 1).toInt = m_o.toInt + 1 := g5_iadd (a := m_o.toInt) (b := 1) rfl (by decide +kernel) (by omega) (by omega)
                        refine lv_goto (tgt := 91) hx hb dX11_sooner_178 (by decide +kernel) ?_
                        exact ih_91_100 (z113, m_o, (m_o + 1), z115, z116, z117, z118, z119, z120, z121, z122, z123, z124, z125, z126, z114, z107) ls H locs (show Int.toNat (6 - (m_o + 1).toInt) < Int.toNat (6 - m_o.toInt) from g_up (show m_o.toInt < (m_o + 1).toInt by omega) (show m_o.toInt < 6 by omega)) ⟨lv_sub hl [2, 1, 0, 4, 5, 6, 7, 8, 9, 10] rfl, hP.sub [0, 1, 2, 5, 6, 7, 8, 9, 10, 11, 12, 13, 14, 15, 16, 17, 3, 4] rfl, hD.sub [0, 1, 2, 5, 6, 7, 8, 9, 10, 11, 12, 13, 14, 15, 16, 17, 3, 4] (by decide +kernel) rfl, hS, ⟨by omega, by omega⟩, ⟨by omega, by omega⟩, i_110, fun r c h9 => by rw [i_106, so_in ⟨by omega, by omega⟩ h9]; exact i_97 r c h9, hgk_108, hgi_108⟩
                      ·
                        have i_131 : p_t.toInt = 1 := g5_neN (a := p_t.toInt) (b := 1) rfl (by decide +kernel) c_131
                        refine lv_iload hx hb dX11_sooner_166 (lv_at hl 5 rfl) ?_
                        refine lv_goto (tgt := 173) hx hb dX11_sooner_168 (by decide +kernel) ?_
                        refine lv_istore (lv' := [(7, .int k_g), (6, .int z113), (11, .int z113), (10, .int m_o), (9, .int z91), (8, .int k_g), (0, .ref a_o), (1, .int p_b), (2, .int p_c), (3, .int p_h), (4, .int p_t)]) hx hb dX11_sooner_173 hl (by decide +kernel) rfl ?_
                        clear hl
                        intro ls hl
                        refine lv_iinc (v := (m_o + 1)) (lv' := [(10, .int (m_o + 1)), (7, .int k_g), (6, .int z113), (11, .int z113), (9, .int z91), (8, .int k_g), (0, .ref a_o), (1, .int p_b), (2, .int p_c), (3, .int p_h), (4, .int p_t)]) hx hb dX11_sooner_175 hl (k := 3) rfl rfl (by decide +kernel) rfl ?_
                        clear hl
                        intro ls hl
                        have t_133 : (m_o + 1).toInt = m_o.toInt + 1 := g5_iadd (a := m_o.toInt) (b := 1) rfl (by decide +kernel) (by omega) (by omega)
                        refine W.eq (g2 := F0 m 178 ls []) rfl ?_
                        refine lv_goto (tgt := 91) hx hb dX11_sooner_178 (by decide +kernel) ?_
                        exact ih_91_100 (z113, k_g, (m_o + 1), z115, z116, z117, z118, z119, z120, z121, z122, z123, z124, z125, z126, z114, z107) ls H locs (show Int.toNat (6 - (m_o + 1).toInt) < Int.toNat (6 - m_o.toInt) from g_up (show m_o.toInt < (m_o + 1).toInt by omega) (show m_o.toInt < 6 by omega)) ⟨lv_sub hl [2, 1, 0, 4, 5, 6, 7, 8, 9, 10] rfl, hP.sub [0, 1, 2, 5, 6, 7, 8, 9, 10, 11, 12, 13, 14, 15, 16, 17, 3, 4] rfl, hD.sub [0, 1, 2, 5, 6, 7, 8, 9, 10, 11, 12, 13, 14, 15, 16, 17, 3, 4] (by decide +kernel) rfl, hS, ⟨by omega, by omega⟩, ⟨by omega, by omega⟩, i_110, fun r c h9 => by rw [i_106, so_in ⟨by omega, by omega⟩ h9]; exact i_97 r c h9, hgk_108, hgi_108⟩
                    ·
                      have i_130 : p_t.toInt = 0 := g5_neN (a := p_t.toInt) (b := 0) rfl (by decide +kernel) c_130
                      refine lv_iload hx hb dX11_sooner_155 (lv_at hl 1 rfl) ?_
                      refine lv_goto (tgt := 173) hx hb dX11_sooner_157 (by decide +kernel) ?_
                      refine lv_istore (lv' := [(7, .int z113), (6, .int z113), (11, .int z113), (10, .int m_o), (9, .int z91), (8, .int k_g), (0, .ref a_o), (1, .int p_b), (2, .int p_c), (3, .int p_h), (4, .int p_t)]) hx hb dX11_sooner_173 hl (by decide +kernel) rfl ?_
                      clear hl
                      intro ls hl
                      refine lv_iinc (v := (m_o + 1)) (lv' := [(10, .int (m_o + 1)), (7, .int z113), (6, .int z113), (11, .int z113), (9, .int z91), (8, .int k_g), (0, .ref a_o), (1, .int p_b), (2, .int p_c), (3, .int p_h), (4, .int p_t)]) hx hb dX11_sooner_175 hl (k := 3) rfl rfl (by decide +kernel) rfl ?_
                      clear hl
                      intro ls hl
                      have t_134 : (m_o + 1).toInt = m_o.toInt + 1 := g5_iadd (a := m_o.toInt) (b := 1) rfl (by decide +kernel) (by omega) (by omega)
                      refine W.eq (g2 := F0 m 178 ls []) rfl ?_
                      refine lv_goto (tgt := 91) hx hb dX11_sooner_178 (by decide +kernel) ?_
                      exact ih_91_100 (z113, z113, (m_o + 1), z115, z116, z117, z118, z119, z120, z121, z122, z123, z124, z125, z126, z114, z107) ls H locs (show Int.toNat (6 - (m_o + 1).toInt) < Int.toNat (6 - m_o.toInt) from g_up (show m_o.toInt < (m_o + 1).toInt by omega) (show m_o.toInt < 6 by omega)) ⟨lv_sub hl [2, 1, 0, 4, 5, 6, 7, 8, 9, 10] rfl, hP.sub [0, 1, 2, 5, 6, 7, 8, 9, 10, 11, 12, 13, 14, 15, 16, 17, 3, 4] rfl, hD.sub [0, 1, 2, 5, 6, 7, 8, 9, 10, 11, 12, 13, 14, 15, 16, 17, 3, 4] (by decide +kernel) rfl, hS, ⟨by omega, by omega⟩, ⟨by omega, by omega⟩, i_110, fun r c h9 => by rw [i_106, so_in ⟨by omega, by omega⟩ h9]; exact i_97 r c h9, hgk_108, hgi_108⟩
                ·
                  have i_109 : m_o.toInt = z91.toInt := g5_neN (a := m_o.toInt) (b := z91.toInt) rfl rfl c_109
                  refine lv_iconst (v := (-1)) hx hb dX11_sooner_120 (by decide +kernel) ?_
                  refine lv_goto (tgt := 138) hx hb dX11_sooner_121 (by decide +kernel) ?_
                  refine lv_istore (lv' := [(11, .int (-1)), (6, .int m_t), (7, .int m_a), (10, .int m_o), (9, .int z91), (8, .int k_g), (0, .ref a_o), (1, .int p_b), (2, .int p_c), (3, .int p_h), (4, .int p_t)]) hx hb dX11_sooner_138 hl (by decide +kernel) rfl ?_
                  clear hl
                  intro ls hl
                  refine lv_iload hx hb dX11_sooner_140 (lv_at hl 0 rfl) ?_
                  refine W.eq (g2 := F0 m 142 ls [.int (-1)]) rfl ?_
                  refine lv_iconst (v := (-1)) hx hb dX11_sooner_142 (by decide +kernel) ?_
                  refine lv_icmp_eq (tgt := 175) hx hb dX11_sooner_143 (by decide +kernel) (fun c_135 => ?_) (fun c_135 => ?_)
                  ·
                    refine lv_iinc (v := (m_o + 1)) (lv' := [(10, .int (m_o + 1)), (11, .int (-1)), (6, .int m_t), (7, .int m_a), (9, .int z91), (8, .int k_g), (0, .ref a_o), (1, .int p_b), (2, .int p_c), (3, .int p_h), (4, .int p_t)]) hx hb dX11_sooner_175 hl (k := 3) rfl rfl (by decide +kernel) rfl ?_
                    clear hl
                    intro ls hl
                    have t_136 : (m_o + 1).toInt = m_o.toInt + 1 := g5_iadd (a := m_o.toInt) (b := 1) rfl (by decide +kernel) (by omega) (by omega)
                    refine lv_goto (tgt := 91) hx hb dX11_sooner_178 (by decide +kernel) ?_
                    exact ih_91_100 (m_t, m_a, (m_o + 1), m_se, m_lh, m_br, m_we, m_me, m_ce, m_wy, m_ho, m_ov, m_pt, m_as, m_sk, m_ln, z107) ls H locs (show Int.toNat (6 - (m_o + 1).toInt) < Int.toNat (6 - m_o.toInt) from g_up (show m_o.toInt < (m_o + 1).toInt by omega) (show m_o.toInt < 6 by omega)) ⟨lv_sub hl [2, 3, 0, 4, 5, 6, 7, 8, 9, 10] rfl, hP, hD, hS, i_94, ⟨by omega, by omega⟩, i_96, fun r c h9 => by rw [i_106, so_in ⟨by omega, by omega⟩ h9]; exact i_97 r c h9, hgk_108, hgi_108⟩
                  ·
                    exact absurd c_135 (by decide +kernel)
        ·
          have i_5 : p_t.toInt > 2 := g5_leN (a := p_t.toInt) (b := 2) rfl (by decide +kernel) c_5
          refine lv_iconst (v := (-1)) hx hb dX11_sooner_21 (by decide +kernel) ?_
          exact W.iret (v := (-1)) hx hb hr (fun t ht hW => ⟨⟨(-1), [(a_o, (oc11 a_h a_im a_ke a_k a_wa a_th a_ha a_wk a_r a_x e_tl e_fd e_fpl a_wd e_wn a_rf e_lr)), (a_k, (oc5 a_h a_j a_pt e_ln e_se e_lh e_br e_we e_me e_ce e_wy e_ho e_ov)), (a_h, (oc1 e_wa e_le e_st e_fo e_lc a_l a_g a_b a_s a_p a_w e_gb a_bb)), (a_g, (oc6 6 5 a_gn e_g)), (a_gn, (arI G 30 f_g)), (a_b, (oc6 5 24 a_bn e_b)), (a_bn, (arI G 120 f_b)), (a_p, (oc6 8 5 a_pn e_p)), (a_pn, (arI G 40 f_p)), (a_bb, (arJ G 24 f_bb)), (a_j, (oc2 a_as a_sk)), (a_as, (arI G 8 f_as)), (a_sk, (arJ G 50 f_sk)), (a_l, (arW G 6 f_l)), (a_pt, (arI G 200 f_pt)), (a_wk, (oc9 a_h a_k a_go a_mt)), (a_go, (arJ G 24 f_go)), (a_mt, (arI G 1536 f_mt))], rfl, ⟨(-1), e_ln, e_se, e_lh, e_br, e_we, e_me, e_ce, e_wy, e_ho, e_ov, f_pt, f_as, f_sk, f_go, f_mt, f_g, h_e_ov, e_gk, e_gi, fun _ _ => rfl, rfl, rfl⟩, by rw [ht]; exact hP.sub [15, 0, 16, 1, 2, 17, 3, 4, 5, 6, 7, 8, 9, 10, 11, 12, 13, 14] rfl, hD.sub [15, 0, 16, 1, 2, 17, 3, 4, 5, 6, 7, 8, 9, 10, 11, 12, 13, 14] (by decide +kernel) rfl⟩, hS.F ht⟩) hS.2.2 dX11_sooner_22
  ·
    have hJ9 := va_join (wr := [(a_k, (oc5 a_h a_j a_pt e_ln e_se e_lh e_br e_we e_me e_ce e_wy e_ho e_ov)), (a_g, (oc6 6 5 a_gn e_g)), (a_gn, (arI G 30 f_g)), (a_bn, (arI G 120 f_b)), (a_p, (oc6 8 5 a_pn e_p)), (a_pn, (arI G 40 f_p)), (a_bb, (arJ G 24 f_bb)), (a_j, (oc2 a_as a_sk)), (a_as, (arI G 8 f_as)), (a_sk, (arJ G 50 f_sk)), (a_l, (arW G 6 f_l)), (a_pt, (arI G 200 f_pt)), (a_wk, (oc9 a_h a_k a_go a_mt)), (a_go, (arJ G 24 f_go)), (a_mt, (arI G 1536 f_mt))]) hP hD [0, 2, 5] [1, 3, 4, 6, 7, 8, 9, 10, 11, 12, 13, 14, 15, 16, 17] rfl rfl (by decide +kernel) (by decide +kernel) hk1 hFc hP1 hD1
    clear hP hD hPc hDc hFc ht hvm hz1 hk1 hP1 hD1
    obtain ⟨hP, hD⟩ := hJ9
    refine g5_rs [(a_k, (oc5 a_h a_j a_pt e_ln e_se e_lh e_br e_we e_me e_ce e_wy e_ho e_ov)), (a_g, (oc6 6 5 a_gn e_g)), (a_gn, (arI G 30 f_g)), (a_bn, (arI G 120 f_b)), (a_p, (oc6 8 5 a_pn e_p)), (a_pn, (arI G 40 f_p)), (a_bb, (arJ G 24 f_bb)), (a_j, (oc2 a_as a_sk)), (a_as, (arI G 8 f_as)), (a_sk, (arJ G 50 f_sk)), (a_l, (arW G 6 f_l)), (a_pt, (arI G 200 f_pt)), (a_wk, (oc9 a_h a_k a_go a_mt)), (a_go, (arJ G 24 f_go)), (a_mt, (arI G 1536 f_mt)), (a_o, (oc11 a_h a_im a_ke a_k a_wa a_th a_ha a_wk a_r a_x e_tl e_fd e_fpl a_wd e_wn a_rf e_lr)), (a_h, (oc1 e_wa e_le e_st e_fo e_lc a_l a_g a_b a_s a_p a_w e_gb a_bb)), (a_b, (oc6 5 24 a_bn e_b))] hP hD ?_
    clear hP hD
    intro hP hD
    refine lv_if_eq (tgt := 21) hx hb dX11_sooner_7 (by decide +kernel) (fun c_137 => ?_) (fun c_137 => ?_)
    ·
      refine lv_iconst (v := (-1)) hx hb dX11_sooner_21 (by decide +kernel) ?_
      exact W.iret (v := (-1)) hx hb hr (fun t ht hW => ⟨⟨(-1), [(a_o, (oc11 a_h a_im a_ke a_k a_wa a_th a_ha a_wk a_r a_x e_tl e_fd e_fpl a_wd e_wn a_rf e_lr)), (a_k, (oc5 a_h a_j a_pt e_ln e_se e_lh e_br e_we e_me e_ce e_wy e_ho e_ov)), (a_h, (oc1 e_wa e_le e_st e_fo e_lc a_l a_g a_b a_s a_p a_w e_gb a_bb)), (a_g, (oc6 6 5 a_gn e_g)), (a_gn, (arI G 30 f_g)), (a_b, (oc6 5 24 a_bn e_b)), (a_bn, (arI G 120 f_b)), (a_p, (oc6 8 5 a_pn e_p)), (a_pn, (arI G 40 f_p)), (a_bb, (arJ G 24 f_bb)), (a_j, (oc2 a_as a_sk)), (a_as, (arI G 8 f_as)), (a_sk, (arJ G 50 f_sk)), (a_l, (arW G 6 f_l)), (a_pt, (arI G 200 f_pt)), (a_wk, (oc9 a_h a_k a_go a_mt)), (a_go, (arJ G 24 f_go)), (a_mt, (arI G 1536 f_mt))], rfl, ⟨(-1), e_ln, e_se, e_lh, e_br, e_we, e_me, e_ce, e_wy, e_ho, e_ov, f_pt, f_as, f_sk, f_go, f_mt, f_g, h_e_ov, e_gk, e_gi, fun _ _ => rfl, rfl, rfl⟩, by rw [ht]; exact hP.sub [15, 0, 16, 1, 2, 17, 3, 4, 5, 6, 7, 8, 9, 10, 11, 12, 13, 14] rfl, hD.sub [15, 0, 16, 1, 2, 17, 3, 4, 5, 6, 7, 8, 9, 10, 11, 12, 13, 14] (by decide +kernel) rfl⟩, hS.F ht⟩) hS.2.2 dX11_sooner_22
    ·
      exact absurd c_137 (by decide +kernel)
set_option maxHeartbeats 4000000 in
set_option maxRecDepth 100000 in
theorem x_soonerL (l : Launch) (G : g5_G) (a_o a_k a_h a_g a_gn a_b a_bn a_p a_pn a_bb a_j a_as a_sk a_l a_lo a_sr a_cd a_hd a_pt a_wk a_go a_mt a_im a_ke a_wa a_th a_ha a_r a_x a_wd a_rf a_s a_w : Nat) (sz : Nat) (e_tl : Int32) (e_fd : Int32) (e_fpl : Int32) (e_wn : Int32) (e_lr : Int32) (e_le : Int32) (e_st : Int32) (e_fo : Int32) (e_lc : Int32) (e_g : Int32) (e_b : Int32) (e_p : Int32) (e_cl : Int32) (e_ln : Int32) (e_se : Int32) (e_lh : Int32) (e_br : Int32) (e_we : Int32) (e_me : Int32) (e_ce : Int32) (e_wy : Int32) (e_ho : Int32) (e_ov : Int32) (p_b : Int32) (p_c : Int32) (p_h : Int32) (p_t : Int32) (e_wa : Int64) (e_gb : Int64) (f_g : Nat → Int32) (f_b : Nat → Int32) (f_p : Nat → Int32) (f_bb : Nat → Int64) (f_as : Nat → Int32) (f_sk : Nat → Int64) (f_l : Nat → Option Nat) (f_sr : Nat → Int32) (f_cd : Nat → Int32) (f_hd : Nat → Int32) (f_pt : Nat → Int32) (f_go : Nat → Int64) (f_mt : Nat → Int32) (n_sr : Nat) (n_cd : Nat) (n_hd : Nat) (h_e_tl : 0 ≤ e_tl.toInt ∧ e_tl.toInt ≤ 400) (h_e_wn : 0 ≤ e_wn.toInt ∧ e_wn.toInt ≤ 1) (h_e_g : 0 ≤ e_g.toInt ∧ e_g.toInt ≤ 6) (h_e_b : 0 ≤ e_b.toInt ∧ e_b.toInt ≤ 5) (h_e_p : 0 ≤ e_p.toInt ∧ e_p.toInt ≤ 8) (h_e_cl : 0 ≤ e_cl.toInt ∧ e_cl.toInt ≤ 12) (h_e_ov : 0 ≤ e_ov.toInt ∧ e_ov.toInt ≤ 1) (e_gk : gOK f_g e_g.toInt) (e_pk : gOK f_p e_p.toInt) (e_gi : inT e_gb f_g e_g.toInt) (e_f : 0 ≤ e_fo.toInt ∧ e_fo.toInt < e_lc.toInt ∧ e_lc.toInt ≤ 6) (e_a : f_l e_fo.toNatClampNeg = some a_lo) (e_hn : n_cd ≤ 400) (e_hs : ∀ j : Nat, j < n_sr → 0 ≤ (f_sr j).toInt ∧ (f_sr j).toInt ≤ (n_cd : Int)) (e_hk : ∀ j : Nat, j < n_cd → (f_cd j >>> (12 &&& 31)).toInt = 1 → (f_cd j &&& 4095).toInt < 8) (e_c : (e_cl.toInt : Int) ≤ (n_hd : Int) ∧ (e_cl.toInt + 1 : Int) ≤ (n_sr : Int)) : Met l yX11_sooner (wsG yX11_sooner cX11_sooner 12 (some .int)) ({ frames := 16, cells := 0, slots := 0, locals := 612 }) (va_Pc [.ref a_o, .int p_b, .int p_c, .int p_h, .int p_t] (g5_P G [(a_o, (oc11 a_h a_im a_ke a_k a_wa a_th a_ha a_wk a_r a_x e_tl e_fd e_fpl a_wd e_wn a_rf e_lr)), (a_k, (oc5 a_h a_j a_pt e_ln e_se e_lh e_br e_we e_me e_ce e_wy e_ho e_ov)), (a_h, (oc1 e_wa e_le e_st e_fo e_lc a_l a_g a_b a_s a_p a_w e_gb a_bb)), (a_g, (oc6 6 5 a_gn e_g)), (a_gn, (arI G 30 f_g)), (a_b, (oc6 5 24 a_bn e_b)), (a_bn, (arI G 120 f_b)), (a_p, (oc6 8 5 a_pn e_p)), (a_pn, (arI G 40 f_p)), (a_bb, (arJ G 24 f_bb)), (a_j, (oc2 a_as a_sk)), (a_as, (arI G 8 f_as)), (a_sk, (arJ G 50 f_sk)), (a_l, (arW G 6 f_l)), (a_lo, (oc3 e_cl a_hd a_sr a_cd)), (a_sr, (arI G n_sr f_sr)), (a_cd, (arI G n_cd f_cd)), (a_hd, (arI G n_hd f_hd)), (a_pt, (arI G 200 f_pt)), (a_wk, (oc9 a_h a_k a_go a_mt)), (a_go, (arJ G 24 f_go)), (a_mt, (arI G 1536 f_mt))] sz)) (va_Qi (fun (r : Int32) (u : va_W) => (∃ (o_r : Int32) (o_ln : Int32) (o_se : Int32) (o_lh : Int32) (o_br : Int32) (o_we : Int32) (o_me : Int32) (o_ce : Int32) (o_wy : Int32) (o_ho : Int32) (o_ov : Int32) (o_pt : Nat → Int32) (o_as : Nat → Int32) (o_sk : Nat → Int64) (o_go : Nat → Int64) (o_mt : Nat → Int32) (o_f : Nat → Int32), (0 ≤ o_ov.toInt ∧ o_ov.toInt ≤ 1) ∧ (gOK o_f e_g.toInt) ∧ (inT e_gb o_f e_g.toInt) ∧ (∀ r c : Int, tget o_f e_g.toInt 5 r c = tget f_g e_g.toInt 5 r c) ∧ (r = o_r) ∧ (u = [(a_o, (oc11 a_h a_im a_ke a_k a_wa a_th a_ha a_wk a_r a_x e_tl e_fd e_fpl a_wd e_wn a_rf e_lr)), (a_k, (oc5 a_h a_j a_pt o_ln o_se o_lh o_br o_we o_me o_ce o_wy o_ho o_ov)), (a_h, (oc1 e_wa e_le e_st e_fo e_lc a_l a_g a_b a_s a_p a_w e_gb a_bb)), (a_g, (oc6 6 5 a_gn e_g)), (a_gn, (arI G 30 o_f)), (a_b, (oc6 5 24 a_bn e_b)), (a_bn, (arI G 120 f_b)), (a_p, (oc6 8 5 a_pn e_p)), (a_pn, (arI G 40 f_p)), (a_bb, (arJ G 24 f_bb)), (a_j, (oc2 a_as a_sk)), (a_as, (arI G 8 o_as)), (a_sk, (arJ G 50 o_sk)), (a_l, (arW G 6 f_l)), (a_lo, (oc3 e_cl a_hd a_sr a_cd)), (a_sr, (arI G n_sr f_sr)), (a_cd, (arI G n_cd f_cd)), (a_hd, (arI G n_hd f_hd)), (a_pt, (arI G 200 o_pt)), (a_wk, (oc9 a_h a_k a_go a_mt)), (a_go, (arJ G 24 o_go)), (a_mt, (arI G 1536 o_mt))]))) (g5_B G (va_A [(a_o, (oc11 a_h a_im a_ke a_k a_wa a_th a_ha a_wk a_r a_x e_tl e_fd e_fpl a_wd e_wn a_rf e_lr)), (a_k, (oc5 a_h a_j a_pt e_ln e_se e_lh e_br e_we e_me e_ce e_wy e_ho e_ov)), (a_h, (oc1 e_wa e_le e_st e_fo e_lc a_l a_g a_b a_s a_p a_w e_gb a_bb)), (a_g, (oc6 6 5 a_gn e_g)), (a_gn, (arI G 30 f_g)), (a_b, (oc6 5 24 a_bn e_b)), (a_bn, (arI G 120 f_b)), (a_p, (oc6 8 5 a_pn e_p)), (a_pn, (arI G 40 f_p)), (a_bb, (arJ G 24 f_bb)), (a_j, (oc2 a_as a_sk)), (a_as, (arI G 8 f_as)), (a_sk, (arJ G 50 f_sk)), (a_l, (arW G 6 f_l)), (a_lo, (oc3 e_cl a_hd a_sr a_cd)), (a_sr, (arI G n_sr f_sr)), (a_cd, (arI G n_cd f_cd)), (a_hd, (arI G n_hd f_hd)), (a_pt, (arI G 200 f_pt)), (a_wk, (oc9 a_h a_k a_go a_mt)), (a_go, (arJ G 24 f_go)), (a_mt, (arI G 1536 f_mt))] sz)) (va_A [(a_o, (oc11 a_h a_im a_ke a_k a_wa a_th a_ha a_wk a_r a_x e_tl e_fd e_fpl a_wd e_wn a_rf e_lr)), (a_k, (oc5 a_h a_j a_pt e_ln e_se e_lh e_br e_we e_me e_ce e_wy e_ho e_ov)), (a_h, (oc1 e_wa e_le e_st e_fo e_lc a_l a_g a_b a_s a_p a_w e_gb a_bb)), (a_g, (oc6 6 5 a_gn e_g)), (a_gn, (arI G 30 f_g)), (a_b, (oc6 5 24 a_bn e_b)), (a_bn, (arI G 120 f_b)), (a_p, (oc6 8 5 a_pn e_p)), (a_pn, (arI G 40 f_p)), (a_bb, (arJ G 24 f_bb)), (a_j, (oc2 a_as a_sk)), (a_as, (arI G 8 f_as)), (a_sk, (arJ G 50 f_sk)), (a_l, (arW G 6 f_l)), (a_lo, (oc3 e_cl a_hd a_sr a_cd)), (a_sr, (arI G n_sr f_sr)), (a_cd, (arI G n_cd f_cd)), (a_hd, (arI G n_hd f_hd)), (a_pt, (arI G 200 f_pt)), (a_wk, (oc9 a_h a_k a_go a_mt)), (a_go, (arJ G 24 f_go)), (a_mt, (arI G 1536 f_mt))] sz)) 0 0 (va_A [(a_o, (oc11 a_h a_im a_ke a_k a_wa a_th a_ha a_wk a_r a_x e_tl e_fd e_fpl a_wd e_wn a_rf e_lr)), (a_k, (oc5 a_h a_j a_pt e_ln e_se e_lh e_br e_we e_me e_ce e_wy e_ho e_ov)), (a_h, (oc1 e_wa e_le e_st e_fo e_lc a_l a_g a_b a_s a_p a_w e_gb a_bb)), (a_g, (oc6 6 5 a_gn e_g)), (a_gn, (arI G 30 f_g)), (a_b, (oc6 5 24 a_bn e_b)), (a_bn, (arI G 120 f_b)), (a_p, (oc6 8 5 a_pn e_p)), (a_pn, (arI G 40 f_p)), (a_bb, (arJ G 24 f_bb)), (a_j, (oc2 a_as a_sk)), (a_as, (arI G 8 f_as)), (a_sk, (arJ G 50 f_sk)), (a_l, (arW G 6 f_l)), (a_lo, (oc3 e_cl a_hd a_sr a_cd)), (a_sr, (arI G n_sr f_sr)), (a_cd, (arI G n_cd f_cd)), (a_hd, (arI G n_hd f_hd)), (a_pt, (arI G 200 f_pt)), (a_wk, (oc9 a_h a_k a_go a_mt)), (a_go, (arJ G 24 f_go)), (a_mt, (arI G 1536 f_mt))] sz) := by
  refine Met.ofW (cc := cX11_sooner) (maxL := 12) (ret := (some .int)) (by decide +kernel) rfl ?_
  intro p e s m args below meth c s₁ B hml hv
  obtain ⟨rfl, hsz, hP, hK, hD0, hN, hT⟩ := hv
  have hx := B.exec
  have hb := B.bytes
  have hr := B.returns
  have hts : ∀ w ∈ tblG, w.before _ s = true := fun w h => atoms_spec (ws := (wsG yX11_sooner cX11_sooner 12 (some .int))) B.pre w (List.mem_cons_of_mem _ h)
  have hown : s.vm.findClass RX11 = some m.cls := findClass_of_methodNamed B.named
  have hlocks := B.notSynchronized
  subst hsz
  have hD := hD0.self (sz := s.heap.size)
  generalize hAe : va_A [(a_o, (oc11 a_h a_im a_ke a_k a_wa a_th a_ha a_wk a_r a_x e_tl e_fd e_fpl a_wd e_wn a_rf e_lr)), (a_k, (oc5 a_h a_j a_pt e_ln e_se e_lh e_br e_we e_me e_ce e_wy e_ho e_ov)), (a_h, (oc1 e_wa e_le e_st e_fo e_lc a_l a_g a_b a_s a_p a_w e_gb a_bb)), (a_g, (oc6 6 5 a_gn e_g)), (a_gn, (arI G 30 f_g)), (a_b, (oc6 5 24 a_bn e_b)), (a_bn, (arI G 120 f_b)), (a_p, (oc6 8 5 a_pn e_p)), (a_pn, (arI G 40 f_p)), (a_bb, (arJ G 24 f_bb)), (a_j, (oc2 a_as a_sk)), (a_as, (arI G 8 f_as)), (a_sk, (arJ G 50 f_sk)), (a_l, (arW G 6 f_l)), (a_lo, (oc3 e_cl a_hd a_sr a_cd)), (a_sr, (arI G n_sr f_sr)), (a_cd, (arI G n_cd f_cd)), (a_hd, (arI G n_hd f_hd)), (a_pt, (arI G 200 f_pt)), (a_wk, (oc9 a_h a_k a_go a_mt)), (a_go, (arJ G 24 f_go)), (a_mt, (arI G 1536 f_mt))] s.heap.size = A at hD hT ⊢
  have hA : ∀ q : Nat, s.heap.size ≤ q → A q := fun q h => by rw [← hAe]; exact Or.inr h
  have hS : va_S A s.heap s.heap [] := va_S.rf
  replace hP : va_P G.1 vwCl [(a_o, (oc11 a_h a_im a_ke a_k a_wa a_th a_ha a_wk a_r a_x e_tl e_fd e_fpl a_wd e_wn a_rf e_lr)), (a_k, (oc5 a_h a_j a_pt e_ln e_se e_lh e_br e_we e_me e_ce e_wy e_ho e_ov)), (a_h, (oc1 e_wa e_le e_st e_fo e_lc a_l a_g a_b a_s a_p a_w e_gb a_bb)), (a_g, (oc6 6 5 a_gn e_g)), (a_gn, (arI G 30 f_g)), (a_b, (oc6 5 24 a_bn e_b)), (a_bn, (arI G 120 f_b)), (a_p, (oc6 8 5 a_pn e_p)), (a_pn, (arI G 40 f_p)), (a_bb, (arJ G 24 f_bb)), (a_j, (oc2 a_as a_sk)), (a_as, (arI G 8 f_as)), (a_sk, (arJ G 50 f_sk)), (a_l, (arW G 6 f_l)), (a_lo, (oc3 e_cl a_hd a_sr a_cd)), (a_sr, (arI G n_sr f_sr)), (a_cd, (arI G n_cd f_cd)), (a_hd, (arI G n_hd f_hd)), (a_pt, (arI G 200 f_pt)), (a_wk, (oc9 a_h a_k a_go a_mt)), (a_go, (arJ G 24 f_go)), (a_mt, (arI G 1536 f_mt))] s.heap := hP
  have hl := lv_entry ([.ref a_o, .int p_b, .int p_c, .int p_h, .int p_t]) (n := 12) (Nat.le_of_ble_eq_true rfl)
  rw [lg_entry_eq]
  generalize (lg_sl ([.ref a_o, .int p_b, .int p_c, .int p_h, .int p_t]) ++ List.replicate (12 - (lg_sl ([.ref a_o, .int p_b, .int p_c, .int p_h, .int p_t])).length) Slot.unset).toArray = ls at hl ⊢
  replace hl : lv_has ls 12 [(0, .ref a_o), (1, .int p_b), (2, .int p_c), (3, .int p_h), (4, .int p_t)] := hl
  refine lv_aload_n hx hb dX11_sooner_0 rfl (lv_at hl 0 rfl) ?_
  refine lv_iload_n hx hb dX11_sooner_1 rfl (lv_at hl 1 rfl) ?_
  refine lv_iload_n hx hb dX11_sooner_2 rfl (lv_at hl 2 rfl) ?_
  refine lv_iload_n hx hb dX11_sooner_3 rfl (lv_at hl 3 rfl) ?_
  refine W.eq (g2 := F0 m 4 ls [.int p_h, .int p_c, .int p_b, .ref a_o]) rfl ?_
  obtain ⟨hPc, hDc, hFc⟩ := g5_sub3 (wc := [(a_o, (oc11 a_h a_im a_ke a_k a_wa a_th a_ha a_wk a_r a_x e_tl e_fd e_fpl a_wd e_wn a_rf e_lr)), (a_h, (oc1 e_wa e_le e_st e_fo e_lc a_l a_g a_b a_s a_p a_w e_gb a_bb)), (a_b, (oc6 5 24 a_bn e_b))]) hP hD hS hA [0, 2, 5] (by decide +kernel) rfl
  refine va_calli (va_runV (As := [.int p_b, .int p_c, .int p_h]) (rest := []) ⟨hx, hb, hml, hown, hts⟩ (x_canWalk l G a_o a_h a_b a_im a_ke a_k a_wa a_th a_ha a_wk a_r a_x a_wd a_rf a_l a_g a_s a_p a_w a_bb a_bn s.heap.size e_tl e_fd e_fpl e_wn e_lr e_le e_st e_fo e_lc e_b p_b p_c p_h e_wa e_gb h_e_tl h_e_wn h_e_b) (cwV 3 hts gV_X11_327 rfl rfl rfl hv_X11_canWalk ⟨Nat.le_of_ble_eq_true rfl, Nat.le_of_ble_eq_true rfl⟩) (g5_preV hPc hK hDc hN hT hS hFc (ci := 11) (q0 := 0) rfl rfl) rfl rfl hl.1 rfl (lv_room (Nat.le_of_ble_eq_true rfl)) dX11_sooner_4 ⟨Nat.le_of_ble_eq_true rfl, Nat.le_of_ble_eq_true rfl⟩) hS (fun q _ h => hFc q h) hFc (fun r u t H locs ht hvm hw hB hz1 hk1 hS => ?_)
  obtain ⟨hP1, hD1⟩ := hB
  have hP1 := g5_ht ht hP1
  rcases hw with ⟨(i_1 : 0 ≤ p_c.toInt ∧ p_c.toInt ≤ 63), (i_2 : 0 ≤ p_h.toInt ∧ p_h.toInt ≤ 23), rfl, rfl⟩ | ⟨rfl, rfl⟩
  ·
    have hJ9 := va_join (wr := [(a_k, (oc5 a_h a_j a_pt e_ln e_se e_lh e_br e_we e_me e_ce e_wy e_ho e_ov)), (a_g, (oc6 6 5 a_gn e_g)), (a_gn, (arI G 30 f_g)), (a_bn, (arI G 120 f_b)), (a_p, (oc6 8 5 a_pn e_p)), (a_pn, (arI G 40 f_p)), (a_bb, (arJ G 24 f_bb)), (a_j, (oc2 a_as a_sk)), (a_as, (arI G 8 f_as)), (a_sk, (arJ G 50 f_sk)), (a_l, (arW G 6 f_l)), (a_lo, (oc3 e_cl a_hd a_sr a_cd)), (a_sr, (arI G n_sr f_sr)), (a_cd, (arI G n_cd f_cd)), (a_hd, (arI G n_hd f_hd)), (a_pt, (arI G 200 f_pt)), (a_wk, (oc9 a_h a_k a_go a_mt)), (a_go, (arJ G 24 f_go)), (a_mt, (arI G 1536 f_mt))]) hP hD [0, 2, 5] [1, 3, 4, 6, 7, 8, 9, 10, 11, 12, 13, 14, 15, 16, 17, 18, 19, 20, 21] rfl rfl (by decide +kernel) (by decide +kernel) hk1 hFc hP1 hD1
    clear hP hD hPc hDc hFc ht hvm hz1 hk1 hP1 hD1
    obtain ⟨hP, hD⟩ := hJ9
    refine g5_rs [(a_k, (oc5 a_h a_j a_pt e_ln e_se e_lh e_br e_we e_me e_ce e_wy e_ho e_ov)), (a_g, (oc6 6 5 a_gn e_g)), (a_gn, (arI G 30 f_g)), (a_bn, (arI G 120 f_b)), (a_p, (oc6 8 5 a_pn e_p)), (a_pn, (arI G 40 f_p)), (a_bb, (arJ G 24 f_bb)), (a_j, (oc2 a_as a_sk)), (a_as, (arI G 8 f_as)), (a_sk, (arJ G 50 f_sk)), (a_l, (arW G 6 f_l)), (a_lo, (oc3 e_cl a_hd a_sr a_cd)), (a_sr, (arI G n_sr f_sr)), (a_cd, (arI G n_cd f_cd)), (a_hd, (arI G n_hd f_hd)), (a_pt, (arI G 200 f_pt)), (a_wk, (oc9 a_h a_k a_go a_mt)), (a_go, (arJ G 24 f_go)), (a_mt, (arI G 1536 f_mt)), (a_o, (oc11 a_h a_im a_ke a_k a_wa a_th a_ha a_wk a_r a_x e_tl e_fd e_fpl a_wd e_wn a_rf e_lr)), (a_h, (oc1 e_wa e_le e_st e_fo e_lc a_l a_g a_b a_s a_p a_w e_gb a_bb)), (a_b, (oc6 5 24 a_bn e_b))] hP hD ?_
    clear hP hD
    intro hP hD
    refine lv_if_eq (tgt := 21) hx hb dX11_sooner_7 (by decide +kernel) (fun c_3 => ?_) (fun c_3 => ?_)
    ·
      exact absurd c_3 (by decide +kernel)
    ·
      refine lv_iload hx hb dX11_sooner_10 (lv_at hl 4 rfl) ?_
      refine lv_if_lt (tgt := 21) hx hb dX11_sooner_12 (by decide +kernel) (fun c_4 => ?_) (fun c_4 => ?_)
      ·
        have i_4 : p_t.toInt < 0 := g5_lt (a := p_t.toInt) (b := 0) rfl (by decide +kernel) c_4
        refine lv_iconst (v := (-1)) hx hb dX11_sooner_21 (by decide +kernel) ?_
        exact W.iret (v := (-1)) hx hb hr (fun t ht hW => ⟨⟨(-1), [(a_o, (oc11 a_h a_im a_ke a_k a_wa a_th a_ha a_wk a_r a_x e_tl e_fd e_fpl a_wd e_wn a_rf e_lr)), (a_k, (oc5 a_h a_j a_pt e_ln e_se e_lh e_br e_we e_me e_ce e_wy e_ho e_ov)), (a_h, (oc1 e_wa e_le e_st e_fo e_lc a_l a_g a_b a_s a_p a_w e_gb a_bb)), (a_g, (oc6 6 5 a_gn e_g)), (a_gn, (arI G 30 f_g)), (a_b, (oc6 5 24 a_bn e_b)), (a_bn, (arI G 120 f_b)), (a_p, (oc6 8 5 a_pn e_p)), (a_pn, (arI G 40 f_p)), (a_bb, (arJ G 24 f_bb)), (a_j, (oc2 a_as a_sk)), (a_as, (arI G 8 f_as)), (a_sk, (arJ G 50 f_sk)), (a_l, (arW G 6 f_l)), (a_lo, (oc3 e_cl a_hd a_sr a_cd)), (a_sr, (arI G n_sr f_sr)), (a_cd, (arI G n_cd f_cd)), (a_hd, (arI G n_hd f_hd)), (a_pt, (arI G 200 f_pt)), (a_wk, (oc9 a_h a_k a_go a_mt)), (a_go, (arJ G 24 f_go)), (a_mt, (arI G 1536 f_mt))], rfl, ⟨(-1), e_ln, e_se, e_lh, e_br, e_we, e_me, e_ce, e_wy, e_ho, e_ov, f_pt, f_as, f_sk, f_go, f_mt, f_g, h_e_ov, e_gk, e_gi, fun _ _ => rfl, rfl, rfl⟩, by rw [ht]; exact hP.sub [19, 0, 20, 1, 2, 21, 3, 4, 5, 6, 7, 8, 9, 10, 11, 12, 13, 14, 15, 16, 17, 18] rfl, hD.sub [19, 0, 20, 1, 2, 21, 3, 4, 5, 6, 7, 8, 9, 10, 11, 12, 13, 14, 15, 16, 17, 18] (by decide +kernel) rfl⟩, hS.F ht⟩) hS.2.2 dX11_sooner_22
      ·
        have i_4 : p_t.toInt ≥ 0 := g5_ltN (a := p_t.toInt) (b := 0) rfl (by decide +kernel) c_4
        refine lv_iload hx hb dX11_sooner_15 (lv_at hl 4 rfl) ?_
        refine lv_iconst (v := 2) hx hb dX11_sooner_17 (by decide +kernel) ?_
        refine lv_icmp_le (tgt := 23) hx hb dX11_sooner_18 (by decide +kernel) (fun c_5 => ?_) (fun c_5 => ?_)
        ·
          have i_5 : p_t.toInt ≤ 2 := g5_le (a := p_t.toInt) (b := 2) rfl (by decide +kernel) c_5
          refine lv_aload_n hx hb dX11_sooner_23 rfl (lv_at hl 0 rfl) ?_
          refine va_get (D := G.1) (ci := 11) (v := .ref a_wk) (C := RX11) (T := TX11) (N := 17) hx hb hts inG_X11 hown hK hP 19 rfl rfl 7 (by decide +kernel) (hts _ fl_X11_59) (fun _ h9 => h9) rfl dX11_sooner_24 ?_
          refine lv_iload_n hx hb dX11_sooner_27 rfl (lv_at hl 1 rfl) ?_
          refine lv_iload_n hx hb dX11_sooner_28 rfl (lv_at hl 2 rfl) ?_
          refine W.eq (g2 := F0 m 29 ls [.int p_c, .int p_b, .ref a_wk]) rfl ?_
          refine lv_iload_n hx hb dX11_sooner_29 rfl (lv_at hl 3 rfl) ?_
          refine lv_bipush (v := 24) hx hb dX11_sooner_30 (by decide +kernel) ?_
          obtain ⟨hPc, hDc, hFc⟩ := g5_sub3 (wc := [(a_k, (oc5 a_h a_j a_pt e_ln e_se e_lh e_br e_we e_me e_ce e_wy e_ho e_ov)), (a_h, (oc1 e_wa e_le e_st e_fo e_lc a_l a_g a_b a_s a_p a_w e_gb a_bb)), (a_g, (oc6 6 5 a_gn e_g)), (a_gn, (arI G 30 f_g)), (a_b, (oc6 5 24 a_bn e_b)), (a_bn, (arI G 120 f_b)), (a_p, (oc6 8 5 a_pn e_p)), (a_pn, (arI G 40 f_p)), (a_bb, (arJ G 24 f_bb)), (a_j, (oc2 a_as a_sk)), (a_as, (arI G 8 f_as)), (a_sk, (arJ G 50 f_sk)), (a_l, (arW G 6 f_l)), (a_lo, (oc3 e_cl a_hd a_sr a_cd)), (a_sr, (arI G n_sr f_sr)), (a_cd, (arI G n_cd f_cd)), (a_hd, (arI G n_hd f_hd)), (a_pt, (arI G 200 f_pt)), (a_wk, (oc9 a_h a_k a_go a_mt)), (a_go, (arJ G 24 f_go)), (a_mt, (arI G 1536 f_mt))]) hP hD hS hA [0, 20, 1, 2, 21, 3, 4, 5, 6, 7, 8, 9, 10, 11, 12, 13, 14, 15, 16, 17, 18] (by decide +kernel) rfl
          refine va_calli (va_runV (As := [.int p_b, .int p_c, .int p_h, .int 24]) (rest := []) ⟨hx, hb, hml, hown, hts⟩ (a_firstL l G a_k a_h a_g a_gn a_b a_bn a_p a_pn a_bb a_j a_as a_sk a_l a_lo a_sr a_cd a_hd a_pt a_wk a_go a_mt a_s a_w H.size e_le e_st e_fo e_lc e_g e_b e_p e_cl e_ln e_se e_lh e_br e_we e_me e_ce e_wy e_ho e_ov p_b p_c p_h 24 e_wa e_gb f_g f_b f_p f_bb f_as f_sk f_l f_sr f_cd f_hd f_pt f_go f_mt n_sr n_cd n_hd h_e_g h_e_b h_e_p h_e_cl h_e_ov i_1 i_2 ⟨by decide, by decide⟩ (e_gk) (e_pk) (e_gi) (e_f) (e_a) (e_hn) (e_hs) (e_hk) (e_c)) (cwV 4 hts gV_X11_330 rfl rfl rfl hv_X9_firstSight ⟨Nat.le_of_ble_eq_true rfl, Nat.le_of_ble_eq_true rfl⟩) (g5_preV hPc hK hDc hN hT hS hFc (ci := 9) (q0 := 18) rfl rfl) rfl rfl hl.1 rfl (lv_room (Nat.le_of_ble_eq_true rfl)) dX11_sooner_32 ⟨Nat.le_of_ble_eq_true rfl, Nat.le_of_ble_eq_true rfl⟩) hS (fun q _ h => hFc q h) hFc (fun r u t H locs ht hvm hw hB hz1 hk1 hS => ?_)
          obtain ⟨hP1, hD1⟩ := hB
          have hP1 := g5_ht ht hP1
          obtain ⟨z9, z10, z11, z12, z13, z14, z15, z16, z17, z18, z19, z20, z21, z22, z23, z24, (i_6 : 0 ≤ z19.toInt ∧ z19.toInt ≤ 1), (i_7 : -1 ≤ z9.toInt ∧ z9.toInt ≤ 23), (i_8 : z9.toInt = -1 ∨ (p_h.toInt ≤ z9.toInt ∧ z9.toInt < (24 : Int32).toInt)), y25, rfl⟩ := hw
          have hJ9 := va_join (wr := [(a_o, (oc11 a_h a_im a_ke a_k a_wa a_th a_ha a_wk a_r a_x e_tl e_fd e_fpl a_wd e_wn a_rf e_lr))]) hP hD [0, 20, 1, 2, 21, 3, 4, 5, 6, 7, 8, 9, 10, 11, 12, 13, 14, 15, 16, 17, 18] [19] rfl rfl (by decide +kernel) (by decide +kernel) hk1 hFc hP1 hD1
          clear hP hD hPc hDc hFc ht hvm hz1 hk1 hP1 hD1
          obtain ⟨hP, hD⟩ := hJ9
          refine g5_rs [(a_o, (oc11 a_h a_im a_ke a_k a_wa a_th a_ha a_wk a_r a_x e_tl e_fd e_fpl a_wd e_wn a_rf e_lr)), (a_k, (oc5 a_h a_j a_pt z10 z11 z12 z13 z14 z15 z16 z17 z18 z19)), (a_h, (oc1 e_wa e_le e_st e_fo e_lc a_l a_g a_b a_s a_p a_w e_gb a_bb)), (a_g, (oc6 6 5 a_gn e_g)), (a_gn, (arI G 30 f_g)), (a_b, (oc6 5 24 a_bn e_b)), (a_bn, (arI G 120 f_b)), (a_p, (oc6 8 5 a_pn e_p)), (a_pn, (arI G 40 f_p)), (a_bb, (arJ G 24 f_bb)), (a_j, (oc2 a_as a_sk)), (a_as, (arI G 8 z21)), (a_sk, (arJ G 50 z22)), (a_l, (arW G 6 f_l)), (a_lo, (oc3 e_cl a_hd a_sr a_cd)), (a_sr, (arI G n_sr f_sr)), (a_cd, (arI G n_cd f_cd)), (a_hd, (arI G n_hd f_hd)), (a_pt, (arI G 200 z20)), (a_wk, (oc9 a_h a_k a_go a_mt)), (a_go, (arJ G 24 z23)), (a_mt, (arI G 1536 z24))] hP hD ?_
          clear hP hD
          intro hP hD
          refine g5_ti (v := z9) y25 ?_
          refine lv_istore (lv' := [(5, .int z9), (0, .ref a_o), (1, .int p_b), (2, .int p_c), (3, .int p_h), (4, .int p_t)]) hx hb dX11_sooner_35 hl (by decide +kernel) rfl ?_
          clear hl
          intro ls hl
          refine lv_iload hx hb dX11_sooner_37 (lv_at hl 0 rfl) ?_
          refine W.eq (g2 := F0 m 39 ls [.int z9]) rfl ?_
          refine lv_iconst (v := (-1)) hx hb dX11_sooner_39 (by decide +kernel) ?_
          refine lv_icmp_ne (tgt := 48) hx hb dX11_sooner_40 (by decide +kernel) (fun c_26 => ?_) (fun c_26 => ?_)
          ·
            have n_26 : gNe (z9.toInt) ((-1)) := g5_ne (a := z9.toInt) (b := (-1)) rfl (by decide +kernel) c_26
            have i_26 : z9.toInt ≥ 0 := by have z := g5_ne (a := z9.toInt) (b := (-1)) (by rfl) (by decide +kernel) c_26; omega
            refine lv_iload hx hb dX11_sooner_48 (lv_at hl 0 rfl) ?_
            refine lv_istore (lv' := [(6, .int z9), (5, .int z9), (0, .ref a_o), (1, .int p_b), (2, .int p_c), (3, .int p_h), (4, .int p_t)]) hx hb dX11_sooner_50 hl (by decide +kernel) rfl ?_
            clear hl
            intro ls hl
            refine lv_iconst (v := (-1)) hx hb dX11_sooner_52 (by decide +kernel) ?_
            refine lv_istore (lv' := [(7, .int (-1)), (6, .int z9), (5, .int z9), (0, .ref a_o), (1, .int p_b), (2, .int p_c), (3, .int p_h), (4, .int p_t)]) hx hb dX11_sooner_53 hl (by decide +kernel) rfl ?_
            clear hl
            intro ls hl
            refine W.eq (g2 := F0 m 55 ls []) rfl ?_
            refine lv_iconst (v := 0) hx hb dX11_sooner_55 (by decide +kernel) ?_
            refine lv_istore (lv' := [(8, .int 0), (7, .int (-1)), (6, .int z9), (5, .int z9), (0, .ref a_o), (1, .int p_b), (2, .int p_c), (3, .int p_h), (4, .int p_t)]) hx hb dX11_sooner_56 hl (by decide +kernel) rfl ?_
            clear hl
            intro ls hl
            refine g5_loop (α := (Int32) × (Int32) × (Int32) × (Int32) × (Int32) × (Int32) × (Int32) × (Int32) × (Int32) × (Int32) × (Int32) × (Int32) × (Nat → Int32) × (Nat → Int32) × (Nat → Int64) × (Int32) × (Nat → Int32)) (fun (q : (Int32) × (Int32) × (Int32) × (Int32) × (Int32) × (Int32) × (Int32) × (Int32) × (Int32) × (Int32) × (Int32) × (Int32) × (Nat → Int32) × (Nat → Int32) × (Nat → Int64) × (Int32) × (Nat → Int32)) (ls : Array Slot) (H : Heap) (locs : List Loc) => match q with | (k_t, k_a, k_g, k_se, k_lh, k_br, k_we, k_me, k_ce, k_wy, k_ho, k_ov, k_pt, k_as, k_sk, k_ln, k_f) => lv_has ls 12 [(6, .int k_t), (7, .int k_a), (8, .int k_g), (0, .ref a_o), (1, .int p_b), (2, .int p_c), (3, .int p_h), (4, .int p_t)] ∧ va_P G.1 vwCl [(a_o, (oc11 a_h a_im a_ke a_k a_wa a_th a_ha a_wk a_r a_x e_tl e_fd e_fpl a_wd e_wn a_rf e_lr)), (a_k, (oc5 a_h a_j a_pt k_ln k_se k_lh k_br k_we k_me k_ce k_wy k_ho k_ov)), (a_h, (oc1 e_wa e_le e_st e_fo e_lc a_l a_g a_b a_s a_p a_w e_gb a_bb)), (a_g, (oc6 6 5 a_gn e_g)), (a_gn, (arI G 30 k_f)), (a_b, (oc6 5 24 a_bn e_b)), (a_bn, (arI G 120 f_b)), (a_p, (oc6 8 5 a_pn e_p)), (a_pn, (arI G 40 f_p)), (a_bb, (arJ G 24 f_bb)), (a_j, (oc2 a_as a_sk)), (a_as, (arI G 8 k_as)), (a_sk, (arJ G 50 k_sk)), (a_l, (arW G 6 f_l)), (a_lo, (oc3 e_cl a_hd a_sr a_cd)), (a_sr, (arI G n_sr f_sr)), (a_cd, (arI G n_cd f_cd)), (a_hd, (arI G n_hd f_hd)), (a_pt, (arI G 200 k_pt)), (a_wk, (oc9 a_h a_k a_go a_mt)), (a_go, (arJ G 24 z23)), (a_mt, (arI G 1536 z24))] H ∧ va_D A [(a_o, (oc11 a_h a_im a_ke a_k a_wa a_th a_ha a_wk a_r a_x e_tl e_fd e_fpl a_wd e_wn a_rf e_lr)), (a_k, (oc5 a_h a_j a_pt k_ln k_se k_lh k_br k_we k_me k_ce k_wy k_ho k_ov)), (a_h, (oc1 e_wa e_le e_st e_fo e_lc a_l a_g a_b a_s a_p a_w e_gb a_bb)), (a_g, (oc6 6 5 a_gn e_g)), (a_gn, (arI G 30 k_f)), (a_b, (oc6 5 24 a_bn e_b)), (a_bn, (arI G 120 f_b)), (a_p, (oc6 8 5 a_pn e_p)), (a_pn, (arI G 40 f_p)), (a_bb, (arJ G 24 f_bb)), (a_j, (oc2 a_as a_sk)), (a_as, (arI G 8 k_as)), (a_sk, (arJ G 50 k_sk)), (a_l, (arW G 6 f_l)), (a_lo, (oc3 e_cl a_hd a_sr a_cd)), (a_sr, (arI G n_sr f_sr)), (a_cd, (arI G n_cd f_cd)), (a_hd, (arI G n_hd f_hd)), (a_pt, (arI G 200 k_pt)), (a_wk, (oc9 a_h a_k a_go a_mt)), (a_go, (arJ G 24 z23)), (a_mt, (arI G 1536 z24))] ∧ va_S A s.heap H locs ∧ (0 ≤ k_t.toInt ∧ k_t.toInt ≤ 24) ∧ (0 ≤ k_g.toInt ∧ k_g.toInt ≤ 6) ∧ (0 ≤ k_ov.toInt ∧ k_ov.toInt ≤ 1) ∧ (∀ r c : Int, tget k_f e_g.toInt 5 r c = tget f_g e_g.toInt 5 r c) ∧ (gOK k_f e_g.toInt) ∧ (inT e_gb k_f e_g.toInt)) (fun (q : (Int32) × (Int32) × (Int32) × (Int32) × (Int32) × (Int32) × (Int32) × (Int32) × (Int32) × (Int32) × (Int32) × (Int32) × (Nat → Int32) × (Nat → Int32) × (Nat → Int64) × (Int32) × (Nat → Int32)) => match q with | (k_t, k_a, k_g, k_se, k_lh, k_br, k_we, k_me, k_ce, k_wy, k_ho, k_ov, k_pt, k_as, k_sk, k_ln, k_f) => Int.toNat (6 - k_g.toInt)) (z9, (-1), 0, z11, z12, z13, z14, z15, z16, z17, z18, z19, z20, z21, z22, z10, f_g) ⟨lv_sub hl [2, 1, 0, 4, 5, 6, 7, 8] rfl, hP, hD, hS, ⟨by omega, by omega⟩, ⟨by decide, by decide⟩, i_6, fun _ _ => rfl, e_gk, e_gi⟩ ?_
            rintro ⟨k_t, k_a, k_g, k_se, k_lh, k_br, k_we, k_me, k_ce, k_wy, k_ho, k_ov, k_pt, k_as, k_sk, k_ln, k_f⟩ ls H locs ⟨hl, hP, hD, hS, (i_27 : 0 ≤ k_t.toInt ∧ k_t.toInt ≤ 24), (i_28 : 0 ≤ k_g.toInt ∧ k_g.toInt ≤ 6), (i_29 : 0 ≤ k_ov.toInt ∧ k_ov.toInt ≤ 1), (i_30 : ∀ r c : Int, tget k_f e_g.toInt 5 r c = tget f_g e_g.toInt 5 r c), (i_31 : gOK k_f e_g.toInt), (i_32 : inT e_gb k_f e_g.toInt)⟩ ih_58_33
            replace hl : lv_has ls 12 [(6, .int k_t), (7, .int k_a), (8, .int k_g), (0, .ref a_o), (1, .int p_b), (2, .int p_c), (3, .int p_h), (4, .int p_t)] := hl
            refine g5_rs [(a_o, (oc11 a_h a_im a_ke a_k a_wa a_th a_ha a_wk a_r a_x e_tl e_fd e_fpl a_wd e_wn a_rf e_lr)), (a_k, (oc5 a_h a_j a_pt k_ln k_se k_lh k_br k_we k_me k_ce k_wy k_ho k_ov)), (a_h, (oc1 e_wa e_le e_st e_fo e_lc a_l a_g a_b a_s a_p a_w e_gb a_bb)), (a_g, (oc6 6 5 a_gn e_g)), (a_gn, (arI G 30 k_f)), (a_b, (oc6 5 24 a_bn e_b)), (a_bn, (arI G 120 f_b)), (a_p, (oc6 8 5 a_pn e_p)), (a_pn, (arI G 40 f_p)), (a_bb, (arJ G 24 f_bb)), (a_j, (oc2 a_as a_sk)), (a_as, (arI G 8 k_as)), (a_sk, (arJ G 50 k_sk)), (a_l, (arW G 6 f_l)), (a_lo, (oc3 e_cl a_hd a_sr a_cd)), (a_sr, (arI G n_sr f_sr)), (a_cd, (arI G n_cd f_cd)), (a_hd, (arI G n_hd f_hd)), (a_pt, (arI G 200 k_pt)), (a_wk, (oc9 a_h a_k a_go a_mt)), (a_go, (arJ G 24 z23)), (a_mt, (arI G 1536 z24))] hP hD ?_
            clear hP hD
            intro hP hD
            refine lv_iload hx hb dX11_sooner_58 (lv_at hl 2 rfl) ?_
            refine lv_aload_n hx hb dX11_sooner_60 rfl (lv_at hl 3 rfl) ?_
            refine va_get (D := G.1) (ci := 11) (v := .ref a_h) (C := RX11) (T := TX11) (N := 17) hx hb hts inG_X11 hown hK hP 0 rfl rfl 0 (by decide +kernel) (hts _ fl_X11_12) (fun _ h9 => h9) rfl dX11_sooner_61 ?_
            refine va_get (D := G.1) (ci := 1) (v := .ref a_g) (C := RX1) (T := TX1) (N := 13) hx hb hts inG_X1 hown hK hP 2 rfl rfl 6 (by decide +kernel) (hts _ fl_X11_136) (fun _ h9 => h9) rfl dX11_sooner_64 ?_
            refine W.eq (g2 := F0 m 67 ls [.ref a_g, .int k_g]) rfl ?_
            refine va_get (D := G.1) (ci := 6) (v := .int e_g) (C := RX6) (T := TX6) (N := 4) hx hb hts inG_X6 hown hK hP 3 rfl rfl 3 (by decide +kernel) (hts _ fl_X11_238) (fun _ h9 => h9) rfl dX11_sooner_67 ?_
            refine lv_icmp_ge (tgt := 202) hx hb dX11_sooner_70 (by decide +kernel) (fun c_34 => ?_) (fun c_34 => ?_)
            ·
              have i_34 : k_g.toInt ≥ e_g.toInt := g5_ge (a := k_g.toInt) (b := e_g.toInt) rfl rfl c_34
              refine lv_iload hx hb dX11_sooner_202 (lv_at hl 1 rfl) ?_
              exact W.iret (v := k_a) hx hb hr (fun t ht hW => ⟨⟨k_a, [(a_o, (oc11 a_h a_im a_ke a_k a_wa a_th a_ha a_wk a_r a_x e_tl e_fd e_fpl a_wd e_wn a_rf e_lr)), (a_k, (oc5 a_h a_j a_pt k_ln k_se k_lh k_br k_we k_me k_ce k_wy k_ho k_ov)), (a_h, (oc1 e_wa e_le e_st e_fo e_lc a_l a_g a_b a_s a_p a_w e_gb a_bb)), (a_g, (oc6 6 5 a_gn e_g)), (a_gn, (arI G 30 k_f)), (a_b, (oc6 5 24 a_bn e_b)), (a_bn, (arI G 120 f_b)), (a_p, (oc6 8 5 a_pn e_p)), (a_pn, (arI G 40 f_p)), (a_bb, (arJ G 24 f_bb)), (a_j, (oc2 a_as a_sk)), (a_as, (arI G 8 k_as)), (a_sk, (arJ G 50 k_sk)), (a_l, (arW G 6 f_l)), (a_lo, (oc3 e_cl a_hd a_sr a_cd)), (a_sr, (arI G n_sr f_sr)), (a_cd, (arI G n_cd f_cd)), (a_hd, (arI G n_hd f_hd)), (a_pt, (arI G 200 k_pt)), (a_wk, (oc9 a_h a_k a_go a_mt)), (a_go, (arJ G 24 z23)), (a_mt, (arI G 1536 z24))], rfl, ⟨k_a, k_ln, k_se, k_lh, k_br, k_we, k_me, k_ce, k_wy, k_ho, k_ov, k_pt, k_as, k_sk, z23, z24, k_f, i_29, i_31, i_32, i_30, rfl, rfl⟩, by rw [ht]; exact hP.sub [0, 1, 2, 3, 4, 5, 6, 7, 8, 9, 10, 11, 12, 13, 14, 15, 16, 17, 18, 19, 20, 21] rfl, hD.sub [0, 1, 2, 3, 4, 5, 6, 7, 8, 9, 10, 11, 12, 13, 14, 15, 16, 17, 18, 19, 20, 21] (by decide +kernel) rfl⟩, hS.F ht⟩) hS.2.2 dX11_sooner_204
            ·
              have i_34 : k_g.toInt < e_g.toInt := g5_geN (a := k_g.toInt) (b := e_g.toInt) rfl rfl c_34
              refine lv_aload_n hx hb dX11_sooner_73 rfl (lv_at hl 3 rfl) ?_
              refine va_get (D := G.1) (ci := 11) (v := .ref a_h) (C := RX11) (T := TX11) (N := 17) hx hb hts inG_X11 hown hK hP 0 rfl rfl 0 (by decide +kernel) (hts _ fl_X11_12) (fun _ h9 => h9) rfl dX11_sooner_74 ?_
              refine va_get (D := G.1) (ci := 1) (v := .ref a_g) (C := RX1) (T := TX1) (N := 13) hx hb hts inG_X1 hown hK hP 2 rfl rfl 6 (by decide +kernel) (hts _ fl_X11_136) (fun _ h9 => h9) rfl dX11_sooner_77 ?_
              refine lv_iload hx hb dX11_sooner_80 (lv_at hl 2 rfl) ?_
              refine W.eq (g2 := F0 m 82 ls [.int k_g, .ref a_g]) rfl ?_
              refine lv_iconst (v := 1) hx hb dX11_sooner_82 (by decide +kernel) ?_
              obtain ⟨hPc, hDc, hFc⟩ := g5_sub3 (wc := [(a_g, (oc6 6 5 a_gn e_g)), (a_gn, (arI G 30 k_f))]) hP hD hS hA [3, 4] (by decide +kernel) rfl
              refine va_calli (va_runV (As := [.int k_g, .int 1]) (rest := []) ⟨hx, hb, hml, hown, hts⟩ (t_get_G l G a_g a_gn H.size e_g k_g 1 k_f h_e_g) (cwV 2 hts gV_X11_163 rfl rfl rfl hv_X6_get ⟨Nat.le_of_ble_eq_true rfl, Nat.le_of_ble_eq_true rfl⟩) (g5_preV hPc hK hDc hN hT hS hFc (ci := 6) (q0 := 0) rfl rfl) rfl rfl hl.1 rfl (lv_room (Nat.le_of_ble_eq_true rfl)) dX11_sooner_83 ⟨Nat.le_of_ble_eq_true rfl, Nat.le_of_ble_eq_true rfl⟩) hS (fun q _ h => hFc q h) hFc (fun r u t H locs ht hvm hw hB hz1 hk1 hS => ?_)
              obtain ⟨hP1, hD1⟩ := hB
              have hP1 := g5_ht ht hP1
              obtain ⟨z36, (i_35 : z36 = tget k_f e_g.toInt 5 k_g.toInt (1 : Int32).toInt), y37, rfl⟩ := hw
              have hJ9 := va_join (wr := [(a_o, (oc11 a_h a_im a_ke a_k a_wa a_th a_ha a_wk a_r a_x e_tl e_fd e_fpl a_wd e_wn a_rf e_lr)), (a_k, (oc5 a_h a_j a_pt k_ln k_se k_lh k_br k_we k_me k_ce k_wy k_ho k_ov)), (a_h, (oc1 e_wa e_le e_st e_fo e_lc a_l a_g a_b a_s a_p a_w e_gb a_bb)), (a_b, (oc6 5 24 a_bn e_b)), (a_bn, (arI G 120 f_b)), (a_p, (oc6 8 5 a_pn e_p)), (a_pn, (arI G 40 f_p)), (a_bb, (arJ G 24 f_bb)), (a_j, (oc2 a_as a_sk)), (a_as, (arI G 8 k_as)), (a_sk, (arJ G 50 k_sk)), (a_l, (arW G 6 f_l)), (a_lo, (oc3 e_cl a_hd a_sr a_cd)), (a_sr, (arI G n_sr f_sr)), (a_cd, (arI G n_cd f_cd)), (a_hd, (arI G n_hd f_hd)), (a_pt, (arI G 200 k_pt)), (a_wk, (oc9 a_h a_k a_go a_mt)), (a_go, (arJ G 24 z23)), (a_mt, (arI G 1536 z24))]) hP hD [3, 4] [0, 1, 2, 5, 6, 7, 8, 9, 10, 11, 12, 13, 14, 15, 16, 17, 18, 19, 20, 21] rfl rfl (by decide +kernel) (by decide +kernel) hk1 hFc hP1 hD1
              clear hP hD hPc hDc hFc ht hvm hz1 hk1 hP1 hD1
              obtain ⟨hP, hD⟩ := hJ9
              refine g5_rs [(a_o, (oc11 a_h a_im a_ke a_k a_wa a_th a_ha a_wk a_r a_x e_tl e_fd e_fpl a_wd e_wn a_rf e_lr)), (a_k, (oc5 a_h a_j a_pt k_ln k_se k_lh k_br k_we k_me k_ce k_wy k_ho k_ov)), (a_h, (oc1 e_wa e_le e_st e_fo e_lc a_l a_g a_b a_s a_p a_w e_gb a_bb)), (a_b, (oc6 5 24 a_bn e_b)), (a_bn, (arI G 120 f_b)), (a_p, (oc6 8 5 a_pn e_p)), (a_pn, (arI G 40 f_p)), (a_bb, (arJ G 24 f_bb)), (a_j, (oc2 a_as a_sk)), (a_as, (arI G 8 k_as)), (a_sk, (arJ G 50 k_sk)), (a_l, (arW G 6 f_l)), (a_lo, (oc3 e_cl a_hd a_sr a_cd)), (a_sr, (arI G n_sr f_sr)), (a_cd, (arI G n_cd f_cd)), (a_hd, (arI G n_hd f_hd)), (a_pt, (arI G 200 k_pt)), (a_wk, (oc9 a_h a_k a_go a_mt)), (a_go, (arJ G 24 z23)), (a_mt, (arI G 1536 z24)), (a_g, (oc6 6 5 a_gn e_g)), (a_gn, (arI G 30 k_f))] hP hD ?_
              clear hP hD
              intro hP hD
              refine g5_ti (v := z36) y37 ?_
              have hg_38 : 0 ≤ z36.toInt ∧ z36.toInt ≤ 5 := by rw [i_35]; exact (i_31 k_g.toInt (by omega) (by omega)).2.1
              refine lv_istore (lv' := [(9, .int z36), (6, .int k_t), (7, .int k_a), (8, .int k_g), (0, .ref a_o), (1, .int p_b), (2, .int p_c), (3, .int p_h), (4, .int p_t)]) hx hb dX11_sooner_86 hl (by decide +kernel) rfl ?_
              clear hl
              intro ls hl
              refine lv_iconst (v := 0) hx hb dX11_sooner_88 (by decide +kernel) ?_
              refine lv_istore (lv' := [(10, .int 0), (9, .int z36), (6, .int k_t), (7, .int k_a), (8, .int k_g), (0, .ref a_o), (1, .int p_b), (2, .int p_c), (3, .int p_h), (4, .int p_t)]) hx hb dX11_sooner_89 hl (by decide +kernel) rfl ?_
              clear hl
              intro ls hl
              refine g5_loop (α := (Int32) × (Int32) × (Int32) × (Int32) × (Int32) × (Int32) × (Int32) × (Int32) × (Int32) × (Int32) × (Int32) × (Int32) × (Nat → Int32) × (Nat → Int32) × (Nat → Int64) × (Int32) × (Nat → Int32)) (fun (q : (Int32) × (Int32) × (Int32) × (Int32) × (Int32) × (Int32) × (Int32) × (Int32) × (Int32) × (Int32) × (Int32) × (Int32) × (Nat → Int32) × (Nat → Int32) × (Nat → Int64) × (Int32) × (Nat → Int32)) (ls : Array Slot) (H : Heap) (locs : List Loc) => match q with | (m_t, m_a, m_o, m_se, m_lh, m_br, m_we, m_me, m_ce, m_wy, m_ho, m_ov, m_pt, m_as, m_sk, m_ln, m_f) => lv_has ls 12 [(6, .int m_t), (7, .int m_a), (10, .int m_o), (9, .int z36), (8, .int k_g), (0, .ref a_o), (1, .int p_b), (2, .int p_c), (3, .int p_h), (4, .int p_t)] ∧ va_P G.1 vwCl [(a_o, (oc11 a_h a_im a_ke a_k a_wa a_th a_ha a_wk a_r a_x e_tl e_fd e_fpl a_wd e_wn a_rf e_lr)), (a_k, (oc5 a_h a_j a_pt m_ln m_se m_lh m_br m_we m_me m_ce m_wy m_ho m_ov)), (a_h, (oc1 e_wa e_le e_st e_fo e_lc a_l a_g a_b a_s a_p a_w e_gb a_bb)), (a_b, (oc6 5 24 a_bn e_b)), (a_bn, (arI G 120 f_b)), (a_p, (oc6 8 5 a_pn e_p)), (a_pn, (arI G 40 f_p)), (a_bb, (arJ G 24 f_bb)), (a_j, (oc2 a_as a_sk)), (a_as, (arI G 8 m_as)), (a_sk, (arJ G 50 m_sk)), (a_l, (arW G 6 f_l)), (a_lo, (oc3 e_cl a_hd a_sr a_cd)), (a_sr, (arI G n_sr f_sr)), (a_cd, (arI G n_cd f_cd)), (a_hd, (arI G n_hd f_hd)), (a_pt, (arI G 200 m_pt)), (a_wk, (oc9 a_h a_k a_go a_mt)), (a_go, (arJ G 24 z23)), (a_mt, (arI G 1536 z24)), (a_g, (oc6 6 5 a_gn e_g)), (a_gn, (arI G 30 m_f))] H ∧ va_D A [(a_o, (oc11 a_h a_im a_ke a_k a_wa a_th a_ha a_wk a_r a_x e_tl e_fd e_fpl a_wd e_wn a_rf e_lr)), (a_k, (oc5 a_h a_j a_pt m_ln m_se m_lh m_br m_we m_me m_ce m_wy m_ho m_ov)), (a_h, (oc1 e_wa e_le e_st e_fo e_lc a_l a_g a_b a_s a_p a_w e_gb a_bb)), (a_b, (oc6 5 24 a_bn e_b)), (a_bn, (arI G 120 f_b)), (a_p, (oc6 8 5 a_pn e_p)), (a_pn, (arI G 40 f_p)), (a_bb, (arJ G 24 f_bb)), (a_j, (oc2 a_as a_sk)), (a_as, (arI G 8 m_as)), (a_sk, (arJ G 50 m_sk)), (a_l, (arW G 6 f_l)), (a_lo, (oc3 e_cl a_hd a_sr a_cd)), (a_sr, (arI G n_sr f_sr)), (a_cd, (arI G n_cd f_cd)), (a_hd, (arI G n_hd f_hd)), (a_pt, (arI G 200 m_pt)), (a_wk, (oc9 a_h a_k a_go a_mt)), (a_go, (arJ G 24 z23)), (a_mt, (arI G 1536 z24)), (a_g, (oc6 6 5 a_gn e_g)), (a_gn, (arI G 30 m_f))] ∧ va_S A s.heap H locs ∧ (0 ≤ m_t.toInt ∧ m_t.toInt ≤ 24) ∧ (0 ≤ m_o.toInt ∧ m_o.toInt ≤ 6) ∧ (0 ≤ m_ov.toInt ∧ m_ov.toInt ≤ 1) ∧ (∀ r c : Int, ¬ (r = k_g.toInt ∧ c = 1) → tget m_f e_g.toInt 5 r c = tget k_f e_g.toInt 5 r c) ∧ (gOK m_f e_g.toInt) ∧ (inT e_gb m_f e_g.toInt)) (fun (q : (Int32) × (Int32) × (Int32) × (Int32) × (Int32) × (Int32) × (Int32) × (Int32) × (Int32) × (Int32) × (Int32) × (Int32) × (Nat → Int32) × (Nat → Int32) × (Nat → Int64) × (Int32) × (Nat → Int32)) => match q with | (m_t, m_a, m_o, m_se, m_lh, m_br, m_we, m_me, m_ce, m_wy, m_ho, m_ov, m_pt, m_as, m_sk, m_ln, m_f) => Int.toNat (6 - m_o.toInt)) (k_t, k_a, 0, k_se, k_lh, k_br, k_we, k_me, k_ce, k_wy, k_ho, k_ov, k_pt, k_as, k_sk, k_ln, k_f) ⟨lv_sub hl [2, 3, 0, 1, 4, 5, 6, 7, 8, 9] rfl, hP, hD, hS, i_27, ⟨by decide, by decide⟩, i_29, fun _ _ _ => rfl, i_31, i_32⟩ ?_
              rintro ⟨m_t, m_a, m_o, m_se, m_lh, m_br, m_we, m_me, m_ce, m_wy, m_ho, m_ov, m_pt, m_as, m_sk, m_ln, m_f⟩ ls H locs ⟨hl, hP, hD, hS, (i_39 : 0 ≤ m_t.toInt ∧ m_t.toInt ≤ 24), (i_40 : 0 ≤ m_o.toInt ∧ m_o.toInt ≤ 6), (i_41 : 0 ≤ m_ov.toInt ∧ m_ov.toInt ≤ 1), (i_42 : ∀ r c : Int, ¬ (r = k_g.toInt ∧ c = 1) → tget m_f e_g.toInt 5 r c = tget k_f e_g.toInt 5 r c), (i_43 : gOK m_f e_g.toInt), (i_44 : inT e_gb m_f e_g.toInt)⟩ ih_91_45
              replace hl : lv_has ls 12 [(6, .int m_t), (7, .int m_a), (10, .int m_o), (9, .int z36), (8, .int k_g), (0, .ref a_o), (1, .int p_b), (2, .int p_c), (3, .int p_h), (4, .int p_t)] := hl
              refine g5_rs [(a_o, (oc11 a_h a_im a_ke a_k a_wa a_th a_ha a_wk a_r a_x e_tl e_fd e_fpl a_wd e_wn a_rf e_lr)), (a_k, (oc5 a_h a_j a_pt m_ln m_se m_lh m_br m_we m_me m_ce m_wy m_ho m_ov)), (a_h, (oc1 e_wa e_le e_st e_fo e_lc a_l a_g a_b a_s a_p a_w e_gb a_bb)), (a_b, (oc6 5 24 a_bn e_b)), (a_bn, (arI G 120 f_b)), (a_p, (oc6 8 5 a_pn e_p)), (a_pn, (arI G 40 f_p)), (a_bb, (arJ G 24 f_bb)), (a_j, (oc2 a_as a_sk)), (a_as, (arI G 8 m_as)), (a_sk, (arJ G 50 m_sk)), (a_l, (arW G 6 f_l)), (a_lo, (oc3 e_cl a_hd a_sr a_cd)), (a_sr, (arI G n_sr f_sr)), (a_cd, (arI G n_cd f_cd)), (a_hd, (arI G n_hd f_hd)), (a_pt, (arI G 200 m_pt)), (a_wk, (oc9 a_h a_k a_go a_mt)), (a_go, (arJ G 24 z23)), (a_mt, (arI G 1536 z24)), (a_g, (oc6 6 5 a_gn e_g)), (a_gn, (arI G 30 m_f))] hP hD ?_
              clear hP hD
              intro hP hD
              refine lv_iload hx hb dX11_sooner_91 (lv_at hl 2 rfl) ?_
              refine lv_bipush (v := 6) hx hb dX11_sooner_93 (by decide +kernel) ?_
              refine lv_icmp_ge (tgt := 181) hx hb dX11_sooner_95 (by decide +kernel) (fun c_46 => ?_) (fun c_46 => ?_)
              ·
                have i_46 : m_o.toInt ≥ 6 := g5_ge (a := m_o.toInt) (b := 6) rfl (by decide +kernel) c_46
                refine lv_aload_n hx hb dX11_sooner_181 rfl (lv_at hl 5 rfl) ?_
                refine va_get (D := G.1) (ci := 11) (v := .ref a_h) (C := RX11) (T := TX11) (N := 17) hx hb hts inG_X11 hown hK hP 0 rfl rfl 0 (by decide +kernel) (hts _ fl_X11_12) (fun _ h9 => h9) rfl dX11_sooner_182 ?_
                refine va_get (D := G.1) (ci := 1) (v := .ref a_g) (C := RX1) (T := TX1) (N := 13) hx hb hts inG_X1 hown hK hP 2 rfl rfl 6 (by decide +kernel) (hts _ fl_X11_136) (fun _ h9 => h9) rfl dX11_sooner_185 ?_
                refine lv_iload hx hb dX11_sooner_188 (lv_at hl 4 rfl) ?_
                refine W.eq (g2 := F0 m 190 ls [.int k_g, .ref a_g]) rfl ?_
                refine lv_iconst (v := 1) hx hb dX11_sooner_190 (by decide +kernel) ?_
                refine lv_iload hx hb dX11_sooner_191 (lv_at hl 3 rfl) ?_
                obtain ⟨hPc, hDc, hFc⟩ := g5_sub3 (wc := [(a_g, (oc6 6 5 a_gn e_g)), (a_gn, (arI G 30 m_f))]) hP hD hS hA [20, 21] (by decide +kernel) rfl
                refine va_callv (va_runV (As := [.int k_g, .int 1, .int z36]) (rest := []) ⟨hx, hb, hml, hown, hts⟩ (t_set_G l G a_g a_gn H.size e_g k_g 1 z36 m_f h_e_g) (cwV 3 hts gV_X11_149 rfl rfl rfl hv_X6_set ⟨Nat.le_of_ble_eq_true rfl, Nat.le_of_ble_eq_true rfl⟩) (g5_preV hPc hK hDc hN hT hS hFc (ci := 6) (q0 := 0) rfl rfl) rfl rfl hl.1 rfl (lv_room (Nat.le_of_ble_eq_true rfl)) dX11_sooner_193 ⟨Nat.le_of_ble_eq_true rfl, Nat.le_of_ble_eq_true rfl⟩) hS (fun q _ h => hFc q h) hFc (fun u t H locs ht hvm hw hB hz1 hk1 hS => ?_)
                obtain ⟨hP1, hD1⟩ := hB
                have hP1 := g5_ht ht hP1
                obtain ⟨z48, (i_47 : z48 = tset m_f e_g.toInt 5 k_g.toInt (1 : Int32).toInt z36), rfl⟩ := hw
                have hJ9 := va_join (wr := [(a_o, (oc11 a_h a_im a_ke a_k a_wa a_th a_ha a_wk a_r a_x e_tl e_fd e_fpl a_wd e_wn a_rf e_lr)), (a_k, (oc5 a_h a_j a_pt m_ln m_se m_lh m_br m_we m_me m_ce m_wy m_ho m_ov)), (a_h, (oc1 e_wa e_le e_st e_fo e_lc a_l a_g a_b a_s a_p a_w e_gb a_bb)), (a_b, (oc6 5 24 a_bn e_b)), (a_bn, (arI G 120 f_b)), (a_p, (oc6 8 5 a_pn e_p)), (a_pn, (arI G 40 f_p)), (a_bb, (arJ G 24 f_bb)), (a_j, (oc2 a_as a_sk)), (a_as, (arI G 8 m_as)), (a_sk, (arJ G 50 m_sk)), (a_l, (arW G 6 f_l)), (a_lo, (oc3 e_cl a_hd a_sr a_cd)), (a_sr, (arI G n_sr f_sr)), (a_cd, (arI G n_cd f_cd)), (a_hd, (arI G n_hd f_hd)), (a_pt, (arI G 200 m_pt)), (a_wk, (oc9 a_h a_k a_go a_mt)), (a_go, (arJ G 24 z23)), (a_mt, (arI G 1536 z24))]) hP hD [20, 21] [0, 1, 2, 3, 4, 5, 6, 7, 8, 9, 10, 11, 12, 13, 14, 15, 16, 17, 18, 19] rfl rfl (by decide +kernel) (by decide +kernel) hk1 hFc hP1 hD1
                clear hP hD hPc hDc hFc ht hvm hz1 hk1 hP1 hD1
                obtain ⟨hP, hD⟩ := hJ9
                refine g5_rs [(a_o, (oc11 a_h a_im a_ke a_k a_wa a_th a_ha a_wk a_r a_x e_tl e_fd e_fpl a_wd e_wn a_rf e_lr)), (a_k, (oc5 a_h a_j a_pt m_ln m_se m_lh m_br m_we m_me m_ce m_wy m_ho m_ov)), (a_h, (oc1 e_wa e_le e_st e_fo e_lc a_l a_g a_b a_s a_p a_w e_gb a_bb)), (a_b, (oc6 5 24 a_bn e_b)), (a_bn, (arI G 120 f_b)), (a_p, (oc6 8 5 a_pn e_p)), (a_pn, (arI G 40 f_p)), (a_bb, (arJ G 24 f_bb)), (a_j, (oc2 a_as a_sk)), (a_as, (arI G 8 m_as)), (a_sk, (arJ G 50 m_sk)), (a_l, (arW G 6 f_l)), (a_lo, (oc3 e_cl a_hd a_sr a_cd)), (a_sr, (arI G n_sr f_sr)), (a_cd, (arI G n_cd f_cd)), (a_hd, (arI G n_hd f_hd)), (a_pt, (arI G 200 m_pt)), (a_wk, (oc9 a_h a_k a_go a_mt)), (a_go, (arJ G 24 z23)), (a_mt, (arI G 1536 z24)), (a_g, (oc6 6 5 a_gn e_g)), (a_gn, (arI G 30 z48))] hP hD ?_
                clear hP hD
                intro hP hD
                have hgk_49 : gOK z48 e_g.toInt := by rw [i_47]; exact g_turn i_43 (by omega) (Or.inl ⟨by decide, by omega, by omega⟩)
                have hgi_49 : inT e_gb z48 e_g.toInt := by rw [i_47]; exact g_inTturn i_44 (by omega) ⟨by decide, by decide⟩
                refine lv_iinc (v := (k_g + 1)) (lv' := [(8, .int (k_g + 1)), (6, .int m_t), (7, .int m_a), (10, .int m_o), (9, .int z36), (0, .ref a_o), (1, .int p_b), (2, .int p_c), (3, .int p_h), (4, .int p_t)]) hx hb dX11_sooner_196 hl (k := 4) rfl rfl (by decide +kernel) rfl ?_
                clear hl
                intro ls hl
                have t_50 : (k_g + 1).toInt = k_g.toInt + 1 := g5_iadd (a := k_g.toInt) (b := 1) rfl (by decide +kernel) (by omega) (by omega)
                refine lv_goto (tgt := 58) hx hb dX11_sooner_199 (by decide +kernel) ?_
                exact ih_58_33 (m_t, m_a, (k_g + 1), m_se, m_lh, m_br, m_we, m_me, m_ce, m_wy, m_ho, m_ov, m_pt, m_as, m_sk, m_ln, z48) ls H locs (show Int.toNat (6 - (k_g + 1).toInt) < Int.toNat (6 - k_g.toInt) from g_up (show k_g.toInt < (k_g + 1).toInt by omega) (show k_g.toInt < 6 by omega)) ⟨lv_sub hl [1, 2, 0, 5, 6, 7, 8, 9] rfl, hP.sub [0, 1, 2, 20, 21, 3, 4, 5, 6, 7, 8, 9, 10, 11, 12, 13, 14, 15, 16, 17, 18, 19] rfl, hD.sub [0, 1, 2, 20, 21, 3, 4, 5, 6, 7, 8, 9, 10, 11, 12, 13, 14, 15, 16, 17, 18, 19] (by decide +kernel) rfl, hS, i_39, ⟨by omega, by omega⟩, i_41, fun r c => by rw [i_47, so_out ⟨by omega, by omega⟩ i_42 i_35 r c]; exact i_30 r c, hgk_49, hgi_49⟩
              ·
                have i_46 : m_o.toInt < 6 := g5_geN (a := m_o.toInt) (b := 6) rfl (by decide +kernel) c_46
                refine lv_aload_n hx hb dX11_sooner_98 rfl (lv_at hl 5 rfl) ?_
                refine va_get (D := G.1) (ci := 11) (v := .ref a_h) (C := RX11) (T := TX11) (N := 17) hx hb hts inG_X11 hown hK hP 0 rfl rfl 0 (by decide +kernel) (hts _ fl_X11_12) (fun _ h9 => h9) rfl dX11_sooner_99 ?_
                refine va_get (D := G.1) (ci := 1) (v := .ref a_g) (C := RX1) (T := TX1) (N := 13) hx hb hts inG_X1 hown hK hP 2 rfl rfl 6 (by decide +kernel) (hts _ fl_X11_136) (fun _ h9 => h9) rfl dX11_sooner_102 ?_
                refine lv_iload hx hb dX11_sooner_105 (lv_at hl 4 rfl) ?_
                refine W.eq (g2 := F0 m 107 ls [.int k_g, .ref a_g]) rfl ?_
                refine lv_iconst (v := 1) hx hb dX11_sooner_107 (by decide +kernel) ?_
                refine lv_iload hx hb dX11_sooner_108 (lv_at hl 2 rfl) ?_
                obtain ⟨hPc, hDc, hFc⟩ := g5_sub3 (wc := [(a_g, (oc6 6 5 a_gn e_g)), (a_gn, (arI G 30 m_f))]) hP hD hS hA [20, 21] (by decide +kernel) rfl
                refine va_callv (va_runV (As := [.int k_g, .int 1, .int m_o]) (rest := []) ⟨hx, hb, hml, hown, hts⟩ (t_set_G l G a_g a_gn H.size e_g k_g 1 m_o m_f h_e_g) (cwV 3 hts gV_X11_149 rfl rfl rfl hv_X6_set ⟨Nat.le_of_ble_eq_true rfl, Nat.le_of_ble_eq_true rfl⟩) (g5_preV hPc hK hDc hN hT hS hFc (ci := 6) (q0 := 0) rfl rfl) rfl rfl hl.1 rfl (lv_room (Nat.le_of_ble_eq_true rfl)) dX11_sooner_110 ⟨Nat.le_of_ble_eq_true rfl, Nat.le_of_ble_eq_true rfl⟩) hS (fun q _ h => hFc q h) hFc (fun u t H locs ht hvm hw hB hz1 hk1 hS => ?_)
                obtain ⟨hP1, hD1⟩ := hB
                have hP1 := g5_ht ht hP1
                obtain ⟨z52, (i_51 : z52 = tset m_f e_g.toInt 5 k_g.toInt (1 : Int32).toInt m_o), rfl⟩ := hw
                have hJ9 := va_join (wr := [(a_o, (oc11 a_h a_im a_ke a_k a_wa a_th a_ha a_wk a_r a_x e_tl e_fd e_fpl a_wd e_wn a_rf e_lr)), (a_k, (oc5 a_h a_j a_pt m_ln m_se m_lh m_br m_we m_me m_ce m_wy m_ho m_ov)), (a_h, (oc1 e_wa e_le e_st e_fo e_lc a_l a_g a_b a_s a_p a_w e_gb a_bb)), (a_b, (oc6 5 24 a_bn e_b)), (a_bn, (arI G 120 f_b)), (a_p, (oc6 8 5 a_pn e_p)), (a_pn, (arI G 40 f_p)), (a_bb, (arJ G 24 f_bb)), (a_j, (oc2 a_as a_sk)), (a_as, (arI G 8 m_as)), (a_sk, (arJ G 50 m_sk)), (a_l, (arW G 6 f_l)), (a_lo, (oc3 e_cl a_hd a_sr a_cd)), (a_sr, (arI G n_sr f_sr)), (a_cd, (arI G n_cd f_cd)), (a_hd, (arI G n_hd f_hd)), (a_pt, (arI G 200 m_pt)), (a_wk, (oc9 a_h a_k a_go a_mt)), (a_go, (arJ G 24 z23)), (a_mt, (arI G 1536 z24))]) hP hD [20, 21] [0, 1, 2, 3, 4, 5, 6, 7, 8, 9, 10, 11, 12, 13, 14, 15, 16, 17, 18, 19] rfl rfl (by decide +kernel) (by decide +kernel) hk1 hFc hP1 hD1
                clear hP hD hPc hDc hFc ht hvm hz1 hk1 hP1 hD1
                obtain ⟨hP, hD⟩ := hJ9
                refine g5_rs [(a_o, (oc11 a_h a_im a_ke a_k a_wa a_th a_ha a_wk a_r a_x e_tl e_fd e_fpl a_wd e_wn a_rf e_lr)), (a_k, (oc5 a_h a_j a_pt m_ln m_se m_lh m_br m_we m_me m_ce m_wy m_ho m_ov)), (a_h, (oc1 e_wa e_le e_st e_fo e_lc a_l a_g a_b a_s a_p a_w e_gb a_bb)), (a_b, (oc6 5 24 a_bn e_b)), (a_bn, (arI G 120 f_b)), (a_p, (oc6 8 5 a_pn e_p)), (a_pn, (arI G 40 f_p)), (a_bb, (arJ G 24 f_bb)), (a_j, (oc2 a_as a_sk)), (a_as, (arI G 8 m_as)), (a_sk, (arJ G 50 m_sk)), (a_l, (arW G 6 f_l)), (a_lo, (oc3 e_cl a_hd a_sr a_cd)), (a_sr, (arI G n_sr f_sr)), (a_cd, (arI G n_cd f_cd)), (a_hd, (arI G n_hd f_hd)), (a_pt, (arI G 200 m_pt)), (a_wk, (oc9 a_h a_k a_go a_mt)), (a_go, (arJ G 24 z23)), (a_mt, (arI G 1536 z24)), (a_g, (oc6 6 5 a_gn e_g)), (a_gn, (arI G 30 z52))] hP hD ?_
                clear hP hD
                intro hP hD
                have hgk_53 : gOK z52 e_g.toInt := by rw [i_51]; exact g_turn i_43 (by omega) (Or.inl ⟨by decide, by omega, by omega⟩)
                have hgi_53 : inT e_gb z52 e_g.toInt := by rw [i_51]; exact g_inTturn i_44 (by omega) ⟨by decide, by decide⟩
                refine lv_iload hx hb dX11_sooner_113 (lv_at hl 2 rfl) ?_
                refine lv_iload hx hb dX11_sooner_115 (lv_at hl 3 rfl) ?_
                refine W.eq (g2 := F0 m 117 ls [.int z36, .int m_o]) rfl ?_
                refine lv_icmp_ne (tgt := 124) hx hb dX11_sooner_117 (by decide +kernel) (fun c_54 => ?_) (fun c_54 => ?_)
                ·
                  have n_54 : gNe (m_o.toInt) (z36.toInt) := g5_ne (a := m_o.toInt) (b := z36.toInt) rfl rfl c_54
                  refine lv_aload_n hx hb dX11_sooner_124 rfl (lv_at hl 5 rfl) ?_
                  refine va_get (D := G.1) (ci := 11) (v := .ref a_wk) (C := RX11) (T := TX11) (N := 17) hx hb hts inG_X11 hown hK hP 0 rfl rfl 7 (by decide +kernel) (hts _ fl_X11_59) (fun _ h9 => h9) rfl dX11_sooner_125 ?_
                  refine lv_iload hx hb dX11_sooner_128 (lv_at hl 4 rfl) ?_
                  refine lv_iload_n hx hb dX11_sooner_130 rfl (lv_at hl 6 rfl) ?_
                  refine W.eq (g2 := F0 m 131 ls [.int p_b, .int k_g, .ref a_wk]) rfl ?_
                  refine lv_iload_n hx hb dX11_sooner_131 rfl (lv_at hl 7 rfl) ?_
                  refine lv_iload_n hx hb dX11_sooner_132 rfl (lv_at hl 8 rfl) ?_
                  refine lv_iload hx hb dX11_sooner_133 (lv_at hl 0 rfl) ?_
                  obtain ⟨hPc, hDc, hFc⟩ := g5_sub3 (wc := [(a_k, (oc5 a_h a_j a_pt m_ln m_se m_lh m_br m_we m_me m_ce m_wy m_ho m_ov)), (a_h, (oc1 e_wa e_le e_st e_fo e_lc a_l a_g a_b a_s a_p a_w e_gb a_bb)), (a_g, (oc6 6 5 a_gn e_g)), (a_gn, (arI G 30 z52)), (a_b, (oc6 5 24 a_bn e_b)), (a_bn, (arI G 120 f_b)), (a_p, (oc6 8 5 a_pn e_p)), (a_pn, (arI G 40 f_p)), (a_bb, (arJ G 24 f_bb)), (a_j, (oc2 a_as a_sk)), (a_as, (arI G 8 m_as)), (a_sk, (arJ G 50 m_sk)), (a_l, (arW G 6 f_l)), (a_lo, (oc3 e_cl a_hd a_sr a_cd)), (a_sr, (arI G n_sr f_sr)), (a_cd, (arI G n_cd f_cd)), (a_hd, (arI G n_hd f_hd)), (a_pt, (arI G 200 m_pt)), (a_wk, (oc9 a_h a_k a_go a_mt)), (a_go, (arJ G 24 z23)), (a_mt, (arI G 1536 z24))]) hP hD hS hA [1, 2, 20, 21, 3, 4, 5, 6, 7, 8, 9, 10, 11, 12, 13, 14, 15, 16, 17, 18, 19] (by decide +kernel) rfl
                  refine va_calli (va_runV (As := [.int k_g, .int p_b, .int p_c, .int p_h, .int m_t]) (rest := []) ⟨hx, hb, hml, hown, hts⟩ (a_byL l G a_k a_h a_g a_gn a_b a_bn a_p a_pn a_bb a_j a_as a_sk a_l a_lo a_sr a_cd a_hd a_pt a_wk a_go a_mt a_s a_w H.size e_le e_st e_fo e_lc e_g e_b e_p e_cl m_ln m_se m_lh m_br m_we m_me m_ce m_wy m_ho m_ov k_g p_b p_c p_h m_t e_wa e_gb z52 f_b f_p f_bb m_as m_sk f_l f_sr f_cd f_hd m_pt z23 z24 n_sr n_cd n_hd h_e_g h_e_b h_e_p h_e_cl i_41 i_1 i_2 i_39 (hgk_53) (e_pk) (hgi_53) (e_f) (e_a) (e_hn) (e_hs) (e_hk) (e_c)) (cwV 5 hts gV_X11_336 rfl rfl rfl hv_X9_sightBy ⟨Nat.le_of_ble_eq_true rfl, Nat.le_of_ble_eq_true rfl⟩) (g5_preV hPc hK hDc hN hT hS hFc (ci := 9) (q0 := 18) rfl rfl) rfl rfl hl.1 rfl (lv_room (Nat.le_of_ble_eq_true rfl)) dX11_sooner_135 ⟨Nat.le_of_ble_eq_true rfl, Nat.le_of_ble_eq_true rfl⟩) hS (fun q _ h => hFc q h) hFc (fun r u t H locs ht hvm hw hB hz1 hk1 hS => ?_)
                  obtain ⟨hP1, hD1⟩ := hB
                  have hP1 := g5_ht ht hP1
                  obtain ⟨z58, z59, z60, z61, z62, z63, z64, z65, z66, z67, z68, z69, z70, z71, (i_55 : 0 ≤ z68.toInt ∧ z68.toInt ≤ 1), (i_56 : -1 ≤ z58.toInt ∧ z58.toInt ≤ 23), (i_57 : z58.toInt = -1 ∨ (p_h.toInt ≤ z58.toInt ∧ z58.toInt < m_t.toInt)), y72, rfl⟩ := hw
                  have hJ9 := va_join (wr := [(a_o, (oc11 a_h a_im a_ke a_k a_wa a_th a_ha a_wk a_r a_x e_tl e_fd e_fpl a_wd e_wn a_rf e_lr))]) hP hD [1, 2, 20, 21, 3, 4, 5, 6, 7, 8, 9, 10, 11, 12, 13, 14, 15, 16, 17, 18, 19] [0] rfl rfl (by decide +kernel) (by decide +kernel) hk1 hFc hP1 hD1
                  clear hP hD hPc hDc hFc ht hvm hz1 hk1 hP1 hD1
                  obtain ⟨hP, hD⟩ := hJ9
                  refine g5_rs [(a_o, (oc11 a_h a_im a_ke a_k a_wa a_th a_ha a_wk a_r a_x e_tl e_fd e_fpl a_wd e_wn a_rf e_lr)), (a_k, (oc5 a_h a_j a_pt z59 z60 z61 z62 z63 z64 z65 z66 z67 z68)), (a_h, (oc1 e_wa e_le e_st e_fo e_lc a_l a_g a_b a_s a_p a_w e_gb a_bb)), (a_g, (oc6 6 5 a_gn e_g)), (a_gn, (arI G 30 z52)), (a_b, (oc6 5 24 a_bn e_b)), (a_bn, (arI G 120 f_b)), (a_p, (oc6 8 5 a_pn e_p)), (a_pn, (arI G 40 f_p)), (a_bb, (arJ G 24 f_bb)), (a_j, (oc2 a_as a_sk)), (a_as, (arI G 8 z70)), (a_sk, (arJ G 50 z71)), (a_l, (arW G 6 f_l)), (a_lo, (oc3 e_cl a_hd a_sr a_cd)), (a_sr, (arI G n_sr f_sr)), (a_cd, (arI G n_cd f_cd)), (a_hd, (arI G n_hd f_hd)), (a_pt, (arI G 200 z69)), (a_wk, (oc9 a_h a_k a_go a_mt)), (a_go, (arJ G 24 z23)), (a_mt, (arI G 1536 z24))] hP hD ?_
                  clear hP hD
                  intro hP hD
                  refine g5_ti (v := z58) y72 ?_
                  refine lv_istore (lv' := [(11, .int z58), (6, .int m_t), (7, .int m_a), (10, .int m_o), (9, .int z36), (8, .int k_g), (0, .ref a_o), (1, .int p_b), (2, .int p_c), (3, .int p_h), (4, .int p_t)]) hx hb dX11_sooner_138 hl (by decide +kernel) rfl ?_
                  clear hl
                  intro ls hl
                  refine W.eq (g2 := F0 m 140 ls []) rfl ?_
                  refine lv_iload hx hb dX11_sooner_140 (lv_at hl 0 rfl) ?_
                  refine lv_iconst (v := (-1)) hx hb dX11_sooner_142 (by decide +kernel) ?_
                  refine lv_icmp_eq (tgt := 175) hx hb dX11_sooner_143 (by decide +kernel) (fun c_73 => ?_) (fun c_73 => ?_)
                  ·
                    have i_73 : z58.toInt = (-1) := g5_eq (a := z58.toInt) (b := (-1)) rfl (by decide +kernel) c_73
                    refine lv_iinc (v := (m_o + 1)) (lv' := [(10, .int (m_o + 1)), (11, .int z58), (6, .int m_t), (7, .int m_a), (9, .int z36), (8, .int k_g), (0, .ref a_o), (1, .int p_b), (2, .int p_c), (3, .int p_h), (4, .int p_t)]) hx hb dX11_sooner_175 hl (k := 3) rfl rfl (by decide +kernel) rfl ?_
                    clear hl
                    intro ls hl
                    have t_74 : (m_o + 1).toInt = m_o.toInt + 1 := g5_iadd (a := m_o.toInt) (b := 1) rfl (by decide +kernel) (by omega) (by omega)
                    refine lv_goto (tgt := 91) hx hb dX11_sooner_178 (by decide +kernel) ?_
                    exact ih_91_45 (m_t, m_a, (m_o + 1), z60, z61, z62, z63, z64, z65, z66, z67, z68, z69, z70, z71, z59, z52) ls H locs (show Int.toNat (6 - (m_o + 1).toInt) < Int.toNat (6 - m_o.toInt) from g_up (show m_o.toInt < (m_o + 1).toInt by omega) (show m_o.toInt < 6 by omega)) ⟨lv_sub hl [2, 3, 0, 4, 5, 6, 7, 8, 9, 10] rfl, hP.sub [0, 1, 2, 5, 6, 7, 8, 9, 10, 11, 12, 13, 14, 15, 16, 17, 18, 19, 20, 21, 3, 4] rfl, hD.sub [0, 1, 2, 5, 6, 7, 8, 9, 10, 11, 12, 13, 14, 15, 16, 17, 18, 19, 20, 21, 3, 4] (by decide +kernel) rfl, hS, i_39, ⟨by omega, by omega⟩, i_55, fun r c h9 => by rw [i_51, so_in ⟨by omega, by omega⟩ h9]; exact i_42 r c h9, hgk_53, hgi_53⟩
                  ·
                    have n_73 : gNe (z58.toInt) ((-1)) := g5_eqN (a := z58.toInt) (b := (-1)) rfl (by decide +kernel) c_73
                    have i_73 : z58.toInt ≥ 0 := by have z := g5_eqN (a := z58.toInt) (b := (-1)) (by rfl) (by decide +kernel) c_73; omega
                    refine lv_iload hx hb dX11_sooner_146 (lv_at hl 0 rfl) ?_
                    refine lv_istore (lv' := [(6, .int z58), (11, .int z58), (7, .int m_a), (10, .int m_o), (9, .int z36), (8, .int k_g), (0, .ref a_o), (1, .int p_b), (2, .int p_c), (3, .int p_h), (4, .int p_t)]) hx hb dX11_sooner_148 hl (by decide +kernel) rfl ?_
                    clear hl
                    intro ls hl
                    refine lv_iload hx hb dX11_sooner_150 (lv_at hl 10 rfl) ?_
                    refine lv_if_ne (tgt := 160) hx hb dX11_sooner_152 (by decide +kernel) (fun c_75 => ?_) (fun c_75 => ?_)
                    ·
                      have n_75 : gNe (p_t.toInt) (0) := g5_ne (a := p_t.toInt) (b := 0) rfl (by decide +kernel) c_75
                      have i_75 : p_t.toInt ≥ 1 := by have z := g5_ne (a := p_t.toInt) (b := 0) (by rfl) (by decide +kernel) c_75; omega
                      refine lv_iload hx hb dX11_sooner_160 (lv_at hl 10 rfl) ?_
                      refine lv_iconst (v := 1) hx hb dX11_sooner_162 (by decide +kernel) ?_
                      refine lv_icmp_ne (tgt := 171) hx hb dX11_sooner_163 (by decide +kernel) (fun c_76 => ?_) (fun c_76 => ?_)
                      ·
                        have n_76 : gNe (p_t.toInt) (1) := g5_ne (a := p_t.toInt) (b := 1) rfl (by decide +kernel) c_76
                        have i_76 : p_t.toInt ≥ 2 := by have z := g5_ne (a := p_t.toInt) (b := 1) (by rfl) (by decide +kernel) c_76; omega
                        refine lv_iload hx hb dX11_sooner_171 (lv_at hl 3 rfl) ?_
                        refine lv_istore (lv' := [(7, .int m_o), (6, .int z58), (11, .int z58), (10, .int m_o), (9, .int z36), (8, .int k_g), (0, .ref a_o), (1, .int p_b), (2, .int p_c), (3, .int p_h), (4, .int p_t)]) hx hb dX11_sooner_173 hl (by decide +kernel) rfl ?_
                        clear hl
                        intro ls hl
                        refine lv_iinc (v := (m_o + 1)) (lv' := [(10, .int (m_o + 1)), (7, .int m_o), (6, .int z58), (11, .int z58), (9, .int z36), (8, .int k_g), (0, .ref a_o), (1, .int p_b), (2, .int p_c), (3, .int p_h), (4, .int p_t)]) hx hb dX11_sooner_175 hl (k := 3) rfl rfl (by decide +kernel) rfl ?_
                        clear hl
                        intro ls hl
                        have t_77 : (m_o + 1).toInt = m_o.toInt + 1 := g5_iadd (a := m_o.toInt) (b := 1) rfl (by decide +kernel) (by omega) (by omega)
                        refine lv_goto (tgt := 91) hx hb dX11_sooner_178 (by decide +kernel) ?_
                        exact ih_91_45 (z58, m_o, (m_o + 1), z60, z61, z62, z63, z64, z65, z66, z67, z68, z69, z70, z71, z59, z52) ls H locs (show Int.toNat (6 - (m_o + 1).toInt) < Int.toNat (6 - m_o.toInt) from g_up (show m_o.toInt < (m_o + 1).toInt by omega) (show m_o.toInt < 6 by omega)) ⟨lv_sub hl [2, 1, 0, 4, 5, 6, 7, 8, 9, 10] rfl, hP.sub [0, 1, 2, 5, 6, 7, 8, 9, 10, 11, 12, 13, 14, 15, 16, 17, 18, 19, 20, 21, 3, 4] rfl, hD.sub [0, 1, 2, 5, 6, 7, 8, 9, 10, 11, 12, 13, 14, 15, 16, 17, 18, 19, 20, 21, 3, 4] (by decide +kernel) rfl, hS, ⟨by omega, by omega⟩, ⟨by omega, by omega⟩, i_55, fun r c h9 => by rw [i_51, so_in ⟨by omega, by omega⟩ h9]; exact i_42 r c h9, hgk_53, hgi_53⟩
                      ·
                        have i_76 : p_t.toInt = 1 := g5_neN (a := p_t.toInt) (b := 1) rfl (by decide +kernel) c_76
                        refine lv_iload hx hb dX11_sooner_166 (lv_at hl 5 rfl) ?_
                        refine lv_goto (tgt := 173) hx hb dX11_sooner_168 (by decide +kernel) ?_
                        refine lv_istore (lv' := [(7, .int k_g), (6, .int z58), (11, .int z58), (10, .int m_o), (9, .int z36), (8, .int k_g), (0, .ref a_o), (1, .int p_b), (2, .int p_c), (3, .int p_h), (4, .int p_t)]) hx hb dX11_sooner_173 hl (by decide +kernel) rfl ?_
                        clear hl
                        intro ls hl
                        refine lv_iinc (v := (m_o + 1)) (lv' := [(10, .int (m_o + 1)), (7, .int k_g), (6, .int z58), (11, .int z58), (9, .int z36), (8, .int k_g), (0, .ref a_o), (1, .int p_b), (2, .int p_c), (3, .int p_h), (4, .int p_t)]) hx hb dX11_sooner_175 hl (k := 3) rfl rfl (by decide +kernel) rfl ?_
                        clear hl
                        intro ls hl
                        have t_78 : (m_o + 1).toInt = m_o.toInt + 1 := g5_iadd (a := m_o.toInt) (b := 1) rfl (by decide +kernel) (by omega) (by omega)
                        refine W.eq (g2 := F0 m 178 ls []) rfl ?_
                        refine lv_goto (tgt := 91) hx hb dX11_sooner_178 (by decide +kernel) ?_
                        exact ih_91_45 (z58, k_g, (m_o + 1), z60, z61, z62, z63, z64, z65, z66, z67, z68, z69, z70, z71, z59, z52) ls H locs (show Int.toNat (6 - (m_o + 1).toInt) < Int.toNat (6 - m_o.toInt) from g_up (show m_o.toInt < (m_o + 1).toInt by omega) (show m_o.toInt < 6 by omega)) ⟨lv_sub hl [2, 1, 0, 4, 5, 6, 7, 8, 9, 10] rfl, hP.sub [0, 1, 2, 5, 6, 7, 8, 9, 10, 11, 12, 13, 14, 15, 16, 17, 18, 19, 20, 21, 3, 4] rfl, hD.sub [0, 1, 2, 5, 6, 7, 8, 9, 10, 11, 12, 13, 14, 15, 16, 17, 18, 19, 20, 21, 3, 4] (by decide +kernel) rfl, hS, ⟨by omega, by omega⟩, ⟨by omega, by omega⟩, i_55, fun r c h9 => by rw [i_51, so_in ⟨by omega, by omega⟩ h9]; exact i_42 r c h9, hgk_53, hgi_53⟩
                    ·
                      have i_75 : p_t.toInt = 0 := g5_neN (a := p_t.toInt) (b := 0) rfl (by decide +kernel) c_75
                      refine lv_iload hx hb dX11_sooner_155 (lv_at hl 1 rfl) ?_
                      refine lv_goto (tgt := 173) hx hb dX11_sooner_157 (by decide +kernel) ?_
                      refine lv_istore (lv' := [(7, .int z58), (6, .int z58), (11, .int z58), (10, .int m_o), (9, .int z36), (8, .int k_g), (0, .ref a_o), (1, .int p_b), (2, .int p_c), (3, .int p_h), (4, .int p_t)]) hx hb dX11_sooner_173 hl (by decide +kernel) rfl ?_
                      clear hl
                      intro ls hl
                      refine lv_iinc (v := (m_o + 1)) (lv' := [(10, .int (m_o + 1)), (7, .int z58), (6, .int z58), (11, .int z58), (9, .int z36), (8, .int k_g), (0, .ref a_o), (1, .int p_b), (2, .int p_c), (3, .int p_h), (4, .int p_t)]) hx hb dX11_sooner_175 hl (k := 3) rfl rfl (by decide +kernel) rfl ?_
                      clear hl
                      intro ls hl
                      have t_79 : (m_o + 1).toInt = m_o.toInt + 1 := g5_iadd (a := m_o.toInt) (b := 1) rfl (by decide +kernel) (by omega) (by omega)
                      refine W.eq (g2 := F0 m 178 ls []) rfl ?_
                      refine lv_goto (tgt := 91) hx hb dX11_sooner_178 (by decide +kernel) ?_
                      exact ih_91_45 (z58, z58, (m_o + 1), z60, z61, z62, z63, z64, z65, z66, z67, z68, z69, z70, z71, z59, z52) ls H locs (show Int.toNat (6 - (m_o + 1).toInt) < Int.toNat (6 - m_o.toInt) from g_up (show m_o.toInt < (m_o + 1).toInt by omega) (show m_o.toInt < 6 by omega)) ⟨lv_sub hl [2, 1, 0, 4, 5, 6, 7, 8, 9, 10] rfl, hP.sub [0, 1, 2, 5, 6, 7, 8, 9, 10, 11, 12, 13, 14, 15, 16, 17, 18, 19, 20, 21, 3, 4] rfl, hD.sub [0, 1, 2, 5, 6, 7, 8, 9, 10, 11, 12, 13, 14, 15, 16, 17, 18, 19, 20, 21, 3, 4] (by decide +kernel) rfl, hS, ⟨by omega, by omega⟩, ⟨by omega, by omega⟩, i_55, fun r c h9 => by rw [i_51, so_in ⟨by omega, by omega⟩ h9]; exact i_42 r c h9, hgk_53, hgi_53⟩
                ·
                  have i_54 : m_o.toInt = z36.toInt := g5_neN (a := m_o.toInt) (b := z36.toInt) rfl rfl c_54
                  refine lv_iconst (v := (-1)) hx hb dX11_sooner_120 (by decide +kernel) ?_
                  refine lv_goto (tgt := 138) hx hb dX11_sooner_121 (by decide +kernel) ?_
                  refine lv_istore (lv' := [(11, .int (-1)), (6, .int m_t), (7, .int m_a), (10, .int m_o), (9, .int z36), (8, .int k_g), (0, .ref a_o), (1, .int p_b), (2, .int p_c), (3, .int p_h), (4, .int p_t)]) hx hb dX11_sooner_138 hl (by decide +kernel) rfl ?_
                  clear hl
                  intro ls hl
                  refine lv_iload hx hb dX11_sooner_140 (lv_at hl 0 rfl) ?_
                  refine W.eq (g2 := F0 m 142 ls [.int (-1)]) rfl ?_
                  refine lv_iconst (v := (-1)) hx hb dX11_sooner_142 (by decide +kernel) ?_
                  refine lv_icmp_eq (tgt := 175) hx hb dX11_sooner_143 (by decide +kernel) (fun c_80 => ?_) (fun c_80 => ?_)
                  ·
                    refine lv_iinc (v := (m_o + 1)) (lv' := [(10, .int (m_o + 1)), (11, .int (-1)), (6, .int m_t), (7, .int m_a), (9, .int z36), (8, .int k_g), (0, .ref a_o), (1, .int p_b), (2, .int p_c), (3, .int p_h), (4, .int p_t)]) hx hb dX11_sooner_175 hl (k := 3) rfl rfl (by decide +kernel) rfl ?_
                    clear hl
                    intro ls hl
                    have t_81 : (m_o + 1).toInt = m_o.toInt + 1 := g5_iadd (a := m_o.toInt) (b := 1) rfl (by decide +kernel) (by omega) (by omega)
                    refine lv_goto (tgt := 91) hx hb dX11_sooner_178 (by decide +kernel) ?_
                    exact ih_91_45 (m_t, m_a, (m_o + 1), m_se, m_lh, m_br, m_we, m_me, m_ce, m_wy, m_ho, m_ov, m_pt, m_as, m_sk, m_ln, z52) ls H locs (show Int.toNat (6 - (m_o + 1).toInt) < Int.toNat (6 - m_o.toInt) from g_up (show m_o.toInt < (m_o + 1).toInt by omega) (show m_o.toInt < 6 by omega)) ⟨lv_sub hl [2, 3, 0, 4, 5, 6, 7, 8, 9, 10] rfl, hP, hD, hS, i_39, ⟨by omega, by omega⟩, i_41, fun r c h9 => by rw [i_51, so_in ⟨by omega, by omega⟩ h9]; exact i_42 r c h9, hgk_53, hgi_53⟩
                  ·
                    exact absurd c_80 (by decide +kernel)
          ·
            have i_26 : z9.toInt = (-1) := g5_neN (a := z9.toInt) (b := (-1)) rfl (by decide +kernel) c_26
            refine lv_bipush (v := 24) hx hb dX11_sooner_43 (by decide +kernel) ?_
            refine lv_goto (tgt := 50) hx hb dX11_sooner_45 (by decide +kernel) ?_
            refine lv_istore (lv' := [(6, .int 24), (5, .int z9), (0, .ref a_o), (1, .int p_b), (2, .int p_c), (3, .int p_h), (4, .int p_t)]) hx hb dX11_sooner_50 hl (by decide +kernel) rfl ?_
            clear hl
            intro ls hl
            refine lv_iconst (v := (-1)) hx hb dX11_sooner_52 (by decide +kernel) ?_
            refine W.eq (g2 := F0 m 53 ls [.int (-1)]) rfl ?_
            refine lv_istore (lv' := [(7, .int (-1)), (6, .int 24), (5, .int z9), (0, .ref a_o), (1, .int p_b), (2, .int p_c), (3, .int p_h), (4, .int p_t)]) hx hb dX11_sooner_53 hl (by decide +kernel) rfl ?_
            clear hl
            intro ls hl
            refine lv_iconst (v := 0) hx hb dX11_sooner_55 (by decide +kernel) ?_
            refine lv_istore (lv' := [(8, .int 0), (7, .int (-1)), (6, .int 24), (5, .int z9), (0, .ref a_o), (1, .int p_b), (2, .int p_c), (3, .int p_h), (4, .int p_t)]) hx hb dX11_sooner_56 hl (by decide +kernel) rfl ?_
            clear hl
            intro ls hl
            refine g5_loop (α := (Int32) × (Int32) × (Int32) × (Int32) × (Int32) × (Int32) × (Int32) × (Int32) × (Int32) × (Int32) × (Int32) × (Int32) × (Nat → Int32) × (Nat → Int32) × (Nat → Int64) × (Int32) × (Nat → Int32)) (fun (q : (Int32) × (Int32) × (Int32) × (Int32) × (Int32) × (Int32) × (Int32) × (Int32) × (Int32) × (Int32) × (Int32) × (Int32) × (Nat → Int32) × (Nat → Int32) × (Nat → Int64) × (Int32) × (Nat → Int32)) (ls : Array Slot) (H : Heap) (locs : List Loc) => match q with | (k_t, k_a, k_g, k_se, k_lh, k_br, k_we, k_me, k_ce, k_wy, k_ho, k_ov, k_pt, k_as, k_sk, k_ln, k_f) => lv_has ls 12 [(6, .int k_t), (7, .int k_a), (8, .int k_g), (0, .ref a_o), (1, .int p_b), (2, .int p_c), (3, .int p_h), (4, .int p_t)] ∧ va_P G.1 vwCl [(a_o, (oc11 a_h a_im a_ke a_k a_wa a_th a_ha a_wk a_r a_x e_tl e_fd e_fpl a_wd e_wn a_rf e_lr)), (a_k, (oc5 a_h a_j a_pt k_ln k_se k_lh k_br k_we k_me k_ce k_wy k_ho k_ov)), (a_h, (oc1 e_wa e_le e_st e_fo e_lc a_l a_g a_b a_s a_p a_w e_gb a_bb)), (a_g, (oc6 6 5 a_gn e_g)), (a_gn, (arI G 30 k_f)), (a_b, (oc6 5 24 a_bn e_b)), (a_bn, (arI G 120 f_b)), (a_p, (oc6 8 5 a_pn e_p)), (a_pn, (arI G 40 f_p)), (a_bb, (arJ G 24 f_bb)), (a_j, (oc2 a_as a_sk)), (a_as, (arI G 8 k_as)), (a_sk, (arJ G 50 k_sk)), (a_l, (arW G 6 f_l)), (a_lo, (oc3 e_cl a_hd a_sr a_cd)), (a_sr, (arI G n_sr f_sr)), (a_cd, (arI G n_cd f_cd)), (a_hd, (arI G n_hd f_hd)), (a_pt, (arI G 200 k_pt)), (a_wk, (oc9 a_h a_k a_go a_mt)), (a_go, (arJ G 24 z23)), (a_mt, (arI G 1536 z24))] H ∧ va_D A [(a_o, (oc11 a_h a_im a_ke a_k a_wa a_th a_ha a_wk a_r a_x e_tl e_fd e_fpl a_wd e_wn a_rf e_lr)), (a_k, (oc5 a_h a_j a_pt k_ln k_se k_lh k_br k_we k_me k_ce k_wy k_ho k_ov)), (a_h, (oc1 e_wa e_le e_st e_fo e_lc a_l a_g a_b a_s a_p a_w e_gb a_bb)), (a_g, (oc6 6 5 a_gn e_g)), (a_gn, (arI G 30 k_f)), (a_b, (oc6 5 24 a_bn e_b)), (a_bn, (arI G 120 f_b)), (a_p, (oc6 8 5 a_pn e_p)), (a_pn, (arI G 40 f_p)), (a_bb, (arJ G 24 f_bb)), (a_j, (oc2 a_as a_sk)), (a_as, (arI G 8 k_as)), (a_sk, (arJ G 50 k_sk)), (a_l, (arW G 6 f_l)), (a_lo, (oc3 e_cl a_hd a_sr a_cd)), (a_sr, (arI G n_sr f_sr)), (a_cd, (arI G n_cd f_cd)), (a_hd, (arI G n_hd f_hd)), (a_pt, (arI G 200 k_pt)), (a_wk, (oc9 a_h a_k a_go a_mt)), (a_go, (arJ G 24 z23)), (a_mt, (arI G 1536 z24))] ∧ va_S A s.heap H locs ∧ (0 ≤ k_t.toInt ∧ k_t.toInt ≤ 24) ∧ (0 ≤ k_g.toInt ∧ k_g.toInt ≤ 6) ∧ (0 ≤ k_ov.toInt ∧ k_ov.toInt ≤ 1) ∧ (∀ r c : Int, tget k_f e_g.toInt 5 r c = tget f_g e_g.toInt 5 r c) ∧ (gOK k_f e_g.toInt) ∧ (inT e_gb k_f e_g.toInt)) (fun (q : (Int32) × (Int32) × (Int32) × (Int32) × (Int32) × (Int32) × (Int32) × (Int32) × (Int32) × (Int32) × (Int32) × (Int32) × (Nat → Int32) × (Nat → Int32) × (Nat → Int64) × (Int32) × (Nat → Int32)) => match q with | (k_t, k_a, k_g, k_se, k_lh, k_br, k_we, k_me, k_ce, k_wy, k_ho, k_ov, k_pt, k_as, k_sk, k_ln, k_f) => Int.toNat (6 - k_g.toInt)) (24, (-1), 0, z11, z12, z13, z14, z15, z16, z17, z18, z19, z20, z21, z22, z10, f_g) ⟨lv_sub hl [2, 1, 0, 4, 5, 6, 7, 8] rfl, hP, hD, hS, ⟨by decide, by decide⟩, ⟨by decide, by decide⟩, i_6, fun _ _ => rfl, e_gk, e_gi⟩ ?_
            rintro ⟨k_t, k_a, k_g, k_se, k_lh, k_br, k_we, k_me, k_ce, k_wy, k_ho, k_ov, k_pt, k_as, k_sk, k_ln, k_f⟩ ls H locs ⟨hl, hP, hD, hS, (i_82 : 0 ≤ k_t.toInt ∧ k_t.toInt ≤ 24), (i_83 : 0 ≤ k_g.toInt ∧ k_g.toInt ≤ 6), (i_84 : 0 ≤ k_ov.toInt ∧ k_ov.toInt ≤ 1), (i_85 : ∀ r c : Int, tget k_f e_g.toInt 5 r c = tget f_g e_g.toInt 5 r c), (i_86 : gOK k_f e_g.toInt), (i_87 : inT e_gb k_f e_g.toInt)⟩ ih_58_88
            replace hl : lv_has ls 12 [(6, .int k_t), (7, .int k_a), (8, .int k_g), (0, .ref a_o), (1, .int p_b), (2, .int p_c), (3, .int p_h), (4, .int p_t)] := hl
            refine g5_rs [(a_o, (oc11 a_h a_im a_ke a_k a_wa a_th a_ha a_wk a_r a_x e_tl e_fd e_fpl a_wd e_wn a_rf e_lr)), (a_k, (oc5 a_h a_j a_pt k_ln k_se k_lh k_br k_we k_me k_ce k_wy k_ho k_ov)), (a_h, (oc1 e_wa e_le e_st e_fo e_lc a_l a_g a_b a_s a_p a_w e_gb a_bb)), (a_g, (oc6 6 5 a_gn e_g)), (a_gn, (arI G 30 k_f)), (a_b, (oc6 5 24 a_bn e_b)), (a_bn, (arI G 120 f_b)), (a_p, (oc6 8 5 a_pn e_p)), (a_pn, (arI G 40 f_p)), (a_bb, (arJ G 24 f_bb)), (a_j, (oc2 a_as a_sk)), (a_as, (arI G 8 k_as)), (a_sk, (arJ G 50 k_sk)), (a_l, (arW G 6 f_l)), (a_lo, (oc3 e_cl a_hd a_sr a_cd)), (a_sr, (arI G n_sr f_sr)), (a_cd, (arI G n_cd f_cd)), (a_hd, (arI G n_hd f_hd)), (a_pt, (arI G 200 k_pt)), (a_wk, (oc9 a_h a_k a_go a_mt)), (a_go, (arJ G 24 z23)), (a_mt, (arI G 1536 z24))] hP hD ?_
            clear hP hD
            intro hP hD
            refine lv_iload hx hb dX11_sooner_58 (lv_at hl 2 rfl) ?_
            refine lv_aload_n hx hb dX11_sooner_60 rfl (lv_at hl 3 rfl) ?_
            refine va_get (D := G.1) (ci := 11) (v := .ref a_h) (C := RX11) (T := TX11) (N := 17) hx hb hts inG_X11 hown hK hP 0 rfl rfl 0 (by decide +kernel) (hts _ fl_X11_12) (fun _ h9 => h9) rfl dX11_sooner_61 ?_
            refine va_get (D := G.1) (ci := 1) (v := .ref a_g) (C := RX1) (T := TX1) (N := 13) hx hb hts inG_X1 hown hK hP 2 rfl rfl 6 (by decide +kernel) (hts _ fl_X11_136) (fun _ h9 => h9) rfl dX11_sooner_64 ?_
            refine W.eq (g2 := F0 m 67 ls [.ref a_g, .int k_g]) rfl ?_
            refine va_get (D := G.1) (ci := 6) (v := .int e_g) (C := RX6) (T := TX6) (N := 4) hx hb hts inG_X6 hown hK hP 3 rfl rfl 3 (by decide +kernel) (hts _ fl_X11_238) (fun _ h9 => h9) rfl dX11_sooner_67 ?_
            refine lv_icmp_ge (tgt := 202) hx hb dX11_sooner_70 (by decide +kernel) (fun c_89 => ?_) (fun c_89 => ?_)
            ·
              have i_89 : k_g.toInt ≥ e_g.toInt := g5_ge (a := k_g.toInt) (b := e_g.toInt) rfl rfl c_89
              refine lv_iload hx hb dX11_sooner_202 (lv_at hl 1 rfl) ?_
              exact W.iret (v := k_a) hx hb hr (fun t ht hW => ⟨⟨k_a, [(a_o, (oc11 a_h a_im a_ke a_k a_wa a_th a_ha a_wk a_r a_x e_tl e_fd e_fpl a_wd e_wn a_rf e_lr)), (a_k, (oc5 a_h a_j a_pt k_ln k_se k_lh k_br k_we k_me k_ce k_wy k_ho k_ov)), (a_h, (oc1 e_wa e_le e_st e_fo e_lc a_l a_g a_b a_s a_p a_w e_gb a_bb)), (a_g, (oc6 6 5 a_gn e_g)), (a_gn, (arI G 30 k_f)), (a_b, (oc6 5 24 a_bn e_b)), (a_bn, (arI G 120 f_b)), (a_p, (oc6 8 5 a_pn e_p)), (a_pn, (arI G 40 f_p)), (a_bb, (arJ G 24 f_bb)), (a_j, (oc2 a_as a_sk)), (a_as, (arI G 8 k_as)), (a_sk, (arJ G 50 k_sk)), (a_l, (arW G 6 f_l)), (a_lo, (oc3 e_cl a_hd a_sr a_cd)), (a_sr, (arI G n_sr f_sr)), (a_cd, (arI G n_cd f_cd)), (a_hd, (arI G n_hd f_hd)), (a_pt, (arI G 200 k_pt)), (a_wk, (oc9 a_h a_k a_go a_mt)), (a_go, (arJ G 24 z23)), (a_mt, (arI G 1536 z24))], rfl, ⟨k_a, k_ln, k_se, k_lh, k_br, k_we, k_me, k_ce, k_wy, k_ho, k_ov, k_pt, k_as, k_sk, z23, z24, k_f, i_84, i_86, i_87, i_85, rfl, rfl⟩, by rw [ht]; exact hP.sub [0, 1, 2, 3, 4, 5, 6, 7, 8, 9, 10, 11, 12, 13, 14, 15, 16, 17, 18, 19, 20, 21] rfl, hD.sub [0, 1, 2, 3, 4, 5, 6, 7, 8, 9, 10, 11, 12, 13, 14, 15, 16, 17, 18, 19, 20, 21] (by decide +kernel) rfl⟩, hS.F ht⟩) hS.2.2 dX11_sooner_204
            ·
              have i_89 : k_g.toInt < e_g.toInt := g5_geN (a := k_g.toInt) (b := e_g.toInt) rfl rfl c_89
              refine lv_aload_n hx hb dX11_sooner_73 rfl (lv_at hl 3 rfl) ?_
              refine va_get (D := G.1) (ci := 11) (v := .ref a_h) (C := RX11) (T := TX11) (N := 17) hx hb hts inG_X11 hown hK hP 0 rfl rfl 0 (by decide +kernel) (hts _ fl_X11_12) (fun _ h9 => h9) rfl dX11_sooner_74 ?_
              refine va_get (D := G.1) (ci := 1) (v := .ref a_g) (C := RX1) (T := TX1) (N := 13) hx hb hts inG_X1 hown hK hP 2 rfl rfl 6 (by decide +kernel) (hts _ fl_X11_136) (fun _ h9 => h9) rfl dX11_sooner_77 ?_
              refine lv_iload hx hb dX11_sooner_80 (lv_at hl 2 rfl) ?_
              refine W.eq (g2 := F0 m 82 ls [.int k_g, .ref a_g]) rfl ?_
              refine lv_iconst (v := 1) hx hb dX11_sooner_82 (by decide +kernel) ?_
              obtain ⟨hPc, hDc, hFc⟩ := g5_sub3 (wc := [(a_g, (oc6 6 5 a_gn e_g)), (a_gn, (arI G 30 k_f))]) hP hD hS hA [3, 4] (by decide +kernel) rfl
              refine va_calli (va_runV (As := [.int k_g, .int 1]) (rest := []) ⟨hx, hb, hml, hown, hts⟩ (t_get_G l G a_g a_gn H.size e_g k_g 1 k_f h_e_g) (cwV 2 hts gV_X11_163 rfl rfl rfl hv_X6_get ⟨Nat.le_of_ble_eq_true rfl, Nat.le_of_ble_eq_true rfl⟩) (g5_preV hPc hK hDc hN hT hS hFc (ci := 6) (q0 := 0) rfl rfl) rfl rfl hl.1 rfl (lv_room (Nat.le_of_ble_eq_true rfl)) dX11_sooner_83 ⟨Nat.le_of_ble_eq_true rfl, Nat.le_of_ble_eq_true rfl⟩) hS (fun q _ h => hFc q h) hFc (fun r u t H locs ht hvm hw hB hz1 hk1 hS => ?_)
              obtain ⟨hP1, hD1⟩ := hB
              have hP1 := g5_ht ht hP1
              obtain ⟨z91, (i_90 : z91 = tget k_f e_g.toInt 5 k_g.toInt (1 : Int32).toInt), y92, rfl⟩ := hw
              have hJ9 := va_join (wr := [(a_o, (oc11 a_h a_im a_ke a_k a_wa a_th a_ha a_wk a_r a_x e_tl e_fd e_fpl a_wd e_wn a_rf e_lr)), (a_k, (oc5 a_h a_j a_pt k_ln k_se k_lh k_br k_we k_me k_ce k_wy k_ho k_ov)), (a_h, (oc1 e_wa e_le e_st e_fo e_lc a_l a_g a_b a_s a_p a_w e_gb a_bb)), (a_b, (oc6 5 24 a_bn e_b)), (a_bn, (arI G 120 f_b)), (a_p, (oc6 8 5 a_pn e_p)), (a_pn, (arI G 40 f_p)), (a_bb, (arJ G 24 f_bb)), (a_j, (oc2 a_as a_sk)), (a_as, (arI G 8 k_as)), (a_sk, (arJ G 50 k_sk)), (a_l, (arW G 6 f_l)), (a_lo, (oc3 e_cl a_hd a_sr a_cd)), (a_sr, (arI G n_sr f_sr)), (a_cd, (arI G n_cd f_cd)), (a_hd, (arI G n_hd f_hd)), (a_pt, (arI G 200 k_pt)), (a_wk, (oc9 a_h a_k a_go a_mt)), (a_go, (arJ G 24 z23)), (a_mt, (arI G 1536 z24))]) hP hD [3, 4] [0, 1, 2, 5, 6, 7, 8, 9, 10, 11, 12, 13, 14, 15, 16, 17, 18, 19, 20, 21] rfl rfl (by decide +kernel) (by decide +kernel) hk1 hFc hP1 hD1
              clear hP hD hPc hDc hFc ht hvm hz1 hk1 hP1 hD1
              obtain ⟨hP, hD⟩ := hJ9
              refine g5_rs [(a_o, (oc11 a_h a_im a_ke a_k a_wa a_th a_ha a_wk a_r a_x e_tl e_fd e_fpl a_wd e_wn a_rf e_lr)), (a_k, (oc5 a_h a_j a_pt k_ln k_se k_lh k_br k_we k_me k_ce k_wy k_ho k_ov)), (a_h, (oc1 e_wa e_le e_st e_fo e_lc a_l a_g a_b a_s a_p a_w e_gb a_bb)), (a_b, (oc6 5 24 a_bn e_b)), (a_bn, (arI G 120 f_b)), (a_p, (oc6 8 5 a_pn e_p)), (a_pn, (arI G 40 f_p)), (a_bb, (arJ G 24 f_bb)), (a_j, (oc2 a_as a_sk)), (a_as, (arI G 8 k_as)), (a_sk, (arJ G 50 k_sk)), (a_l, (arW G 6 f_l)), (a_lo, (oc3 e_cl a_hd a_sr a_cd)), (a_sr, (arI G n_sr f_sr)), (a_cd, (arI G n_cd f_cd)), (a_hd, (arI G n_hd f_hd)), (a_pt, (arI G 200 k_pt)), (a_wk, (oc9 a_h a_k a_go a_mt)), (a_go, (arJ G 24 z23)), (a_mt, (arI G 1536 z24)), (a_g, (oc6 6 5 a_gn e_g)), (a_gn, (arI G 30 k_f))] hP hD ?_
              clear hP hD
              intro hP hD
              refine g5_ti (v := z91) y92 ?_
              have hg_93 : 0 ≤ z91.toInt ∧ z91.toInt ≤ 5 := by rw [i_90]; exact (i_86 k_g.toInt (by omega) (by omega)).2.1
              refine lv_istore (lv' := [(9, .int z91), (6, .int k_t), (7, .int k_a), (8, .int k_g), (0, .ref a_o), (1, .int p_b), (2, .int p_c), (3, .int p_h), (4, .int p_t)]) hx hb dX11_sooner_86 hl (by decide +kernel) rfl ?_
              clear hl
              intro ls hl
              refine lv_iconst (v := 0) hx hb dX11_sooner_88 (by decide +kernel) ?_
              refine lv_istore (lv' := [(10, .int 0), (9, .int z91), (6, .int k_t), (7, .int k_a), (8, .int k_g), (0, .ref a_o), (1, .int p_b), (2, .int p_c), (3, .int p_h), (4, .int p_t)]) hx hb dX11_sooner_89 hl (by decide +kernel) rfl ?_
              clear hl
              intro ls hl
              refine g5_loop (α := (Int32) × (Int32) × (Int32) × (Int32) × (Int32) × (Int32) × (Int32) × (Int32) × (Int32) × (Int32) × (Int32) × (Int32) × (Nat → Int32) × (Nat → Int32) × (Nat → Int64) × (Int32) × (Nat → Int32)) (fun (q : (Int32) × (Int32) × (Int32) × (Int32) × (Int32) × (Int32) × (Int32) × (Int32) × (Int32) × (Int32) × (Int32) × (Int32) × (Nat → Int32) × (Nat → Int32) × (Nat → Int64) × (Int32) × (Nat → Int32)) (ls : Array Slot) (H : Heap) (locs : List Loc) => match q with | (m_t, m_a, m_o, m_se, m_lh, m_br, m_we, m_me, m_ce, m_wy, m_ho, m_ov, m_pt, m_as, m_sk, m_ln, m_f) => lv_has ls 12 [(6, .int m_t), (7, .int m_a), (10, .int m_o), (9, .int z91), (8, .int k_g), (0, .ref a_o), (1, .int p_b), (2, .int p_c), (3, .int p_h), (4, .int p_t)] ∧ va_P G.1 vwCl [(a_o, (oc11 a_h a_im a_ke a_k a_wa a_th a_ha a_wk a_r a_x e_tl e_fd e_fpl a_wd e_wn a_rf e_lr)), (a_k, (oc5 a_h a_j a_pt m_ln m_se m_lh m_br m_we m_me m_ce m_wy m_ho m_ov)), (a_h, (oc1 e_wa e_le e_st e_fo e_lc a_l a_g a_b a_s a_p a_w e_gb a_bb)), (a_b, (oc6 5 24 a_bn e_b)), (a_bn, (arI G 120 f_b)), (a_p, (oc6 8 5 a_pn e_p)), (a_pn, (arI G 40 f_p)), (a_bb, (arJ G 24 f_bb)), (a_j, (oc2 a_as a_sk)), (a_as, (arI G 8 m_as)), (a_sk, (arJ G 50 m_sk)), (a_l, (arW G 6 f_l)), (a_lo, (oc3 e_cl a_hd a_sr a_cd)), (a_sr, (arI G n_sr f_sr)), (a_cd, (arI G n_cd f_cd)), (a_hd, (arI G n_hd f_hd)), (a_pt, (arI G 200 m_pt)), (a_wk, (oc9 a_h a_k a_go a_mt)), (a_go, (arJ G 24 z23)), (a_mt, (arI G 1536 z24)), (a_g, (oc6 6 5 a_gn e_g)), (a_gn, (arI G 30 m_f))] H ∧ va_D A [(a_o, (oc11 a_h a_im a_ke a_k a_wa a_th a_ha a_wk a_r a_x e_tl e_fd e_fpl a_wd e_wn a_rf e_lr)), (a_k, (oc5 a_h a_j a_pt m_ln m_se m_lh m_br m_we m_me m_ce m_wy m_ho m_ov)), (a_h, (oc1 e_wa e_le e_st e_fo e_lc a_l a_g a_b a_s a_p a_w e_gb a_bb)), (a_b, (oc6 5 24 a_bn e_b)), (a_bn, (arI G 120 f_b)), (a_p, (oc6 8 5 a_pn e_p)), (a_pn, (arI G 40 f_p)), (a_bb, (arJ G 24 f_bb)), (a_j, (oc2 a_as a_sk)), (a_as, (arI G 8 m_as)), (a_sk, (arJ G 50 m_sk)), (a_l, (arW G 6 f_l)), (a_lo, (oc3 e_cl a_hd a_sr a_cd)), (a_sr, (arI G n_sr f_sr)), (a_cd, (arI G n_cd f_cd)), (a_hd, (arI G n_hd f_hd)), (a_pt, (arI G 200 m_pt)), (a_wk, (oc9 a_h a_k a_go a_mt)), (a_go, (arJ G 24 z23)), (a_mt, (arI G 1536 z24)), (a_g, (oc6 6 5 a_gn e_g)), (a_gn, (arI G 30 m_f))] ∧ va_S A s.heap H locs ∧ (0 ≤ m_t.toInt ∧ m_t.toInt ≤ 24) ∧ (0 ≤ m_o.toInt ∧ m_o.toInt ≤ 6) ∧ (0 ≤ m_ov.toInt ∧ m_ov.toInt ≤ 1) ∧ (∀ r c : Int, ¬ (r = k_g.toInt ∧ c = 1) → tget m_f e_g.toInt 5 r c = tget k_f e_g.toInt 5 r c) ∧ (gOK m_f e_g.toInt) ∧ (inT e_gb m_f e_g.toInt)) (fun (q : (Int32) × (Int32) × (Int32) × (Int32) × (Int32) × (Int32) × (Int32) × (Int32) × (Int32) × (Int32) × (Int32) × (Int32) × (Nat → Int32) × (Nat → Int32) × (Nat → Int64) × (Int32) × (Nat → Int32)) => match q with | (m_t, m_a, m_o, m_se, m_lh, m_br, m_we, m_me, m_ce, m_wy, m_ho, m_ov, m_pt, m_as, m_sk, m_ln, m_f) => Int.toNat (6 - m_o.toInt)) (k_t, k_a, 0, k_se, k_lh, k_br, k_we, k_me, k_ce, k_wy, k_ho, k_ov, k_pt, k_as, k_sk, k_ln, k_f) ⟨lv_sub hl [2, 3, 0, 1, 4, 5, 6, 7, 8, 9] rfl, hP, hD, hS, i_82, ⟨by decide, by decide⟩, i_84, fun _ _ _ => rfl, i_86, i_87⟩ ?_
              rintro ⟨m_t, m_a, m_o, m_se, m_lh, m_br, m_we, m_me, m_ce, m_wy, m_ho, m_ov, m_pt, m_as, m_sk, m_ln, m_f⟩ ls H locs ⟨hl, hP, hD, hS, (i_94 : 0 ≤ m_t.toInt ∧ m_t.toInt ≤ 24), (i_95 : 0 ≤ m_o.toInt ∧ m_o.toInt ≤ 6), (i_96 : 0 ≤ m_ov.toInt ∧ m_ov.toInt ≤ 1), (i_97 : ∀ r c : Int, ¬ (r = k_g.toInt ∧ c = 1) → tget m_f e_g.toInt 5 r c = tget k_f e_g.toInt 5 r c), (i_98 : gOK m_f e_g.toInt), (i_99 : inT e_gb m_f e_g.toInt)⟩ ih_91_100
              replace hl : lv_has ls 12 [(6, .int m_t), (7, .int m_a), (10, .int m_o), (9, .int z91), (8, .int k_g), (0, .ref a_o), (1, .int p_b), (2, .int p_c), (3, .int p_h), (4, .int p_t)] := hl
              refine g5_rs [(a_o, (oc11 a_h a_im a_ke a_k a_wa a_th a_ha a_wk a_r a_x e_tl e_fd e_fpl a_wd e_wn a_rf e_lr)), (a_k, (oc5 a_h a_j a_pt m_ln m_se m_lh m_br m_we m_me m_ce m_wy m_ho m_ov)), (a_h, (oc1 e_wa e_le e_st e_fo e_lc a_l a_g a_b a_s a_p a_w e_gb a_bb)), (a_b, (oc6 5 24 a_bn e_b)), (a_bn, (arI G 120 f_b)), (a_p, (oc6 8 5 a_pn e_p)), (a_pn, (arI G 40 f_p)), (a_bb, (arJ G 24 f_bb)), (a_j, (oc2 a_as a_sk)), (a_as, (arI G 8 m_as)), (a_sk, (arJ G 50 m_sk)), (a_l, (arW G 6 f_l)), (a_lo, (oc3 e_cl a_hd a_sr a_cd)), (a_sr, (arI G n_sr f_sr)), (a_cd, (arI G n_cd f_cd)), (a_hd, (arI G n_hd f_hd)), (a_pt, (arI G 200 m_pt)), (a_wk, (oc9 a_h a_k a_go a_mt)), (a_go, (arJ G 24 z23)), (a_mt, (arI G 1536 z24)), (a_g, (oc6 6 5 a_gn e_g)), (a_gn, (arI G 30 m_f))] hP hD ?_
              clear hP hD
              intro hP hD
              refine lv_iload hx hb dX11_sooner_91 (lv_at hl 2 rfl) ?_
              refine lv_bipush (v := 6) hx hb dX11_sooner_93 (by decide +kernel) ?_
              refine lv_icmp_ge (tgt := 181) hx hb dX11_sooner_95 (by decide +kernel) (fun c_101 => ?_) (fun c_101 => ?_)
              ·
                have i_101 : m_o.toInt ≥ 6 := g5_ge (a := m_o.toInt) (b := 6) rfl (by decide +kernel) c_101
                refine lv_aload_n hx hb dX11_sooner_181 rfl (lv_at hl 5 rfl) ?_
                refine va_get (D := G.1) (ci := 11) (v := .ref a_h) (C := RX11) (T := TX11) (N := 17) hx hb hts inG_X11 hown hK hP 0 rfl rfl 0 (by decide +kernel) (hts _ fl_X11_12) (fun _ h9 => h9) rfl dX11_sooner_182 ?_
                refine va_get (D := G.1) (ci := 1) (v := .ref a_g) (C := RX1) (T := TX1) (N := 13) hx hb hts inG_X1 hown hK hP 2 rfl rfl 6 (by decide +kernel) (hts _ fl_X11_136) (fun _ h9 => h9) rfl dX11_sooner_185 ?_
                refine lv_iload hx hb dX11_sooner_188 (lv_at hl 4 rfl) ?_
                refine W.eq (g2 := F0 m 190 ls [.int k_g, .ref a_g]) rfl ?_
                refine lv_iconst (v := 1) hx hb dX11_sooner_190 (by decide +kernel) ?_
                refine lv_iload hx hb dX11_sooner_191 (lv_at hl 3 rfl) ?_
                obtain ⟨hPc, hDc, hFc⟩ := g5_sub3 (wc := [(a_g, (oc6 6 5 a_gn e_g)), (a_gn, (arI G 30 m_f))]) hP hD hS hA [20, 21] (by decide +kernel) rfl
                refine va_callv (va_runV (As := [.int k_g, .int 1, .int z91]) (rest := []) ⟨hx, hb, hml, hown, hts⟩ (t_set_G l G a_g a_gn H.size e_g k_g 1 z91 m_f h_e_g) (cwV 3 hts gV_X11_149 rfl rfl rfl hv_X6_set ⟨Nat.le_of_ble_eq_true rfl, Nat.le_of_ble_eq_true rfl⟩) (g5_preV hPc hK hDc hN hT hS hFc (ci := 6) (q0 := 0) rfl rfl) rfl rfl hl.1 rfl (lv_room (Nat.le_of_ble_eq_true rfl)) dX11_sooner_193 ⟨Nat.le_of_ble_eq_true rfl, Nat.le_of_ble_eq_true rfl⟩) hS (fun q _ h => hFc q h) hFc (fun u t H locs ht hvm hw hB hz1 hk1 hS => ?_)
                obtain ⟨hP1, hD1⟩ := hB
                have hP1 := g5_ht ht hP1
                obtain ⟨z103, (i_102 : z103 = tset m_f e_g.toInt 5 k_g.toInt (1 : Int32).toInt z91), rfl⟩ := hw
                have hJ9 := va_join (wr := [(a_o, (oc11 a_h a_im a_ke a_k a_wa a_th a_ha a_wk a_r a_x e_tl e_fd e_fpl a_wd e_wn a_rf e_lr)), (a_k, (oc5 a_h a_j a_pt m_ln m_se m_lh m_br m_we m_me m_ce m_wy m_ho m_ov)), (a_h, (oc1 e_wa e_le e_st e_fo e_lc a_l a_g a_b a_s a_p a_w e_gb a_bb)), (a_b, (oc6 5 24 a_bn e_b)), (a_bn, (arI G 120 f_b)), (a_p, (oc6 8 5 a_pn e_p)), (a_pn, (arI G 40 f_p)), (a_bb, (arJ G 24 f_bb)), (a_j, (oc2 a_as a_sk)), (a_as, (arI G 8 m_as)), (a_sk, (arJ G 50 m_sk)), (a_l, (arW G 6 f_l)), (a_lo, (oc3 e_cl a_hd a_sr a_cd)), (a_sr, (arI G n_sr f_sr)), (a_cd, (arI G n_cd f_cd)), (a_hd, (arI G n_hd f_hd)), (a_pt, (arI G 200 m_pt)), (a_wk, (oc9 a_h a_k a_go a_mt)), (a_go, (arJ G 24 z23)), (a_mt, (arI G 1536 z24))]) hP hD [20, 21] [0, 1, 2, 3, 4, 5, 6, 7, 8, 9, 10, 11, 12, 13, 14, 15, 16, 17, 18, 19] rfl rfl (by decide +kernel) (by decide +kernel) hk1 hFc hP1 hD1
                clear hP hD hPc hDc hFc ht hvm hz1 hk1 hP1 hD1
                obtain ⟨hP, hD⟩ := hJ9
                refine g5_rs [(a_o, (oc11 a_h a_im a_ke a_k a_wa a_th a_ha a_wk a_r a_x e_tl e_fd e_fpl a_wd e_wn a_rf e_lr)), (a_k, (oc5 a_h a_j a_pt m_ln m_se m_lh m_br m_we m_me m_ce m_wy m_ho m_ov)), (a_h, (oc1 e_wa e_le e_st e_fo e_lc a_l a_g a_b a_s a_p a_w e_gb a_bb)), (a_b, (oc6 5 24 a_bn e_b)), (a_bn, (arI G 120 f_b)), (a_p, (oc6 8 5 a_pn e_p)), (a_pn, (arI G 40 f_p)), (a_bb, (arJ G 24 f_bb)), (a_j, (oc2 a_as a_sk)), (a_as, (arI G 8 m_as)), (a_sk, (arJ G 50 m_sk)), (a_l, (arW G 6 f_l)), (a_lo, (oc3 e_cl a_hd a_sr a_cd)), (a_sr, (arI G n_sr f_sr)), (a_cd, (arI G n_cd f_cd)), (a_hd, (arI G n_hd f_hd)), (a_pt, (arI G 200 m_pt)), (a_wk, (oc9 a_h a_k a_go a_mt)), (a_go, (arJ G 24 z23)), (a_mt, (arI G 1536 z24)), (a_g, (oc6 6 5 a_gn e_g)), (a_gn, (arI G 30 z103))] hP hD ?_
                clear hP hD
                intro hP hD
                have hgk_104 : gOK z103 e_g.toInt := by rw [i_102]; exact g_turn i_98 (by omega) (Or.inl ⟨by decide, by omega, by omega⟩)
                have hgi_104 : inT e_gb z103 e_g.toInt := by rw [i_102]; exact g_inTturn i_99 (by omega) ⟨by decide, by decide⟩
                refine lv_iinc (v := (k_g + 1)) (lv' := [(8, .int (k_g + 1)), (6, .int m_t), (7, .int m_a), (10, .int m_o), (9, .int z91), (0, .ref a_o), (1, .int p_b), (2, .int p_c), (3, .int p_h), (4, .int p_t)]) hx hb dX11_sooner_196 hl (k := 4) rfl rfl (by decide +kernel) rfl ?_
                clear hl
                intro ls hl
                have t_105 : (k_g + 1).toInt = k_g.toInt + 1 := g5_iadd (a := k_g.toInt) (b := 1) rfl (by decide +kernel) (by omega) (by omega)
                refine lv_goto (tgt := 58) hx hb dX11_sooner_199 (by decide +kernel) ?_
                exact ih_58_88 (m_t, m_a, (k_g + 1), m_se, m_lh, m_br, m_we, m_me, m_ce, m_wy, m_ho, m_ov, m_pt, m_as, m_sk, m_ln, z103) ls H locs (show Int.toNat (6 - (k_g + 1).toInt) < Int.toNat (6 - k_g.toInt) from g_up (show k_g.toInt < (k_g + 1).toInt by omega) (show k_g.toInt < 6 by omega)) ⟨lv_sub hl [1, 2, 0, 5, 6, 7, 8, 9] rfl, hP.sub [0, 1, 2, 20, 21, 3, 4, 5, 6, 7, 8, 9, 10, 11, 12, 13, 14, 15, 16, 17, 18, 19] rfl, hD.sub [0, 1, 2, 20, 21, 3, 4, 5, 6, 7, 8, 9, 10, 11, 12, 13, 14, 15, 16, 17, 18, 19] (by decide +kernel) rfl, hS, i_94, ⟨by omega, by omega⟩, i_96, fun r c => by rw [i_102, so_out ⟨by omega, by omega⟩ i_97 i_90 r c]; exact i_85 r c, hgk_104, hgi_104⟩
              ·
                have i_101 : m_o.toInt < 6 := g5_geN (a := m_o.toInt) (b := 6) rfl (by decide +kernel) c_101
                refine lv_aload_n hx hb dX11_sooner_98 rfl (lv_at hl 5 rfl) ?_
                refine va_get (D := G.1) (ci := 11) (v := .ref a_h) (C := RX11) (T := TX11) (N := 17) hx hb hts inG_X11 hown hK hP 0 rfl rfl 0 (by decide +kernel) (hts _ fl_X11_12) (fun _ h9 => h9) rfl dX11_sooner_99 ?_
                refine va_get (D := G.1) (ci := 1) (v := .ref a_g) (C := RX1) (T := TX1) (N := 13) hx hb hts inG_X1 hown hK hP 2 rfl rfl 6 (by decide +kernel) (hts _ fl_X11_136) (fun _ h9 => h9) rfl dX11_sooner_102 ?_
                refine lv_iload hx hb dX11_sooner_105 (lv_at hl 4 rfl) ?_
                refine W.eq (g2 := F0 m 107 ls [.int k_g, .ref a_g]) rfl ?_
                refine lv_iconst (v := 1) hx hb dX11_sooner_107 (by decide +kernel) ?_
                refine lv_iload hx hb dX11_sooner_108 (lv_at hl 2 rfl) ?_
                obtain ⟨hPc, hDc, hFc⟩ := g5_sub3 (wc := [(a_g, (oc6 6 5 a_gn e_g)), (a_gn, (arI G 30 m_f))]) hP hD hS hA [20, 21] (by decide +kernel) rfl
                refine va_callv (va_runV (As := [.int k_g, .int 1, .int m_o]) (rest := []) ⟨hx, hb, hml, hown, hts⟩ (t_set_G l G a_g a_gn H.size e_g k_g 1 m_o m_f h_e_g) (cwV 3 hts gV_X11_149 rfl rfl rfl hv_X6_set ⟨Nat.le_of_ble_eq_true rfl, Nat.le_of_ble_eq_true rfl⟩) (g5_preV hPc hK hDc hN hT hS hFc (ci := 6) (q0 := 0) rfl rfl) rfl rfl hl.1 rfl (lv_room (Nat.le_of_ble_eq_true rfl)) dX11_sooner_110 ⟨Nat.le_of_ble_eq_true rfl, Nat.le_of_ble_eq_true rfl⟩) hS (fun q _ h => hFc q h) hFc (fun u t H locs ht hvm hw hB hz1 hk1 hS => ?_)
                obtain ⟨hP1, hD1⟩ := hB
                have hP1 := g5_ht ht hP1
                obtain ⟨z107, (i_106 : z107 = tset m_f e_g.toInt 5 k_g.toInt (1 : Int32).toInt m_o), rfl⟩ := hw
                have hJ9 := va_join (wr := [(a_o, (oc11 a_h a_im a_ke a_k a_wa a_th a_ha a_wk a_r a_x e_tl e_fd e_fpl a_wd e_wn a_rf e_lr)), (a_k, (oc5 a_h a_j a_pt m_ln m_se m_lh m_br m_we m_me m_ce m_wy m_ho m_ov)), (a_h, (oc1 e_wa e_le e_st e_fo e_lc a_l a_g a_b a_s a_p a_w e_gb a_bb)), (a_b, (oc6 5 24 a_bn e_b)), (a_bn, (arI G 120 f_b)), (a_p, (oc6 8 5 a_pn e_p)), (a_pn, (arI G 40 f_p)), (a_bb, (arJ G 24 f_bb)), (a_j, (oc2 a_as a_sk)), (a_as, (arI G 8 m_as)), (a_sk, (arJ G 50 m_sk)), (a_l, (arW G 6 f_l)), (a_lo, (oc3 e_cl a_hd a_sr a_cd)), (a_sr, (arI G n_sr f_sr)), (a_cd, (arI G n_cd f_cd)), (a_hd, (arI G n_hd f_hd)), (a_pt, (arI G 200 m_pt)), (a_wk, (oc9 a_h a_k a_go a_mt)), (a_go, (arJ G 24 z23)), (a_mt, (arI G 1536 z24))]) hP hD [20, 21] [0, 1, 2, 3, 4, 5, 6, 7, 8, 9, 10, 11, 12, 13, 14, 15, 16, 17, 18, 19] rfl rfl (by decide +kernel) (by decide +kernel) hk1 hFc hP1 hD1
                clear hP hD hPc hDc hFc ht hvm hz1 hk1 hP1 hD1
                obtain ⟨hP, hD⟩ := hJ9
                refine g5_rs [(a_o, (oc11 a_h a_im a_ke a_k a_wa a_th a_ha a_wk a_r a_x e_tl e_fd e_fpl a_wd e_wn a_rf e_lr)), (a_k, (oc5 a_h a_j a_pt m_ln m_se m_lh m_br m_we m_me m_ce m_wy m_ho m_ov)), (a_h, (oc1 e_wa e_le e_st e_fo e_lc a_l a_g a_b a_s a_p a_w e_gb a_bb)), (a_b, (oc6 5 24 a_bn e_b)), (a_bn, (arI G 120 f_b)), (a_p, (oc6 8 5 a_pn e_p)), (a_pn, (arI G 40 f_p)), (a_bb, (arJ G 24 f_bb)), (a_j, (oc2 a_as a_sk)), (a_as, (arI G 8 m_as)), (a_sk, (arJ G 50 m_sk)), (a_l, (arW G 6 f_l)), (a_lo, (oc3 e_cl a_hd a_sr a_cd)), (a_sr, (arI G n_sr f_sr)), (a_cd, (arI G n_cd f_cd)), (a_hd, (arI G n_hd f_hd)), (a_pt, (arI G 200 m_pt)), (a_wk, (oc9 a_h a_k a_go a_mt)), (a_go, (arJ G 24 z23)), (a_mt, (arI G 1536 z24)), (a_g, (oc6 6 5 a_gn e_g)), (a_gn, (arI G 30 z107))] hP hD ?_
                clear hP hD
                intro hP hD
                have hgk_108 : gOK z107 e_g.toInt := by rw [i_106]; exact g_turn i_98 (by omega) (Or.inl ⟨by decide, by omega, by omega⟩)
                have hgi_108 : inT e_gb z107 e_g.toInt := by rw [i_106]; exact g_inTturn i_99 (by omega) ⟨by decide, by decide⟩
                refine lv_iload hx hb dX11_sooner_113 (lv_at hl 2 rfl) ?_
                refine lv_iload hx hb dX11_sooner_115 (lv_at hl 3 rfl) ?_
                refine W.eq (g2 := F0 m 117 ls [.int z91, .int m_o]) rfl ?_
                refine lv_icmp_ne (tgt := 124) hx hb dX11_sooner_117 (by decide +kernel) (fun c_109 => ?_) (fun c_109 => ?_)
                ·
                  have n_109 : gNe (m_o.toInt) (z91.toInt) := g5_ne (a := m_o.toInt) (b := z91.toInt) rfl rfl c_109
                  refine lv_aload_n hx hb dX11_sooner_124 rfl (lv_at hl 5 rfl) ?_
                  refine va_get (D := G.1) (ci := 11) (v := .ref a_wk) (C := RX11) (T := TX11) (N := 17) hx hb hts inG_X11 hown hK hP 0 rfl rfl 7 (by decide +kernel) (hts _ fl_X11_59) (fun _ h9 => h9) rfl dX11_sooner_125 ?_
                  refine lv_iload hx hb dX11_sooner_128 (lv_at hl 4 rfl) ?_
                  refine lv_iload_n hx hb dX11_sooner_130 rfl (lv_at hl 6 rfl) ?_
                  refine W.eq (g2 := F0 m 131 ls [.int p_b, .int k_g, .ref a_wk]) rfl ?_
                  refine lv_iload_n hx hb dX11_sooner_131 rfl (lv_at hl 7 rfl) ?_
                  refine lv_iload_n hx hb dX11_sooner_132 rfl (lv_at hl 8 rfl) ?_
                  refine lv_iload hx hb dX11_sooner_133 (lv_at hl 0 rfl) ?_
                  obtain ⟨hPc, hDc, hFc⟩ := g5_sub3 (wc := [(a_k, (oc5 a_h a_j a_pt m_ln m_se m_lh m_br m_we m_me m_ce m_wy m_ho m_ov)), (a_h, (oc1 e_wa e_le e_st e_fo e_lc a_l a_g a_b a_s a_p a_w e_gb a_bb)), (a_g, (oc6 6 5 a_gn e_g)), (a_gn, (arI G 30 z107)), (a_b, (oc6 5 24 a_bn e_b)), (a_bn, (arI G 120 f_b)), (a_p, (oc6 8 5 a_pn e_p)), (a_pn, (arI G 40 f_p)), (a_bb, (arJ G 24 f_bb)), (a_j, (oc2 a_as a_sk)), (a_as, (arI G 8 m_as)), (a_sk, (arJ G 50 m_sk)), (a_l, (arW G 6 f_l)), (a_lo, (oc3 e_cl a_hd a_sr a_cd)), (a_sr, (arI G n_sr f_sr)), (a_cd, (arI G n_cd f_cd)), (a_hd, (arI G n_hd f_hd)), (a_pt, (arI G 200 m_pt)), (a_wk, (oc9 a_h a_k a_go a_mt)), (a_go, (arJ G 24 z23)), (a_mt, (arI G 1536 z24))]) hP hD hS hA [1, 2, 20, 21, 3, 4, 5, 6, 7, 8, 9, 10, 11, 12, 13, 14, 15, 16, 17, 18, 19] (by decide +kernel) rfl
                  refine va_calli (va_runV (As := [.int k_g, .int p_b, .int p_c, .int p_h, .int m_t]) (rest := []) ⟨hx, hb, hml, hown, hts⟩ (a_byL l G a_k a_h a_g a_gn a_b a_bn a_p a_pn a_bb a_j a_as a_sk a_l a_lo a_sr a_cd a_hd a_pt a_wk a_go a_mt a_s a_w H.size e_le e_st e_fo e_lc e_g e_b e_p e_cl m_ln m_se m_lh m_br m_we m_me m_ce m_wy m_ho m_ov k_g p_b p_c p_h m_t e_wa e_gb z107 f_b f_p f_bb m_as m_sk f_l f_sr f_cd f_hd m_pt z23 z24 n_sr n_cd n_hd h_e_g h_e_b h_e_p h_e_cl i_96 i_1 i_2 i_94 (hgk_108) (e_pk) (hgi_108) (e_f) (e_a) (e_hn) (e_hs) (e_hk) (e_c)) (cwV 5 hts gV_X11_336 rfl rfl rfl hv_X9_sightBy ⟨Nat.le_of_ble_eq_true rfl, Nat.le_of_ble_eq_true rfl⟩) (g5_preV hPc hK hDc hN hT hS hFc (ci := 9) (q0 := 18) rfl rfl) rfl rfl hl.1 rfl (lv_room (Nat.le_of_ble_eq_true rfl)) dX11_sooner_135 ⟨Nat.le_of_ble_eq_true rfl, Nat.le_of_ble_eq_true rfl⟩) hS (fun q _ h => hFc q h) hFc (fun r u t H locs ht hvm hw hB hz1 hk1 hS => ?_)
                  obtain ⟨hP1, hD1⟩ := hB
                  have hP1 := g5_ht ht hP1
                  obtain ⟨z113, z114, z115, z116, z117, z118, z119, z120, z121, z122, z123, z124, z125, z126, (i_110 : 0 ≤ z123.toInt ∧ z123.toInt ≤ 1), (i_111 : -1 ≤ z113.toInt ∧ z113.toInt ≤ 23), (i_112 : z113.toInt = -1 ∨ (p_h.toInt ≤ z113.toInt ∧ z113.toInt < m_t.toInt)), y127, rfl⟩ := hw
                  have hJ9 := va_join (wr := [(a_o, (oc11 a_h a_im a_ke a_k a_wa a_th a_ha a_wk a_r a_x e_tl e_fd e_fpl a_wd e_wn a_rf e_lr))]) hP hD [1, 2, 20, 21, 3, 4, 5, 6, 7, 8, 9, 10, 11, 12, 13, 14, 15, 16, 17, 18, 19] [0] rfl rfl (by decide +kernel) (by decide +kernel) hk1 hFc hP1 hD1
                  clear hP hD hPc hDc hFc ht hvm hz1 hk1 hP1 hD1
                  obtain ⟨hP, hD⟩ := hJ9
                  refine g5_rs [(a_o, (oc11 a_h a_im a_ke a_k a_wa a_th a_ha a_wk a_r a_x e_tl e_fd e_fpl a_wd e_wn a_rf e_lr)), (a_k, (oc5 a_h a_j a_pt z114 z115 z116 z117 z118 z119 z120 z121 z122 z123)), (a_h, (oc1 e_wa e_le e_st e_fo e_lc a_l a_g a_b a_s a_p a_w e_gb a_bb)), (a_g, (oc6 6 5 a_gn e_g)), (a_gn, (arI G 30 z107)), (a_b, (oc6 5 24 a_bn e_b)), (a_bn, (arI G 120 f_b)), (a_p, (oc6 8 5 a_pn e_p)), (a_pn, (arI G 40 f_p)), (a_bb, (arJ G 24 f_bb)), (a_j, (oc2 a_as a_sk)), (a_as, (arI G 8 z125)), (a_sk, (arJ G 50 z126)), (a_l, (arW G 6 f_l)), (a_lo, (oc3 e_cl a_hd a_sr a_cd)), (a_sr, (arI G n_sr f_sr)), (a_cd, (arI G n_cd f_cd)), (a_hd, (arI G n_hd f_hd)), (a_pt, (arI G 200 z124)), (a_wk, (oc9 a_h a_k a_go a_mt)), (a_go, (arJ G 24 z23)), (a_mt, (arI G 1536 z24))] hP hD ?_
                  clear hP hD
                  intro hP hD
                  refine g5_ti (v := z113) y127 ?_
                  refine lv_istore (lv' := [(11, .int z113), (6, .int m_t), (7, .int m_a), (10, .int m_o), (9, .int z91), (8, .int k_g), (0, .ref a_o), (1, .int p_b), (2, .int p_c), (3, .int p_h), (4, .int p_t)]) hx hb dX11_sooner_138 hl (by decide +kernel) rfl ?_
                  clear hl
                  intro ls hl
                  refine W.eq (g2 := F0 m 140 ls []) rfl ?_
                  refine lv_iload hx hb dX11_sooner_140 (lv_at hl 0 rfl) ?_
                  refine lv_iconst (v := (-1)) hx hb dX11_sooner_142 (by decide +kernel) ?_
                  refine lv_icmp_eq (tgt := 175) hx hb dX11_sooner_143 (by decide +kernel) (fun c_128 => ?_) (fun c_128 => ?_)
                  ·
                    have i_128 : z113.toInt = (-1) := g5_eq (a := z113.toInt) (b := (-1)) rfl (by decide +kernel) c_128
                    refine lv_iinc (v := (m_o + 1)) (lv' := [(10, .int (m_o + 1)), (11, .int z113), (6, .int m_t), (7, .int m_a), (9, .int z91), (8, .int k_g), (0, .ref a_o), (1, .int p_b), (2, .int p_c), (3, .int p_h), (4, .int p_t)]) hx hb dX11_sooner_175 hl (k := 3) rfl rfl (by decide +kernel) rfl ?_
                    clear hl
                    intro ls hl
                    have t_129 : (m_o + 1).toInt = m_o.toInt + 1 := g5_iadd (a := m_o.toInt) (b := 1) rfl (by decide +kernel) (by omega) (by omega)
                    refine lv_goto (tgt := 91) hx hb dX11_sooner_178 (by decide +kernel) ?_
                    exact ih_91_100 (m_t, m_a, (m_o + 1), z115, z116, z117, z118, z119, z120, z121, z122, z123, z124, z125, z126, z114, z107) ls H locs (show Int.toNat (6 - (m_o + 1).toInt) < Int.toNat (6 - m_o.toInt) from g_up (show m_o.toInt < (m_o + 1).toInt by omega) (show m_o.toInt < 6 by omega)) ⟨lv_sub hl [2, 3, 0, 4, 5, 6, 7, 8, 9, 10] rfl, hP.sub [0, 1, 2, 5, 6, 7, 8, 9, 10, 11, 12, 13, 14, 15, 16, 17, 18, 19, 20, 21, 3, 4] rfl, hD.sub [0, 1, 2, 5, 6, 7, 8, 9, 10, 11, 12, 13, 14, 15, 16, 17, 18, 19, 20, 21, 3, 4] (by decide +kernel) rfl, hS, i_94, ⟨by omega, by omega⟩, i_110, fun r c h9 => by rw [i_106, so_in ⟨by omega, by omega⟩ h9]; exact i_97 r c h9, hgk_108, hgi_108⟩
                  ·
                    have n_128 : gNe (z113.toInt) ((-1)) := g5_eqN (a := z113.toInt) (b := (-1)) rfl (by decide +kernel) c_128
                    have i_128 : z113.toInt ≥ 0 := by have z := g5_eqN (a := z113.toInt) (b := (-1)) (by rfl) (by decide +kernel) c_128; omega
                    refine lv_iload hx hb dX11_sooner_146 (lv_at hl 0 rfl) ?_
                    refine lv_istore (lv' := [(6, .int z113), (11, .int z113), (7, .int m_a), (10, .int m_o), (9, .int z91), (8, .int k_g), (0, .ref a_o), (1, .int p_b), (2, .int p_c), (3, .int p_h), (4, .int p_t)]) hx hb dX11_sooner_148 hl (by decide +kernel) rfl ?_
                    clear hl
                    intro ls hl
                    refine lv_iload hx hb dX11_sooner_150 (lv_at hl 10 rfl) ?_
                    refine lv_if_ne (tgt := 160) hx hb dX11_sooner_152 (by decide +kernel) (fun c_130 => ?_) (fun c_130 => ?_)
                    ·
                      have n_130 : gNe (p_t.toInt) (0) := g5_ne (a := p_t.toInt) (b := 0) rfl (by decide +kernel) c_130
                      have i_130 : p_t.toInt ≥ 1 := by have z := g5_ne (a := p_t.toInt) (b := 0) (by rfl) (by decide +kernel) c_130; omega
                      refine lv_iload hx hb dX11_sooner_160 (lv_at hl 10 rfl) ?_
                      refine lv_iconst (v := 1) hx hb dX11_sooner_162 (by decide +kernel) ?_
                      refine lv_icmp_ne (tgt := 171) hx hb dX11_sooner_163 (by decide +kernel) (fun c_131 => ?_) (fun c_131 => ?_)
                      ·
                        have n_131 : gNe (p_t.toInt) (1) := g5_ne (a := p_t.toInt) (b := 1) rfl (by decide +kernel) c_131
                        have i_131 : p_t.toInt ≥ 2 := by have z := g5_ne (a := p_t.toInt) (b := 1) (by rfl) (by decide +kernel) c_131; omega
                        refine lv_iload hx hb dX11_sooner_171 (lv_at hl 3 rfl) ?_
                        refine lv_istore (lv' := [(7, .int m_o), (6, .int z113), (11, .int z113), (10, .int m_o), (9, .int z91), (8, .int k_g), (0, .ref a_o), (1, .int p_b), (2, .int p_c), (3, .int p_h), (4, .int p_t)]) hx hb dX11_sooner_173 hl (by decide +kernel) rfl ?_
                        clear hl
                        intro ls hl
                        refine lv_iinc (v := (m_o + 1)) (lv' := [(10, .int (m_o + 1)), (7, .int m_o), (6, .int z113), (11, .int z113), (9, .int z91), (8, .int k_g), (0, .ref a_o), (1, .int p_b), (2, .int p_c), (3, .int p_h), (4, .int p_t)]) hx hb dX11_sooner_175 hl (k := 3) rfl rfl (by decide +kernel) rfl ?_
                        clear hl
                        intro ls hl
                        have t_132 : (m_o + 1).toInt = m_o.toInt + 1 := g5_iadd (a := m_o.toInt) (b := 1) rfl (by decide +kernel) (by omega) (by omega)
                        refine lv_goto (tgt := 91) hx hb dX11_sooner_178 (by decide +kernel) ?_
                        exact ih_91_100 (z113, m_o, (m_o + 1), z115, z116, z117, z118, z119, z120, z121, z122, z123, z124, z125, z126, z114, z107) ls H locs (show Int.toNat (6 - (m_o + 1).toInt) < Int.toNat (6 - m_o.toInt) from g_up (show m_o.toInt < (m_o + 1).toInt by omega) (show m_o.toInt < 6 by omega)) ⟨lv_sub hl [2, 1, 0, 4, 5, 6, 7, 8, 9, 10] rfl, hP.sub [0, 1, 2, 5, 6, 7, 8, 9, 10, 11, 12, 13, 14, 15, 16, 17, 18, 19, 20, 21, 3, 4] rfl, hD.sub [0, 1, 2, 5, 6, 7, 8, 9, 10, 11, 12, 13, 14, 15, 16, 17, 18, 19, 20, 21, 3, 4] (by decide +kernel) rfl, hS, ⟨by omega, by omega⟩, ⟨by omega, by omega⟩, i_110, fun r c h9 => by rw [i_106, so_in ⟨by omega, by omega⟩ h9]; exact i_97 r c h9, hgk_108, hgi_108⟩
                      ·
                        have i_131 : p_t.toInt = 1 := g5_neN (a := p_t.toInt) (b := 1) rfl (by decide +kernel) c_131
                        refine lv_iload hx hb dX11_sooner_166 (lv_at hl 5 rfl) ?_
                        refine lv_goto (tgt := 173) hx hb dX11_sooner_168 (by decide +kernel) ?_
                        refine lv_istore (lv' := [(7, .int k_g), (6, .int z113), (11, .int z113), (10, .int m_o), (9, .int z91), (8, .int k_g), (0, .ref a_o), (1, .int p_b), (2, .int p_c), (3, .int p_h), (4, .int p_t)]) hx hb dX11_sooner_173 hl (by decide +kernel) rfl ?_
                        clear hl
                        intro ls hl
                        refine lv_iinc (v := (m_o + 1)) (lv' := [(10, .int (m_o + 1)), (7, .int k_g), (6, .int z113), (11, .int z113), (9, .int z91), (8, .int k_g), (0, .ref a_o), (1, .int p_b), (2, .int p_c), (3, .int p_h), (4, .int p_t)]) hx hb dX11_sooner_175 hl (k := 3) rfl rfl (by decide +kernel) rfl ?_
                        clear hl
                        intro ls hl
                        have t_133 : (m_o + 1).toInt = m_o.toInt + 1 := g5_iadd (a := m_o.toInt) (b := 1) rfl (by decide +kernel) (by omega) (by omega)
                        refine W.eq (g2 := F0 m 178 ls []) rfl ?_
                        refine lv_goto (tgt := 91) hx hb dX11_sooner_178 (by decide +kernel) ?_
                        exact ih_91_100 (z113, k_g, (m_o + 1), z115, z116, z117, z118, z119, z120, z121, z122, z123, z124, z125, z126, z114, z107) ls H locs (show Int.toNat (6 - (m_o + 1).toInt) < Int.toNat (6 - m_o.toInt) from g_up (show m_o.toInt < (m_o + 1).toInt by omega) (show m_o.toInt < 6 by omega)) ⟨lv_sub hl [2, 1, 0, 4, 5, 6, 7, 8, 9, 10] rfl, hP.sub [0, 1, 2, 5, 6, 7, 8, 9, 10, 11, 12, 13, 14, 15, 16, 17, 18, 19, 20, 21, 3, 4] rfl, hD.sub [0, 1, 2, 5, 6, 7, 8, 9, 10, 11, 12, 13, 14, 15, 16, 17, 18, 19, 20, 21, 3, 4] (by decide +kernel) rfl, hS, ⟨by omega, by omega⟩, ⟨by omega, by omega⟩, i_110, fun r c h9 => by rw [i_106, so_in ⟨by omega, by omega⟩ h9]; exact i_97 r c h9, hgk_108, hgi_108⟩
                    ·
                      have i_130 : p_t.toInt = 0 := g5_neN (a := p_t.toInt) (b := 0) rfl (by decide +kernel) c_130
                      refine lv_iload hx hb dX11_sooner_155 (lv_at hl 1 rfl) ?_
                      refine lv_goto (tgt := 173) hx hb dX11_sooner_157 (by decide +kernel) ?_
                      refine lv_istore (lv' := [(7, .int z113), (6, .int z113), (11, .int z113), (10, .int m_o), (9, .int z91), (8, .int k_g), (0, .ref a_o), (1, .int p_b), (2, .int p_c), (3, .int p_h), (4, .int p_t)]) hx hb dX11_sooner_173 hl (by decide +kernel) rfl ?_
                      clear hl
                      intro ls hl
                      refine lv_iinc (v := (m_o + 1)) (lv' := [(10, .int (m_o + 1)), (7, .int z113), (6, .int z113), (11, .int z113), (9, .int z91), (8, .int k_g), (0, .ref a_o), (1, .int p_b), (2, .int p_c), (3, .int p_h), (4, .int p_t)]) hx hb dX11_sooner_175 hl (k := 3) rfl rfl (by decide +kernel) rfl ?_
                      clear hl
                      intro ls hl
                      have t_134 : (m_o + 1).toInt = m_o.toInt + 1 := g5_iadd (a := m_o.toInt) (b := 1) rfl (by decide +kernel) (by omega) (by omega)
                      refine W.eq (g2 := F0 m 178 ls []) rfl ?_
                      refine lv_goto (tgt := 91) hx hb dX11_sooner_178 (by decide +kernel) ?_
                      exact ih_91_100 (z113, z113, (m_o + 1), z115, z116, z117, z118, z119, z120, z121, z122, z123, z124, z125, z126, z114, z107) ls H locs (show Int.toNat (6 - (m_o + 1).toInt) < Int.toNat (6 - m_o.toInt) from g_up (show m_o.toInt < (m_o + 1).toInt by omega) (show m_o.toInt < 6 by omega)) ⟨lv_sub hl [2, 1, 0, 4, 5, 6, 7, 8, 9, 10] rfl, hP.sub [0, 1, 2, 5, 6, 7, 8, 9, 10, 11, 12, 13, 14, 15, 16, 17, 18, 19, 20, 21, 3, 4] rfl, hD.sub [0, 1, 2, 5, 6, 7, 8, 9, 10, 11, 12, 13, 14, 15, 16, 17, 18, 19, 20, 21, 3, 4] (by decide +kernel) rfl, hS, ⟨by omega, by omega⟩, ⟨by omega, by omega⟩, i_110, fun r c h9 => by rw [i_106, so_in ⟨by omega, by omega⟩ h9]; exact i_97 r c h9, hgk_108, hgi_108⟩
                ·
                  have i_109 : m_o.toInt = z91.toInt := g5_neN (a := m_o.toInt) (b := z91.toInt) rfl rfl c_109
                  refine lv_iconst (v := (-1)) hx hb dX11_sooner_120 (by decide +kernel) ?_
                  refine lv_goto (tgt := 138) hx hb dX11_sooner_121 (by decide +kernel) ?_
                  refine lv_istore (lv' := [(11, .int (-1)), (6, .int m_t), (7, .int m_a), (10, .int m_o), (9, .int z91), (8, .int k_g), (0, .ref a_o), (1, .int p_b), (2, .int p_c), (3, .int p_h), (4, .int p_t)]) hx hb dX11_sooner_138 hl (by decide +kernel) rfl ?_
                  clear hl
                  intro ls hl
                  refine lv_iload hx hb dX11_sooner_140 (lv_at hl 0 rfl) ?_
                  refine W.eq (g2 := F0 m 142 ls [.int (-1)]) rfl ?_
                  refine lv_iconst (v := (-1)) hx hb dX11_sooner_142 (by decide +kernel) ?_
                  refine lv_icmp_eq (tgt := 175) hx hb dX11_sooner_143 (by decide +kernel) (fun c_135 => ?_) (fun c_135 => ?_)
                  ·
                    refine lv_iinc (v := (m_o + 1)) (lv' := [(10, .int (m_o + 1)), (11, .int (-1)), (6, .int m_t), (7, .int m_a), (9, .int z91), (8, .int k_g), (0, .ref a_o), (1, .int p_b), (2, .int p_c), (3, .int p_h), (4, .int p_t)]) hx hb dX11_sooner_175 hl (k := 3) rfl rfl (by decide +kernel) rfl ?_
                    clear hl
                    intro ls hl
                    have t_136 : (m_o + 1).toInt = m_o.toInt + 1 := g5_iadd (a := m_o.toInt) (b := 1) rfl (by decide +kernel) (by omega) (by omega)
                    refine lv_goto (tgt := 91) hx hb dX11_sooner_178 (by decide +kernel) ?_
                    exact ih_91_100 (m_t, m_a, (m_o + 1), m_se, m_lh, m_br, m_we, m_me, m_ce, m_wy, m_ho, m_ov, m_pt, m_as, m_sk, m_ln, z107) ls H locs (show Int.toNat (6 - (m_o + 1).toInt) < Int.toNat (6 - m_o.toInt) from g_up (show m_o.toInt < (m_o + 1).toInt by omega) (show m_o.toInt < 6 by omega)) ⟨lv_sub hl [2, 3, 0, 4, 5, 6, 7, 8, 9, 10] rfl, hP, hD, hS, i_94, ⟨by omega, by omega⟩, i_96, fun r c h9 => by rw [i_106, so_in ⟨by omega, by omega⟩ h9]; exact i_97 r c h9, hgk_108, hgi_108⟩
                  ·
                    exact absurd c_135 (by decide +kernel)
        ·
          have i_5 : p_t.toInt > 2 := g5_leN (a := p_t.toInt) (b := 2) rfl (by decide +kernel) c_5
          refine lv_iconst (v := (-1)) hx hb dX11_sooner_21 (by decide +kernel) ?_
          exact W.iret (v := (-1)) hx hb hr (fun t ht hW => ⟨⟨(-1), [(a_o, (oc11 a_h a_im a_ke a_k a_wa a_th a_ha a_wk a_r a_x e_tl e_fd e_fpl a_wd e_wn a_rf e_lr)), (a_k, (oc5 a_h a_j a_pt e_ln e_se e_lh e_br e_we e_me e_ce e_wy e_ho e_ov)), (a_h, (oc1 e_wa e_le e_st e_fo e_lc a_l a_g a_b a_s a_p a_w e_gb a_bb)), (a_g, (oc6 6 5 a_gn e_g)), (a_gn, (arI G 30 f_g)), (a_b, (oc6 5 24 a_bn e_b)), (a_bn, (arI G 120 f_b)), (a_p, (oc6 8 5 a_pn e_p)), (a_pn, (arI G 40 f_p)), (a_bb, (arJ G 24 f_bb)), (a_j, (oc2 a_as a_sk)), (a_as, (arI G 8 f_as)), (a_sk, (arJ G 50 f_sk)), (a_l, (arW G 6 f_l)), (a_lo, (oc3 e_cl a_hd a_sr a_cd)), (a_sr, (arI G n_sr f_sr)), (a_cd, (arI G n_cd f_cd)), (a_hd, (arI G n_hd f_hd)), (a_pt, (arI G 200 f_pt)), (a_wk, (oc9 a_h a_k a_go a_mt)), (a_go, (arJ G 24 f_go)), (a_mt, (arI G 1536 f_mt))], rfl, ⟨(-1), e_ln, e_se, e_lh, e_br, e_we, e_me, e_ce, e_wy, e_ho, e_ov, f_pt, f_as, f_sk, f_go, f_mt, f_g, h_e_ov, e_gk, e_gi, fun _ _ => rfl, rfl, rfl⟩, by rw [ht]; exact hP.sub [19, 0, 20, 1, 2, 21, 3, 4, 5, 6, 7, 8, 9, 10, 11, 12, 13, 14, 15, 16, 17, 18] rfl, hD.sub [19, 0, 20, 1, 2, 21, 3, 4, 5, 6, 7, 8, 9, 10, 11, 12, 13, 14, 15, 16, 17, 18] (by decide +kernel) rfl⟩, hS.F ht⟩) hS.2.2 dX11_sooner_22
  ·
    have hJ9 := va_join (wr := [(a_k, (oc5 a_h a_j a_pt e_ln e_se e_lh e_br e_we e_me e_ce e_wy e_ho e_ov)), (a_g, (oc6 6 5 a_gn e_g)), (a_gn, (arI G 30 f_g)), (a_bn, (arI G 120 f_b)), (a_p, (oc6 8 5 a_pn e_p)), (a_pn, (arI G 40 f_p)), (a_bb, (arJ G 24 f_bb)), (a_j, (oc2 a_as a_sk)), (a_as, (arI G 8 f_as)), (a_sk, (arJ G 50 f_sk)), (a_l, (arW G 6 f_l)), (a_lo, (oc3 e_cl a_hd a_sr a_cd)), (a_sr, (arI G n_sr f_sr)), (a_cd, (arI G n_cd f_cd)), (a_hd, (arI G n_hd f_hd)), (a_pt, (arI G 200 f_pt)), (a_wk, (oc9 a_h a_k a_go a_mt)), (a_go, (arJ G 24 f_go)), (a_mt, (arI G 1536 f_mt))]) hP hD [0, 2, 5] [1, 3, 4, 6, 7, 8, 9, 10, 11, 12, 13, 14, 15, 16, 17, 18, 19, 20, 21] rfl rfl (by decide +kernel) (by decide +kernel) hk1 hFc hP1 hD1
    clear hP hD hPc hDc hFc ht hvm hz1 hk1 hP1 hD1
    obtain ⟨hP, hD⟩ := hJ9
    refine g5_rs [(a_k, (oc5 a_h a_j a_pt e_ln e_se e_lh e_br e_we e_me e_ce e_wy e_ho e_ov)), (a_g, (oc6 6 5 a_gn e_g)), (a_gn, (arI G 30 f_g)), (a_bn, (arI G 120 f_b)), (a_p, (oc6 8 5 a_pn e_p)), (a_pn, (arI G 40 f_p)), (a_bb, (arJ G 24 f_bb)), (a_j, (oc2 a_as a_sk)), (a_as, (arI G 8 f_as)), (a_sk, (arJ G 50 f_sk)), (a_l, (arW G 6 f_l)), (a_lo, (oc3 e_cl a_hd a_sr a_cd)), (a_sr, (arI G n_sr f_sr)), (a_cd, (arI G n_cd f_cd)), (a_hd, (arI G n_hd f_hd)), (a_pt, (arI G 200 f_pt)), (a_wk, (oc9 a_h a_k a_go a_mt)), (a_go, (arJ G 24 f_go)), (a_mt, (arI G 1536 f_mt)), (a_o, (oc11 a_h a_im a_ke a_k a_wa a_th a_ha a_wk a_r a_x e_tl e_fd e_fpl a_wd e_wn a_rf e_lr)), (a_h, (oc1 e_wa e_le e_st e_fo e_lc a_l a_g a_b a_s a_p a_w e_gb a_bb)), (a_b, (oc6 5 24 a_bn e_b))] hP hD ?_
    clear hP hD
    intro hP hD
    refine lv_if_eq (tgt := 21) hx hb dX11_sooner_7 (by decide +kernel) (fun c_137 => ?_) (fun c_137 => ?_)
    ·
      refine lv_iconst (v := (-1)) hx hb dX11_sooner_21 (by decide +kernel) ?_
      exact W.iret (v := (-1)) hx hb hr (fun t ht hW => ⟨⟨(-1), [(a_o, (oc11 a_h a_im a_ke a_k a_wa a_th a_ha a_wk a_r a_x e_tl e_fd e_fpl a_wd e_wn a_rf e_lr)), (a_k, (oc5 a_h a_j a_pt e_ln e_se e_lh e_br e_we e_me e_ce e_wy e_ho e_ov)), (a_h, (oc1 e_wa e_le e_st e_fo e_lc a_l a_g a_b a_s a_p a_w e_gb a_bb)), (a_g, (oc6 6 5 a_gn e_g)), (a_gn, (arI G 30 f_g)), (a_b, (oc6 5 24 a_bn e_b)), (a_bn, (arI G 120 f_b)), (a_p, (oc6 8 5 a_pn e_p)), (a_pn, (arI G 40 f_p)), (a_bb, (arJ G 24 f_bb)), (a_j, (oc2 a_as a_sk)), (a_as, (arI G 8 f_as)), (a_sk, (arJ G 50 f_sk)), (a_l, (arW G 6 f_l)), (a_lo, (oc3 e_cl a_hd a_sr a_cd)), (a_sr, (arI G n_sr f_sr)), (a_cd, (arI G n_cd f_cd)), (a_hd, (arI G n_hd f_hd)), (a_pt, (arI G 200 f_pt)), (a_wk, (oc9 a_h a_k a_go a_mt)), (a_go, (arJ G 24 f_go)), (a_mt, (arI G 1536 f_mt))], rfl, ⟨(-1), e_ln, e_se, e_lh, e_br, e_we, e_me, e_ce, e_wy, e_ho, e_ov, f_pt, f_as, f_sk, f_go, f_mt, f_g, h_e_ov, e_gk, e_gi, fun _ _ => rfl, rfl, rfl⟩, by rw [ht]; exact hP.sub [19, 0, 20, 1, 2, 21, 3, 4, 5, 6, 7, 8, 9, 10, 11, 12, 13, 14, 15, 16, 17, 18] rfl, hD.sub [19, 0, 20, 1, 2, 21, 3, 4, 5, 6, 7, 8, 9, 10, 11, 12, 13, 14, 15, 16, 17, 18] (by decide +kernel) rfl⟩, hS.F ht⟩) hS.2.2 dX11_sooner_22
    ·
      exact absurd c_137 (by decide +kernel)
