set_option maxHeartbeats 4000000 in
set_option maxRecDepth 100000 in
theorem x_lookN (l : Launch) (G : g5_G) (a_o a_k a_h a_g a_gn a_b a_bn a_p a_pn a_bb a_j a_as a_sk a_l a_pt a_im a_ke a_wa a_th a_ha a_wk a_r a_x a_wd a_rf a_s a_w : Nat) (sz : Nat) (e_tl : Int32) (e_fd : Int32) (e_fpl : Int32) (e_wn : Int32) (e_lr : Int32) (e_le : Int32) (e_st : Int32) (e_fo : Int32) (e_lc : Int32) (e_g : Int32) (e_b : Int32) (e_p : Int32) (e_ln : Int32) (e_se : Int32) (e_lh : Int32) (e_br : Int32) (e_we : Int32) (e_me : Int32) (e_ce : Int32) (e_wy : Int32) (e_ho : Int32) (e_ov : Int32) (p_c : Int32) (p_w : Int32) (p_h : Int32) (p_t : Int32) (e_wa : Int64) (e_gb : Int64) (f_g : Nat → Int32) (f_b : Nat → Int32) (f_p : Nat → Int32) (f_bb : Nat → Int64) (f_as : Nat → Int32) (f_sk : Nat → Int64) (f_l : Nat → Option Nat) (f_pt : Nat → Int32) (h_e_tl : 0 ≤ e_tl.toInt ∧ e_tl.toInt ≤ 400) (h_e_wn : 0 ≤ e_wn.toInt ∧ e_wn.toInt ≤ 1) (h_e_g : 0 ≤ e_g.toInt ∧ e_g.toInt ≤ 6) (h_e_b : 0 ≤ e_b.toInt ∧ e_b.toInt ≤ 5) (h_e_p : 0 ≤ e_p.toInt ∧ e_p.toInt ≤ 8) (h_e_ov : 0 ≤ e_ov.toInt ∧ e_ov.toInt ≤ 1) (e_gk : gOK f_g e_g.toInt) (e_pk : gOK f_p e_p.toInt) (e_gi : inT e_gb f_g e_g.toInt) (e_f : e_fo.toInt < 0 ∨ e_lc.toInt ≤ e_fo.toInt) : Met l yX11_look (wsG yX11_look cX11_look 5 (some .int)) ({ frames := 14, cells := 0, slots := 0, locals := 556 }) (va_Pc [.ref a_o, .int p_c, .int p_w, .int p_h, .int p_t] (g5_P G [(a_o, (oc11 a_h a_im a_ke a_k a_wa a_th a_ha a_wk a_r a_x e_tl e_fd e_fpl a_wd e_wn a_rf e_lr)), (a_k, (oc5 a_h a_j a_pt e_ln e_se e_lh e_br e_we e_me e_ce e_wy e_ho e_ov)), (a_h, (oc1 e_wa e_le e_st e_fo e_lc a_l a_g a_b a_s a_p a_w e_gb a_bb)), (a_g, (oc6 6 5 a_gn e_g)), (a_gn, (arI G 30 f_g)), (a_b, (oc6 5 24 a_bn e_b)), (a_bn, (arI G 120 f_b)), (a_p, (oc6 8 5 a_pn e_p)), (a_pn, (arI G 40 f_p)), (a_bb, (arJ G 24 f_bb)), (a_j, (oc2 a_as a_sk)), (a_as, (arI G 8 f_as)), (a_sk, (arJ G 50 f_sk)), (a_l, (arW G 6 f_l)), (a_pt, (arI G 200 f_pt))] sz)) (va_Qi (fun (r : Int32) (u : va_W) => (∃ (o_r : Int32) (o_ln : Int32) (o_se : Int32) (o_lh : Int32) (o_br : Int32) (o_we : Int32) (o_me : Int32) (o_ce : Int32) (o_wy : Int32) (o_ho : Int32) (o_ov : Int32) (o_pt : Nat → Int32) (o_as : Nat → Int32) (o_sk : Nat → Int64), (0 ≤ o_ov.toInt ∧ o_ov.toInt ≤ 1) ∧ (r = o_r) ∧ (u = [(a_o, (oc11 a_h a_im a_ke a_k a_wa a_th a_ha a_wk a_r a_x e_tl e_fd e_fpl a_wd e_wn a_rf e_lr)), (a_k, (oc5 a_h a_j a_pt o_ln o_se o_lh o_br o_we o_me o_ce o_wy o_ho o_ov)), (a_h, (oc1 e_wa e_le e_st e_fo e_lc a_l a_g a_b a_s a_p a_w e_gb a_bb)), (a_g, (oc6 6 5 a_gn e_g)), (a_gn, (arI G 30 f_g)), (a_b, (oc6 5 24 a_bn e_b)), (a_bn, (arI G 120 f_b)), (a_p, (oc6 8 5 a_pn e_p)), (a_pn, (arI G 40 f_p)), (a_bb, (arJ G 24 f_bb)), (a_j, (oc2 a_as a_sk)), (a_as, (arI G 8 o_as)), (a_sk, (arJ G 50 o_sk)), (a_l, (arW G 6 f_l)), (a_pt, (arI G 200 o_pt))]))) (g5_B G (va_A [(a_o, (oc11 a_h a_im a_ke a_k a_wa a_th a_ha a_wk a_r a_x e_tl e_fd e_fpl a_wd e_wn a_rf e_lr)), (a_k, (oc5 a_h a_j a_pt e_ln e_se e_lh e_br e_we e_me e_ce e_wy e_ho e_ov)), (a_h, (oc1 e_wa e_le e_st e_fo e_lc a_l a_g a_b a_s a_p a_w e_gb a_bb)), (a_g, (oc6 6 5 a_gn e_g)), (a_gn, (arI G 30 f_g)), (a_b, (oc6 5 24 a_bn e_b)), (a_bn, (arI G 120 f_b)), (a_p, (oc6 8 5 a_pn e_p)), (a_pn, (arI G 40 f_p)), (a_bb, (arJ G 24 f_bb)), (a_j, (oc2 a_as a_sk)), (a_as, (arI G 8 f_as)), (a_sk, (arJ G 50 f_sk)), (a_l, (arW G 6 f_l)), (a_pt, (arI G 200 f_pt))] sz)) (va_A [(a_o, (oc11 a_h a_im a_ke a_k a_wa a_th a_ha a_wk a_r a_x e_tl e_fd e_fpl a_wd e_wn a_rf e_lr)), (a_k, (oc5 a_h a_j a_pt e_ln e_se e_lh e_br e_we e_me e_ce e_wy e_ho e_ov)), (a_h, (oc1 e_wa e_le e_st e_fo e_lc a_l a_g a_b a_s a_p a_w e_gb a_bb)), (a_g, (oc6 6 5 a_gn e_g)), (a_gn, (arI G 30 f_g)), (a_b, (oc6 5 24 a_bn e_b)), (a_bn, (arI G 120 f_b)), (a_p, (oc6 8 5 a_pn e_p)), (a_pn, (arI G 40 f_p)), (a_bb, (arJ G 24 f_bb)), (a_j, (oc2 a_as a_sk)), (a_as, (arI G 8 f_as)), (a_sk, (arJ G 50 f_sk)), (a_l, (arW G 6 f_l)), (a_pt, (arI G 200 f_pt))] sz)) 0 0 (va_A [(a_o, (oc11 a_h a_im a_ke a_k a_wa a_th a_ha a_wk a_r a_x e_tl e_fd e_fpl a_wd e_wn a_rf e_lr)), (a_k, (oc5 a_h a_j a_pt e_ln e_se e_lh e_br e_we e_me e_ce e_wy e_ho e_ov)), (a_h, (oc1 e_wa e_le e_st e_fo e_lc a_l a_g a_b a_s a_p a_w e_gb a_bb)), (a_g, (oc6 6 5 a_gn e_g)), (a_gn, (arI G 30 f_g)), (a_b, (oc6 5 24 a_bn e_b)), (a_bn, (arI G 120 f_b)), (a_p, (oc6 8 5 a_pn e_p)), (a_pn, (arI G 40 f_p)), (a_bb, (arJ G 24 f_bb)), (a_j, (oc2 a_as a_sk)), (a_as, (arI G 8 f_as)), (a_sk, (arJ G 50 f_sk)), (a_l, (arW G 6 f_l)), (a_pt, (arI G 200 f_pt))] sz) := by
  refine Met.ofW (cc := cX11_look) (maxL := 5) (ret := (some .int)) (by decide +kernel) rfl ?_
  intro p e s m args below meth c s₁ B hml hv
  obtain ⟨rfl, hsz, hP, hK, hD0, hN, hT⟩ := hv
  have hx := B.exec
  have hb := B.bytes
  have hr := B.returns
  have hts : ∀ w ∈ tblG, w.before _ s = true := fun w h => atoms_spec (ws := (wsG yX11_look cX11_look 5 (some .int))) B.pre w (List.mem_cons_of_mem _ h)
  have hown : s.vm.findClass RX11 = some m.cls := findClass_of_methodNamed B.named
  have hlocks := B.notSynchronized
  subst hsz
  have hD := hD0.self (sz := s.heap.size)
  generalize hAe : va_A [(a_o, (oc11 a_h a_im a_ke a_k a_wa a_th a_ha a_wk a_r a_x e_tl e_fd e_fpl a_wd e_wn a_rf e_lr)), (a_k, (oc5 a_h a_j a_pt e_ln e_se e_lh e_br e_we e_me e_ce e_wy e_ho e_ov)), (a_h, (oc1 e_wa e_le e_st e_fo e_lc a_l a_g a_b a_s a_p a_w e_gb a_bb)), (a_g, (oc6 6 5 a_gn e_g)), (a_gn, (arI G 30 f_g)), (a_b, (oc6 5 24 a_bn e_b)), (a_bn, (arI G 120 f_b)), (a_p, (oc6 8 5 a_pn e_p)), (a_pn, (arI G 40 f_p)), (a_bb, (arJ G 24 f_bb)), (a_j, (oc2 a_as a_sk)), (a_as, (arI G 8 f_as)), (a_sk, (arJ G 50 f_sk)), (a_l, (arW G 6 f_l)), (a_pt, (arI G 200 f_pt))] s.heap.size = A at hD hT ⊢
  have hA : ∀ q : Nat, s.heap.size ≤ q → A q := fun q h => by rw [← hAe]; exact Or.inr h
  have hS : va_S A s.heap s.heap [] := va_S.rf
  replace hP : va_P G.1 vwCl [(a_o, (oc11 a_h a_im a_ke a_k a_wa a_th a_ha a_wk a_r a_x e_tl e_fd e_fpl a_wd e_wn a_rf e_lr)), (a_k, (oc5 a_h a_j a_pt e_ln e_se e_lh e_br e_we e_me e_ce e_wy e_ho e_ov)), (a_h, (oc1 e_wa e_le e_st e_fo e_lc a_l a_g a_b a_s a_p a_w e_gb a_bb)), (a_g, (oc6 6 5 a_gn e_g)), (a_gn, (arI G 30 f_g)), (a_b, (oc6 5 24 a_bn e_b)), (a_bn, (arI G 120 f_b)), (a_p, (oc6 8 5 a_pn e_p)), (a_pn, (arI G 40 f_p)), (a_bb, (arJ G 24 f_bb)), (a_j, (oc2 a_as a_sk)), (a_as, (arI G 8 f_as)), (a_sk, (arJ G 50 f_sk)), (a_l, (arW G 6 f_l)), (a_pt, (arI G 200 f_pt))] s.heap := hP
  have hl := lv_entry ([.ref a_o, .int p_c, .int p_w, .int p_h, .int p_t]) (n := 5) (Nat.le_of_ble_eq_true rfl)
  rw [lg_entry_eq]
  generalize (lg_sl ([.ref a_o, .int p_c, .int p_w, .int p_h, .int p_t]) ++ List.replicate (5 - (lg_sl ([.ref a_o, .int p_c, .int p_w, .int p_h, .int p_t])).length) Slot.unset).toArray = ls at hl ⊢
  replace hl : lv_has ls 5 [(0, .ref a_o), (1, .int p_c), (2, .int p_w), (3, .int p_h), (4, .int p_t)] := hl
  refine lv_iload_n hx hb dX11_look_0 rfl (lv_at hl 1 rfl) ?_
  refine lv_iload_n hx hb dX11_look_1 rfl (lv_at hl 2 rfl) ?_
  refine lv_iload_n hx hb dX11_look_2 rfl (lv_at hl 3 rfl) ?_
  obtain ⟨hPc, hDc, hFc⟩ := g5_sub3 (wc := []) hP hD hS hA [] (by decide +kernel) rfl
  refine va_calli (va_runS (As := [.int p_c, .int p_w, .int p_h]) (rest := []) ⟨hx, hb, hml, hown, hts⟩ (x_isLook l G s.heap.size p_c p_w p_h) (va_cwS 3 hts gS_X11_207 rfl rfl rfl hs_X11_isLook ⟨Nat.le_of_ble_eq_true rfl, Nat.le_of_ble_eq_true rfl⟩) (g5_preS hPc hK hDc hN hT hS hFc) rfl rfl hl.1 rfl (lv_room (Nat.le_of_ble_eq_true rfl)) dX11_look_3 ⟨Nat.le_of_ble_eq_true rfl, Nat.le_of_ble_eq_true rfl⟩) hS (fun q _ h => hFc q h) hFc (fun r u t H locs ht hvm hw hB hz1 hk1 hS => ?_)
  obtain ⟨hP1, hD1⟩ := hB
  have hP1 := g5_ht ht hP1
  rcases hw with ⟨(i_1 : (0 ≤ p_c.toInt ∧ p_c.toInt ≤ 63) ∧ (0 ≤ p_w.toInt ∧ p_w.toInt ≤ 3) ∧ (0 ≤ p_h.toInt ∧ p_h.toInt ≤ 23)), rfl, rfl⟩ | ⟨rfl, rfl⟩
  ·
    have hJ9 := g5_same hP hk1
    clear hP hPc hDc hFc ht hvm hz1 hk1 hP1 hD1
    have hP := hJ9
    clear hJ9
    refine lv_if_ne (tgt := 11) hx hb dX11_look_6 (by decide +kernel) (fun c_2 => ?_) (fun c_2 => ?_)
    ·
      refine lv_aload_n hx hb dX11_look_11 rfl (lv_at hl 0 rfl) ?_
      refine va_get (D := G.1) (ci := 11) (v := .ref a_k) (C := RX11) (T := TX11) (N := 17) hx hb hts inG_X11 hown hK hP 0 rfl rfl 3 (by decide +kernel) (hts _ fl_X11_29) (fun _ h9 => h9) rfl dX11_look_12 ?_
      refine lv_iload_n hx hb dX11_look_15 rfl (lv_at hl 1 rfl) ?_
      refine lv_iload_n hx hb dX11_look_16 rfl (lv_at hl 2 rfl) ?_
      refine W.eq (g2 := F0 m 17 ls [.int p_w, .int p_c, .ref a_k]) rfl ?_
      refine lv_iload_n hx hb dX11_look_17 rfl (lv_at hl 3 rfl) ?_
      refine lv_iconst (v := 0) hx hb dX11_look_18 (by decide +kernel) ?_
      obtain ⟨hPc, hDc, hFc⟩ := g5_sub3 (wc := [(a_k, (oc5 a_h a_j a_pt e_ln e_se e_lh e_br e_we e_me e_ce e_wy e_ho e_ov)), (a_h, (oc1 e_wa e_le e_st e_fo e_lc a_l a_g a_b a_s a_p a_w e_gb a_bb)), (a_g, (oc6 6 5 a_gn e_g)), (a_gn, (arI G 30 f_g)), (a_b, (oc6 5 24 a_bn e_b)), (a_bn, (arI G 120 f_b)), (a_p, (oc6 8 5 a_pn e_p)), (a_pn, (arI G 40 f_p)), (a_bb, (arJ G 24 f_bb)), (a_j, (oc2 a_as a_sk)), (a_as, (arI G 8 f_as)), (a_sk, (arJ G 50 f_sk)), (a_l, (arW G 6 f_l)), (a_pt, (arI G 200 f_pt))]) hP hD hS hA [1, 2, 3, 4, 5, 6, 7, 8, 9, 10, 11, 12, 13, 14] (by decide +kernel) rfl
      refine va_callv (va_runV (As := [.int p_c, .int p_w, .int p_h, .int 0]) (rest := []) ⟨hx, hb, hml, hown, hts⟩ (k_runN l G a_k a_h a_g a_gn a_b a_bn a_p a_pn a_bb a_j a_as a_sk a_l a_pt a_s a_w H.size e_le e_st e_fo e_lc e_g e_b e_p e_ln e_se e_lh e_br e_we e_me e_ce e_wy e_ho e_ov p_c p_w p_h 0 e_wa e_gb f_g f_b f_p f_bb f_as f_sk f_l f_pt h_e_g h_e_b h_e_p h_e_ov (e_gk) (e_pk) (e_gi) (e_f)) (cwV 4 hts gV_X11_210 rfl rfl rfl hv_X5_run ⟨Nat.le_of_ble_eq_true rfl, Nat.le_of_ble_eq_true rfl⟩) (g5_preV hPc hK hDc hN hT hS hFc (ci := 5) (q0 := 0) rfl rfl) rfl rfl hl.1 rfl (lv_room (Nat.le_of_ble_eq_true rfl)) dX11_look_19 ⟨Nat.le_of_ble_eq_true rfl, Nat.le_of_ble_eq_true rfl⟩) hS (fun q _ h => hFc q h) hFc (fun u t H locs ht hvm hw hB hz1 hk1 hS => ?_)
      obtain ⟨hP1, hD1⟩ := hB
      have hP1 := g5_ht ht hP1
      obtain ⟨z6, z7, z8, z9, z10, z11, z12, z13, z14, z15, z16, z17, z18, (i_3 : 0 ≤ z6.toInt ∧ z6.toInt ≤ 200), (i_4 : 0 ≤ z15.toInt ∧ z15.toInt ≤ 1), (i_5 : ∀ j : Nat, (j : Int) < z6.toInt → 0 ≤ (z16 j).toInt ∧ (z16 j).toInt ≤ 1535), rfl⟩ := hw
      have hJ9 := va_join (wr := [(a_o, (oc11 a_h a_im a_ke a_k a_wa a_th a_ha a_wk a_r a_x e_tl e_fd e_fpl a_wd e_wn a_rf e_lr))]) hP hD [1, 2, 3, 4, 5, 6, 7, 8, 9, 10, 11, 12, 13, 14] [0] rfl rfl (by decide +kernel) (by decide +kernel) hk1 hFc hP1 hD1
      clear hP hD hPc hDc hFc ht hvm hz1 hk1 hP1 hD1
      obtain ⟨hP, hD⟩ := hJ9
      refine g5_rs [(a_o, (oc11 a_h a_im a_ke a_k a_wa a_th a_ha a_wk a_r a_x e_tl e_fd e_fpl a_wd e_wn a_rf e_lr)), (a_k, (oc5 a_h a_j a_pt z6 z7 z8 z9 z10 z11 z12 z13 z14 z15)), (a_h, (oc1 e_wa e_le e_st e_fo e_lc a_l a_g a_b a_s a_p a_w e_gb a_bb)), (a_g, (oc6 6 5 a_gn e_g)), (a_gn, (arI G 30 f_g)), (a_b, (oc6 5 24 a_bn e_b)), (a_bn, (arI G 120 f_b)), (a_p, (oc6 8 5 a_pn e_p)), (a_pn, (arI G 40 f_p)), (a_bb, (arJ G 24 f_bb)), (a_j, (oc2 a_as a_sk)), (a_as, (arI G 8 z17)), (a_sk, (arJ G 50 z18)), (a_l, (arW G 6 f_l)), (a_pt, (arI G 200 z16))] hP hD ?_
      clear hP hD
      intro hP hD
      refine lv_iload hx hb dX11_look_22 (lv_at hl 4 rfl) ?_
      rcases (show p_t.toInt = 0 ∨ p_t.toInt = 1 ∨ p_t.toInt = 2 ∨ p_t.toInt = 3 ∨ p_t.toInt = 4 ∨ p_t.toInt < 0 ∨ p_t.toInt > 4 by omega) with s_19 | s_19 | s_19 | s_19 | s_19 | s_19 | s_19
      ·
        have i_19 : p_t.toInt = 0 := by omega
        refine lv_tableIn (tgt := 60) hx hb dX11_look_24 (by omega) (by omega) (by rw [s_19]; rfl) (by decide +kernel) ?_
        refine lv_aload_n hx hb dX11_look_60 rfl (lv_at hl 0 rfl) ?_
        refine va_get (D := G.1) (ci := 11) (v := .ref a_k) (C := RX11) (T := TX11) (N := 17) hx hb hts inG_X11 hown hK hP 0 rfl rfl 3 (by decide +kernel) (hts _ fl_X11_29) (fun _ h9 => h9) rfl dX11_look_61 ?_
        refine va_get (D := G.1) (ci := 5) (v := .int z7) (C := RX5) (T := TX5) (N := 13) hx hb hts inG_X5 hown hK hP 1 rfl rfl 4 (by decide +kernel) (hts _ fl_X11_213) (fun _ h9 => h9) rfl dX11_look_64 ?_
        exact W.iret (v := z7) hx hb hr (fun t ht hW => ⟨⟨z7, [(a_o, (oc11 a_h a_im a_ke a_k a_wa a_th a_ha a_wk a_r a_x e_tl e_fd e_fpl a_wd e_wn a_rf e_lr)), (a_k, (oc5 a_h a_j a_pt z6 z7 z8 z9 z10 z11 z12 z13 z14 z15)), (a_h, (oc1 e_wa e_le e_st e_fo e_lc a_l a_g a_b a_s a_p a_w e_gb a_bb)), (a_g, (oc6 6 5 a_gn e_g)), (a_gn, (arI G 30 f_g)), (a_b, (oc6 5 24 a_bn e_b)), (a_bn, (arI G 120 f_b)), (a_p, (oc6 8 5 a_pn e_p)), (a_pn, (arI G 40 f_p)), (a_bb, (arJ G 24 f_bb)), (a_j, (oc2 a_as a_sk)), (a_as, (arI G 8 z17)), (a_sk, (arJ G 50 z18)), (a_l, (arW G 6 f_l)), (a_pt, (arI G 200 z16))], rfl, ⟨z7, z6, z7, z8, z9, z10, z11, z12, z13, z14, z15, z16, z17, z18, i_4, rfl, rfl⟩, by rw [ht]; exact hP.sub [0, 1, 2, 3, 4, 5, 6, 7, 8, 9, 10, 11, 12, 13, 14] rfl, hD.sub [0, 1, 2, 3, 4, 5, 6, 7, 8, 9, 10, 11, 12, 13, 14] (by decide +kernel) rfl⟩, hS.F ht⟩) hS.2.2 dX11_look_67
      ·
        have i_19 : p_t.toInt = 1 := by omega
        refine lv_tableIn (tgt := 68) hx hb dX11_look_24 (by omega) (by omega) (by rw [s_19]; rfl) (by decide +kernel) ?_
        refine lv_aload_n hx hb dX11_look_68 rfl (lv_at hl 0 rfl) ?_
        refine va_get (D := G.1) (ci := 11) (v := .ref a_k) (C := RX11) (T := TX11) (N := 17) hx hb hts inG_X11 hown hK hP 0 rfl rfl 3 (by decide +kernel) (hts _ fl_X11_29) (fun _ h9 => h9) rfl dX11_look_69 ?_
        refine va_get (D := G.1) (ci := 5) (v := .int z6) (C := RX5) (T := TX5) (N := 13) hx hb hts inG_X5 hown hK hP 1 rfl rfl 3 (by decide +kernel) (hts _ fl_X11_216) (fun _ h9 => h9) rfl dX11_look_72 ?_
        exact W.iret (v := z6) hx hb hr (fun t ht hW => ⟨⟨z6, [(a_o, (oc11 a_h a_im a_ke a_k a_wa a_th a_ha a_wk a_r a_x e_tl e_fd e_fpl a_wd e_wn a_rf e_lr)), (a_k, (oc5 a_h a_j a_pt z6 z7 z8 z9 z10 z11 z12 z13 z14 z15)), (a_h, (oc1 e_wa e_le e_st e_fo e_lc a_l a_g a_b a_s a_p a_w e_gb a_bb)), (a_g, (oc6 6 5 a_gn e_g)), (a_gn, (arI G 30 f_g)), (a_b, (oc6 5 24 a_bn e_b)), (a_bn, (arI G 120 f_b)), (a_p, (oc6 8 5 a_pn e_p)), (a_pn, (arI G 40 f_p)), (a_bb, (arJ G 24 f_bb)), (a_j, (oc2 a_as a_sk)), (a_as, (arI G 8 z17)), (a_sk, (arJ G 50 z18)), (a_l, (arW G 6 f_l)), (a_pt, (arI G 200 z16))], rfl, ⟨z6, z6, z7, z8, z9, z10, z11, z12, z13, z14, z15, z16, z17, z18, i_4, rfl, rfl⟩, by rw [ht]; exact hP.sub [0, 1, 2, 3, 4, 5, 6, 7, 8, 9, 10, 11, 12, 13, 14] rfl, hD.sub [0, 1, 2, 3, 4, 5, 6, 7, 8, 9, 10, 11, 12, 13, 14] (by decide +kernel) rfl⟩, hS.F ht⟩) hS.2.2 dX11_look_75
      ·
        have i_19 : p_t.toInt = 2 := by omega
        refine lv_tableIn (tgt := 76) hx hb dX11_look_24 (by omega) (by omega) (by rw [s_19]; rfl) (by decide +kernel) ?_
        refine lv_aload_n hx hb dX11_look_76 rfl (lv_at hl 0 rfl) ?_
        refine va_get (D := G.1) (ci := 11) (v := .ref a_k) (C := RX11) (T := TX11) (N := 17) hx hb hts inG_X11 hown hK hP 0 rfl rfl 3 (by decide +kernel) (hts _ fl_X11_29) (fun _ h9 => h9) rfl dX11_look_77 ?_
        refine va_get (D := G.1) (ci := 5) (v := .int z8) (C := RX5) (T := TX5) (N := 13) hx hb hts inG_X5 hown hK hP 1 rfl rfl 5 (by decide +kernel) (hts _ fl_X11_219) (fun _ h9 => h9) rfl dX11_look_80 ?_
        exact W.iret (v := z8) hx hb hr (fun t ht hW => ⟨⟨z8, [(a_o, (oc11 a_h a_im a_ke a_k a_wa a_th a_ha a_wk a_r a_x e_tl e_fd e_fpl a_wd e_wn a_rf e_lr)), (a_k, (oc5 a_h a_j a_pt z6 z7 z8 z9 z10 z11 z12 z13 z14 z15)), (a_h, (oc1 e_wa e_le e_st e_fo e_lc a_l a_g a_b a_s a_p a_w e_gb a_bb)), (a_g, (oc6 6 5 a_gn e_g)), (a_gn, (arI G 30 f_g)), (a_b, (oc6 5 24 a_bn e_b)), (a_bn, (arI G 120 f_b)), (a_p, (oc6 8 5 a_pn e_p)), (a_pn, (arI G 40 f_p)), (a_bb, (arJ G 24 f_bb)), (a_j, (oc2 a_as a_sk)), (a_as, (arI G 8 z17)), (a_sk, (arJ G 50 z18)), (a_l, (arW G 6 f_l)), (a_pt, (arI G 200 z16))], rfl, ⟨z8, z6, z7, z8, z9, z10, z11, z12, z13, z14, z15, z16, z17, z18, i_4, rfl, rfl⟩, by rw [ht]; exact hP.sub [0, 1, 2, 3, 4, 5, 6, 7, 8, 9, 10, 11, 12, 13, 14] rfl, hD.sub [0, 1, 2, 3, 4, 5, 6, 7, 8, 9, 10, 11, 12, 13, 14] (by decide +kernel) rfl⟩, hS.F ht⟩) hS.2.2 dX11_look_83
      ·
        have i_19 : p_t.toInt = 3 := by omega
        refine lv_tableIn (tgt := 84) hx hb dX11_look_24 (by omega) (by omega) (by rw [s_19]; rfl) (by decide +kernel) ?_
        refine lv_aload_n hx hb dX11_look_84 rfl (lv_at hl 0 rfl) ?_
        refine va_get (D := G.1) (ci := 11) (v := .ref a_k) (C := RX11) (T := TX11) (N := 17) hx hb hts inG_X11 hown hK hP 0 rfl rfl 3 (by decide +kernel) (hts _ fl_X11_29) (fun _ h9 => h9) rfl dX11_look_85 ?_
        refine va_get (D := G.1) (ci := 5) (v := .int z9) (C := RX5) (T := TX5) (N := 13) hx hb hts inG_X5 hown hK hP 1 rfl rfl 6 (by decide +kernel) (hts _ fl_X11_222) (fun _ h9 => h9) rfl dX11_look_88 ?_
        exact W.iret (v := z9) hx hb hr (fun t ht hW => ⟨⟨z9, [(a_o, (oc11 a_h a_im a_ke a_k a_wa a_th a_ha a_wk a_r a_x e_tl e_fd e_fpl a_wd e_wn a_rf e_lr)), (a_k, (oc5 a_h a_j a_pt z6 z7 z8 z9 z10 z11 z12 z13 z14 z15)), (a_h, (oc1 e_wa e_le e_st e_fo e_lc a_l a_g a_b a_s a_p a_w e_gb a_bb)), (a_g, (oc6 6 5 a_gn e_g)), (a_gn, (arI G 30 f_g)), (a_b, (oc6 5 24 a_bn e_b)), (a_bn, (arI G 120 f_b)), (a_p, (oc6 8 5 a_pn e_p)), (a_pn, (arI G 40 f_p)), (a_bb, (arJ G 24 f_bb)), (a_j, (oc2 a_as a_sk)), (a_as, (arI G 8 z17)), (a_sk, (arJ G 50 z18)), (a_l, (arW G 6 f_l)), (a_pt, (arI G 200 z16))], rfl, ⟨z9, z6, z7, z8, z9, z10, z11, z12, z13, z14, z15, z16, z17, z18, i_4, rfl, rfl⟩, by rw [ht]; exact hP.sub [0, 1, 2, 3, 4, 5, 6, 7, 8, 9, 10, 11, 12, 13, 14] rfl, hD.sub [0, 1, 2, 3, 4, 5, 6, 7, 8, 9, 10, 11, 12, 13, 14] (by decide +kernel) rfl⟩, hS.F ht⟩) hS.2.2 dX11_look_91
      ·
        have i_19 : p_t.toInt = 4 := by omega
        refine lv_tableIn (tgt := 92) hx hb dX11_look_24 (by omega) (by omega) (by rw [s_19]; rfl) (by decide +kernel) ?_
        refine lv_aload_n hx hb dX11_look_92 rfl (lv_at hl 0 rfl) ?_
        refine va_get (D := G.1) (ci := 11) (v := .ref a_k) (C := RX11) (T := TX11) (N := 17) hx hb hts inG_X11 hown hK hP 0 rfl rfl 3 (by decide +kernel) (hts _ fl_X11_29) (fun _ h9 => h9) rfl dX11_look_93 ?_
        refine va_get (D := G.1) (ci := 5) (v := .int z10) (C := RX5) (T := TX5) (N := 13) hx hb hts inG_X5 hown hK hP 1 rfl rfl 7 (by decide +kernel) (hts _ fl_X11_225) (fun _ h9 => h9) rfl dX11_look_96 ?_
        exact W.iret (v := z10) hx hb hr (fun t ht hW => ⟨⟨z10, [(a_o, (oc11 a_h a_im a_ke a_k a_wa a_th a_ha a_wk a_r a_x e_tl e_fd e_fpl a_wd e_wn a_rf e_lr)), (a_k, (oc5 a_h a_j a_pt z6 z7 z8 z9 z10 z11 z12 z13 z14 z15)), (a_h, (oc1 e_wa e_le e_st e_fo e_lc a_l a_g a_b a_s a_p a_w e_gb a_bb)), (a_g, (oc6 6 5 a_gn e_g)), (a_gn, (arI G 30 f_g)), (a_b, (oc6 5 24 a_bn e_b)), (a_bn, (arI G 120 f_b)), (a_p, (oc6 8 5 a_pn e_p)), (a_pn, (arI G 40 f_p)), (a_bb, (arJ G 24 f_bb)), (a_j, (oc2 a_as a_sk)), (a_as, (arI G 8 z17)), (a_sk, (arJ G 50 z18)), (a_l, (arW G 6 f_l)), (a_pt, (arI G 200 z16))], rfl, ⟨z10, z6, z7, z8, z9, z10, z11, z12, z13, z14, z15, z16, z17, z18, i_4, rfl, rfl⟩, by rw [ht]; exact hP.sub [0, 1, 2, 3, 4, 5, 6, 7, 8, 9, 10, 11, 12, 13, 14] rfl, hD.sub [0, 1, 2, 3, 4, 5, 6, 7, 8, 9, 10, 11, 12, 13, 14] (by decide +kernel) rfl⟩, hS.F ht⟩) hS.2.2 dX11_look_99
      ·
        have i_19 : p_t.toInt < 0 := by omega
        refine lv_tableOut (tgt := 100) hx hb dX11_look_24 (by omega) (by decide +kernel) ?_
        refine lv_iconst (v := (-1)) hx hb dX11_look_100 (by decide +kernel) ?_
        exact W.iret (v := (-1)) hx hb hr (fun t ht hW => ⟨⟨(-1), [(a_o, (oc11 a_h a_im a_ke a_k a_wa a_th a_ha a_wk a_r a_x e_tl e_fd e_fpl a_wd e_wn a_rf e_lr)), (a_k, (oc5 a_h a_j a_pt z6 z7 z8 z9 z10 z11 z12 z13 z14 z15)), (a_h, (oc1 e_wa e_le e_st e_fo e_lc a_l a_g a_b a_s a_p a_w e_gb a_bb)), (a_g, (oc6 6 5 a_gn e_g)), (a_gn, (arI G 30 f_g)), (a_b, (oc6 5 24 a_bn e_b)), (a_bn, (arI G 120 f_b)), (a_p, (oc6 8 5 a_pn e_p)), (a_pn, (arI G 40 f_p)), (a_bb, (arJ G 24 f_bb)), (a_j, (oc2 a_as a_sk)), (a_as, (arI G 8 z17)), (a_sk, (arJ G 50 z18)), (a_l, (arW G 6 f_l)), (a_pt, (arI G 200 z16))], rfl, ⟨(-1), z6, z7, z8, z9, z10, z11, z12, z13, z14, z15, z16, z17, z18, i_4, rfl, rfl⟩, by rw [ht]; exact hP.sub [0, 1, 2, 3, 4, 5, 6, 7, 8, 9, 10, 11, 12, 13, 14] rfl, hD.sub [0, 1, 2, 3, 4, 5, 6, 7, 8, 9, 10, 11, 12, 13, 14] (by decide +kernel) rfl⟩, hS.F ht⟩) hS.2.2 dX11_look_101
      ·
        have i_19 : p_t.toInt > 4 := by omega
        refine lv_tableOut (tgt := 100) hx hb dX11_look_24 (by omega) (by decide +kernel) ?_
        refine lv_iconst (v := (-1)) hx hb dX11_look_100 (by decide +kernel) ?_
        exact W.iret (v := (-1)) hx hb hr (fun t ht hW => ⟨⟨(-1), [(a_o, (oc11 a_h a_im a_ke a_k a_wa a_th a_ha a_wk a_r a_x e_tl e_fd e_fpl a_wd e_wn a_rf e_lr)), (a_k, (oc5 a_h a_j a_pt z6 z7 z8 z9 z10 z11 z12 z13 z14 z15)), (a_h, (oc1 e_wa e_le e_st e_fo e_lc a_l a_g a_b a_s a_p a_w e_gb a_bb)), (a_g, (oc6 6 5 a_gn e_g)), (a_gn, (arI G 30 f_g)), (a_b, (oc6 5 24 a_bn e_b)), (a_bn, (arI G 120 f_b)), (a_p, (oc6 8 5 a_pn e_p)), (a_pn, (arI G 40 f_p)), (a_bb, (arJ G 24 f_bb)), (a_j, (oc2 a_as a_sk)), (a_as, (arI G 8 z17)), (a_sk, (arJ G 50 z18)), (a_l, (arW G 6 f_l)), (a_pt, (arI G 200 z16))], rfl, ⟨(-1), z6, z7, z8, z9, z10, z11, z12, z13, z14, z15, z16, z17, z18, i_4, rfl, rfl⟩, by rw [ht]; exact hP.sub [0, 1, 2, 3, 4, 5, 6, 7, 8, 9, 10, 11, 12, 13, 14] rfl, hD.sub [0, 1, 2, 3, 4, 5, 6, 7, 8, 9, 10, 11, 12, 13, 14] (by decide +kernel) rfl⟩, hS.F ht⟩) hS.2.2 dX11_look_101
    ·
      exact absurd c_2 (by decide +kernel)
  ·
    have hJ9 := g5_same hP hk1
    clear hP hPc hDc hFc ht hvm hz1 hk1 hP1 hD1
    have hP := hJ9
    clear hJ9
    refine lv_if_ne (tgt := 11) hx hb dX11_look_6 (by decide +kernel) (fun c_20 => ?_) (fun c_20 => ?_)
    ·
      exact absurd c_20 (by decide +kernel)
    ·
      refine lv_iconst (v := (-1)) hx hb dX11_look_9 (by decide +kernel) ?_
      exact W.iret (v := (-1)) hx hb hr (fun t ht hW => ⟨⟨(-1), [(a_o, (oc11 a_h a_im a_ke a_k a_wa a_th a_ha a_wk a_r a_x e_tl e_fd e_fpl a_wd e_wn a_rf e_lr)), (a_k, (oc5 a_h a_j a_pt e_ln e_se e_lh e_br e_we e_me e_ce e_wy e_ho e_ov)), (a_h, (oc1 e_wa e_le e_st e_fo e_lc a_l a_g a_b a_s a_p a_w e_gb a_bb)), (a_g, (oc6 6 5 a_gn e_g)), (a_gn, (arI G 30 f_g)), (a_b, (oc6 5 24 a_bn e_b)), (a_bn, (arI G 120 f_b)), (a_p, (oc6 8 5 a_pn e_p)), (a_pn, (arI G 40 f_p)), (a_bb, (arJ G 24 f_bb)), (a_j, (oc2 a_as a_sk)), (a_as, (arI G 8 f_as)), (a_sk, (arJ G 50 f_sk)), (a_l, (arW G 6 f_l)), (a_pt, (arI G 200 f_pt))], rfl, ⟨(-1), e_ln, e_se, e_lh, e_br, e_we, e_me, e_ce, e_wy, e_ho, e_ov, f_pt, f_as, f_sk, h_e_ov, rfl, rfl⟩, by rw [ht]; exact hP.sub [0, 1, 2, 3, 4, 5, 6, 7, 8, 9, 10, 11, 12, 13, 14] rfl, hD.sub [0, 1, 2, 3, 4, 5, 6, 7, 8, 9, 10, 11, 12, 13, 14] (by decide +kernel) rfl⟩, hS.F ht⟩) hS.2.2 dX11_look_10
theorem dgX11_point_0 : ∀ r ∈ ([(0, (.iload_n 1, 1)), (1, (.iload_n 2, 1)), (2, (.iload_n 3, 1)), (3, (.invokestatic 207, 3)), (6, (.ifCond .ne 5, 3)), (9, (.iconst (-1), 1)), (10, (.ireturn, 1)), (11, (.aload_n 0, 1)), (12, (.getfield 29, 3)), (15, (.iload_n 1, 1)), (16, (.iload_n 2, 1)), (17, (.iload_n 3, 1)), (18, (.iconst 0, 1)), (19, (.invokevirtual 210, 3)), (22, (.iload 4, 2)), (24, (.ifCond .lt 28, 3)), (27, (.iload 4, 2)), (29, (.aload_n 0, 1)), (30, (.getfield 29, 3)), (33, (.getfield 216, 3)), (36, (.if_icmp .ge 16, 3)), (39, (.aload_n 0, 1)), (40, (.getfield 29, 3)), (43, (.getfield 228, 3)), (46, (.iload 4, 2)), (48, (.iaload, 1)), (49, (.goto 4, 3)), (52, (.iconst (-1), 1)), (53, (.ireturn, 1))] : List (Nat × (Instr × Nat))), decode cX11_point r.1 = .ok r.2 := by decide +kernel
theorem dX11_point_0 : decode cX11_point 0 = .ok (.iload_n 1, 1) := dgX11_point_0 (0, (.iload_n 1, 1)) (List.mem_of_getElem? (i := 0) rfl)
theorem dX11_point_1 : decode cX11_point 1 = .ok (.iload_n 2, 1) := dgX11_point_0 (1, (.iload_n 2, 1)) (List.mem_of_getElem? (i := 1) rfl)
theorem dX11_point_2 : decode cX11_point 2 = .ok (.iload_n 3, 1) := dgX11_point_0 (2, (.iload_n 3, 1)) (List.mem_of_getElem? (i := 2) rfl)
theorem dX11_point_3 : decode cX11_point 3 = .ok (.invokestatic 207, 3) := dgX11_point_0 (3, (.invokestatic 207, 3)) (List.mem_of_getElem? (i := 3) rfl)
theorem dX11_point_6 : decode cX11_point 6 = .ok (.ifCond .ne 5, 3) := dgX11_point_0 (6, (.ifCond .ne 5, 3)) (List.mem_of_getElem? (i := 4) rfl)
theorem dX11_point_9 : decode cX11_point 9 = .ok (.iconst (-1), 1) := dgX11_point_0 (9, (.iconst (-1), 1)) (List.mem_of_getElem? (i := 5) rfl)
theorem dX11_point_10 : decode cX11_point 10 = .ok (.ireturn, 1) := dgX11_point_0 (10, (.ireturn, 1)) (List.mem_of_getElem? (i := 6) rfl)
theorem dX11_point_11 : decode cX11_point 11 = .ok (.aload_n 0, 1) := dgX11_point_0 (11, (.aload_n 0, 1)) (List.mem_of_getElem? (i := 7) rfl)
theorem dX11_point_12 : decode cX11_point 12 = .ok (.getfield 29, 3) := dgX11_point_0 (12, (.getfield 29, 3)) (List.mem_of_getElem? (i := 8) rfl)
theorem dX11_point_15 : decode cX11_point 15 = .ok (.iload_n 1, 1) := dgX11_point_0 (15, (.iload_n 1, 1)) (List.mem_of_getElem? (i := 9) rfl)
theorem dX11_point_16 : decode cX11_point 16 = .ok (.iload_n 2, 1) := dgX11_point_0 (16, (.iload_n 2, 1)) (List.mem_of_getElem? (i := 10) rfl)
theorem dX11_point_17 : decode cX11_point 17 = .ok (.iload_n 3, 1) := dgX11_point_0 (17, (.iload_n 3, 1)) (List.mem_of_getElem? (i := 11) rfl)
theorem dX11_point_18 : decode cX11_point 18 = .ok (.iconst 0, 1) := dgX11_point_0 (18, (.iconst 0, 1)) (List.mem_of_getElem? (i := 12) rfl)
theorem dX11_point_19 : decode cX11_point 19 = .ok (.invokevirtual 210, 3) := dgX11_point_0 (19, (.invokevirtual 210, 3)) (List.mem_of_getElem? (i := 13) rfl)
theorem dX11_point_22 : decode cX11_point 22 = .ok (.iload 4, 2) := dgX11_point_0 (22, (.iload 4, 2)) (List.mem_of_getElem? (i := 14) rfl)
theorem dX11_point_24 : decode cX11_point 24 = .ok (.ifCond .lt 28, 3) := dgX11_point_0 (24, (.ifCond .lt 28, 3)) (List.mem_of_getElem? (i := 15) rfl)
theorem dX11_point_27 : decode cX11_point 27 = .ok (.iload 4, 2) := dgX11_point_0 (27, (.iload 4, 2)) (List.mem_of_getElem? (i := 16) rfl)
theorem dX11_point_29 : decode cX11_point 29 = .ok (.aload_n 0, 1) := dgX11_point_0 (29, (.aload_n 0, 1)) (List.mem_of_getElem? (i := 17) rfl)
theorem dX11_point_30 : decode cX11_point 30 = .ok (.getfield 29, 3) := dgX11_point_0 (30, (.getfield 29, 3)) (List.mem_of_getElem? (i := 18) rfl)
theorem dX11_point_33 : decode cX11_point 33 = .ok (.getfield 216, 3) := dgX11_point_0 (33, (.getfield 216, 3)) (List.mem_of_getElem? (i := 19) rfl)
theorem dX11_point_36 : decode cX11_point 36 = .ok (.if_icmp .ge 16, 3) := dgX11_point_0 (36, (.if_icmp .ge 16, 3)) (List.mem_of_getElem? (i := 20) rfl)
theorem dX11_point_39 : decode cX11_point 39 = .ok (.aload_n 0, 1) := dgX11_point_0 (39, (.aload_n 0, 1)) (List.mem_of_getElem? (i := 21) rfl)
theorem dX11_point_40 : decode cX11_point 40 = .ok (.getfield 29, 3) := dgX11_point_0 (40, (.getfield 29, 3)) (List.mem_of_getElem? (i := 22) rfl)
theorem dX11_point_43 : decode cX11_point 43 = .ok (.getfield 228, 3) := dgX11_point_0 (43, (.getfield 228, 3)) (List.mem_of_getElem? (i := 23) rfl)
theorem dX11_point_46 : decode cX11_point 46 = .ok (.iload 4, 2) := dgX11_point_0 (46, (.iload 4, 2)) (List.mem_of_getElem? (i := 24) rfl)
theorem dX11_point_48 : decode cX11_point 48 = .ok (.iaload, 1) := dgX11_point_0 (48, (.iaload, 1)) (List.mem_of_getElem? (i := 25) rfl)
theorem dX11_point_49 : decode cX11_point 49 = .ok (.goto 4, 3) := dgX11_point_0 (49, (.goto 4, 3)) (List.mem_of_getElem? (i := 26) rfl)
theorem dX11_point_52 : decode cX11_point 52 = .ok (.iconst (-1), 1) := dgX11_point_0 (52, (.iconst (-1), 1)) (List.mem_of_getElem? (i := 27) rfl)
theorem dX11_point_53 : decode cX11_point 53 = .ok (.ireturn, 1) := dgX11_point_0 (53, (.ireturn, 1)) (List.mem_of_getElem? (i := 28) rfl)
theorem fl_X11_228 : Cond.fieldLink RX11 228 "LateGlass$Look" "points" "[I" ∈ tblG := tg 248 (by decide +kernel) (by decide +kernel)
set_option maxHeartbeats 4000000 in
set_option maxRecDepth 100000 in
theorem x_pointN (l : Launch) (G : g5_G) (a_o a_k a_h a_g a_gn a_b a_bn a_p a_pn a_bb a_j a_as a_sk a_l a_pt a_im a_ke a_wa a_th a_ha a_wk a_r a_x a_wd a_rf a_s a_w : Nat) (sz : Nat) (e_tl : Int32) (e_fd : Int32) (e_fpl : Int32) (e_wn : Int32) (e_lr : Int32) (e_le : Int32) (e_st : Int32) (e_fo : Int32) (e_lc : Int32) (e_g : Int32) (e_b : Int32) (e_p : Int32) (e_ln : Int32) (e_se : Int32) (e_lh : Int32) (e_br : Int32) (e_we : Int32) (e_me : Int32) (e_ce : Int32) (e_wy : Int32) (e_ho : Int32) (e_ov : Int32) (p_c : Int32) (p_w : Int32) (p_h : Int32) (p_i : Int32) (e_wa : Int64) (e_gb : Int64) (f_g : Nat → Int32) (f_b : Nat → Int32) (f_p : Nat → Int32) (f_bb : Nat → Int64) (f_as : Nat → Int32) (f_sk : Nat → Int64) (f_l : Nat → Option Nat) (f_pt : Nat → Int32) (h_e_tl : 0 ≤ e_tl.toInt ∧ e_tl.toInt ≤ 400) (h_e_wn : 0 ≤ e_wn.toInt ∧ e_wn.toInt ≤ 1) (h_e_g : 0 ≤ e_g.toInt ∧ e_g.toInt ≤ 6) (h_e_b : 0 ≤ e_b.toInt ∧ e_b.toInt ≤ 5) (h_e_p : 0 ≤ e_p.toInt ∧ e_p.toInt ≤ 8) (h_e_ov : 0 ≤ e_ov.toInt ∧ e_ov.toInt ≤ 1) (e_gk : gOK f_g e_g.toInt) (e_pk : gOK f_p e_p.toInt) (e_gi : inT e_gb f_g e_g.toInt) (e_f : e_fo.toInt < 0 ∨ e_lc.toInt ≤ e_fo.toInt) : Met l yX11_point (wsG yX11_point cX11_point 5 (some .int)) ({ frames := 14, cells := 0, slots := 0, locals := 556 }) (va_Pc [.ref a_o, .int p_c, .int p_w, .int p_h, .int p_i] (g5_P G [(a_o, (oc11 a_h a_im a_ke a_k a_wa a_th a_ha a_wk a_r a_x e_tl e_fd e_fpl a_wd e_wn a_rf e_lr)), (a_k, (oc5 a_h a_j a_pt e_ln e_se e_lh e_br e_we e_me e_ce e_wy e_ho e_ov)), (a_h, (oc1 e_wa e_le e_st e_fo e_lc a_l a_g a_b a_s a_p a_w e_gb a_bb)), (a_g, (oc6 6 5 a_gn e_g)), (a_gn, (arI G 30 f_g)), (a_b, (oc6 5 24 a_bn e_b)), (a_bn, (arI G 120 f_b)), (a_p, (oc6 8 5 a_pn e_p)), (a_pn, (arI G 40 f_p)), (a_bb, (arJ G 24 f_bb)), (a_j, (oc2 a_as a_sk)), (a_as, (arI G 8 f_as)), (a_sk, (arJ G 50 f_sk)), (a_l, (arW G 6 f_l)), (a_pt, (arI G 200 f_pt))] sz)) (va_Qi (fun (r : Int32) (u : va_W) => (∃ (o_r : Int32) (o_ln : Int32) (o_se : Int32) (o_lh : Int32) (o_br : Int32) (o_we : Int32) (o_me : Int32) (o_ce : Int32) (o_wy : Int32) (o_ho : Int32) (o_ov : Int32) (o_pt : Nat → Int32) (o_as : Nat → Int32) (o_sk : Nat → Int64), (0 ≤ o_ov.toInt ∧ o_ov.toInt ≤ 1) ∧ (r = o_r) ∧ (u = [(a_o, (oc11 a_h a_im a_ke a_k a_wa a_th a_ha a_wk a_r a_x e_tl e_fd e_fpl a_wd e_wn a_rf e_lr)), (a_k, (oc5 a_h a_j a_pt o_ln o_se o_lh o_br o_we o_me o_ce o_wy o_ho o_ov)), (a_h, (oc1 e_wa e_le e_st e_fo e_lc a_l a_g a_b a_s a_p a_w e_gb a_bb)), (a_g, (oc6 6 5 a_gn e_g)), (a_gn, (arI G 30 f_g)), (a_b, (oc6 5 24 a_bn e_b)), (a_bn, (arI G 120 f_b)), (a_p, (oc6 8 5 a_pn e_p)), (a_pn, (arI G 40 f_p)), (a_bb, (arJ G 24 f_bb)), (a_j, (oc2 a_as a_sk)), (a_as, (arI G 8 o_as)), (a_sk, (arJ G 50 o_sk)), (a_l, (arW G 6 f_l)), (a_pt, (arI G 200 o_pt))]))) (g5_B G (va_A [(a_o, (oc11 a_h a_im a_ke a_k a_wa a_th a_ha a_wk a_r a_x e_tl e_fd e_fpl a_wd e_wn a_rf e_lr)), (a_k, (oc5 a_h a_j a_pt e_ln e_se e_lh e_br e_we e_me e_ce e_wy e_ho e_ov)), (a_h, (oc1 e_wa e_le e_st e_fo e_lc a_l a_g a_b a_s a_p a_w e_gb a_bb)), (a_g, (oc6 6 5 a_gn e_g)), (a_gn, (arI G 30 f_g)), (a_b, (oc6 5 24 a_bn e_b)), (a_bn, (arI G 120 f_b)), (a_p, (oc6 8 5 a_pn e_p)), (a_pn, (arI G 40 f_p)), (a_bb, (arJ G 24 f_bb)), (a_j, (oc2 a_as a_sk)), (a_as, (arI G 8 f_as)), (a_sk, (arJ G 50 f_sk)), (a_l, (arW G 6 f_l)), (a_pt, (arI G 200 f_pt))] sz)) (va_A [(a_o, (oc11 a_h a_im a_ke a_k a_wa a_th a_ha a_wk a_r a_x e_tl e_fd e_fpl a_wd e_wn a_rf e_lr)), (a_k, (oc5 a_h a_j a_pt e_ln e_se e_lh e_br e_we e_me e_ce e_wy e_ho e_ov)), (a_h, (oc1 e_wa e_le e_st e_fo e_lc a_l a_g a_b a_s a_p a_w e_gb a_bb)), (a_g, (oc6 6 5 a_gn e_g)), (a_gn, (arI G 30 f_g)), (a_b, (oc6 5 24 a_bn e_b)), (a_bn, (arI G 120 f_b)), (a_p, (oc6 8 5 a_pn e_p)), (a_pn, (arI G 40 f_p)), (a_bb, (arJ G 24 f_bb)), (a_j, (oc2 a_as a_sk)), (a_as, (arI G 8 f_as)), (a_sk, (arJ G 50 f_sk)), (a_l, (arW G 6 f_l)), (a_pt, (arI G 200 f_pt))] sz)) 0 0 (va_A [(a_o, (oc11 a_h a_im a_ke a_k a_wa a_th a_ha a_wk a_r a_x e_tl e_fd e_fpl a_wd e_wn a_rf e_lr)), (a_k, (oc5 a_h a_j a_pt e_ln e_se e_lh e_br e_we e_me e_ce e_wy e_ho e_ov)), (a_h, (oc1 e_wa e_le e_st e_fo e_lc a_l a_g a_b a_s a_p a_w e_gb a_bb)), (a_g, (oc6 6 5 a_gn e_g)), (a_gn, (arI G 30 f_g)), (a_b, (oc6 5 24 a_bn e_b)), (a_bn, (arI G 120 f_b)), (a_p, (oc6 8 5 a_pn e_p)), (a_pn, (arI G 40 f_p)), (a_bb, (arJ G 24 f_bb)), (a_j, (oc2 a_as a_sk)), (a_as, (arI G 8 f_as)), (a_sk, (arJ G 50 f_sk)), (a_l, (arW G 6 f_l)), (a_pt, (arI G 200 f_pt))] sz) := by
  refine Met.ofW (cc := cX11_point) (maxL := 5) (ret := (some .int)) (by decide +kernel) rfl ?_
  intro p e s m args below meth c s₁ B hml hv
  obtain ⟨rfl, hsz, hP, hK, hD0, hN, hT⟩ := hv
  have hx := B.exec
  have hb := B.bytes
  have hr := B.returns
  have hts : ∀ w ∈ tblG, w.before _ s = true := fun w h => atoms_spec (ws := (wsG yX11_point cX11_point 5 (some .int))) B.pre w (List.mem_cons_of_mem _ h)
  have hown : s.vm.findClass RX11 = some m.cls := findClass_of_methodNamed B.named
  have hlocks := B.notSynchronized
  subst hsz
  have hD := hD0.self (sz := s.heap.size)
  generalize hAe : va_A [(a_o, (oc11 a_h a_im a_ke a_k a_wa a_th a_ha a_wk a_r a_x e_tl e_fd e_fpl a_wd e_wn a_rf e_lr)), (a_k, (oc5 a_h a_j a_pt e_ln e_se e_lh e_br e_we e_me e_ce e_wy e_ho e_ov)), (a_h, (oc1 e_wa e_le e_st e_fo e_lc a_l a_g a_b a_s a_p a_w e_gb a_bb)), (a_g, (oc6 6 5 a_gn e_g)), (a_gn, (arI G 30 f_g)), (a_b, (oc6 5 24 a_bn e_b)), (a_bn, (arI G 120 f_b)), (a_p, (oc6 8 5 a_pn e_p)), (a_pn, (arI G 40 f_p)), (a_bb, (arJ G 24 f_bb)), (a_j, (oc2 a_as a_sk)), (a_as, (arI G 8 f_as)), (a_sk, (arJ G 50 f_sk)), (a_l, (arW G 6 f_l)), (a_pt, (arI G 200 f_pt))] s.heap.size = A at hD hT ⊢
  have hA : ∀ q : Nat, s.heap.size ≤ q → A q := fun q h => by rw [← hAe]; exact Or.inr h
  have hS : va_S A s.heap s.heap [] := va_S.rf
  replace hP : va_P G.1 vwCl [(a_o, (oc11 a_h a_im a_ke a_k a_wa a_th a_ha a_wk a_r a_x e_tl e_fd e_fpl a_wd e_wn a_rf e_lr)), (a_k, (oc5 a_h a_j a_pt e_ln e_se e_lh e_br e_we e_me e_ce e_wy e_ho e_ov)), (a_h, (oc1 e_wa e_le e_st e_fo e_lc a_l a_g a_b a_s a_p a_w e_gb a_bb)), (a_g, (oc6 6 5 a_gn e_g)), (a_gn, (arI G 30 f_g)), (a_b, (oc6 5 24 a_bn e_b)), (a_bn, (arI G 120 f_b)), (a_p, (oc6 8 5 a_pn e_p)), (a_pn, (arI G 40 f_p)), (a_bb, (arJ G 24 f_bb)), (a_j, (oc2 a_as a_sk)), (a_as, (arI G 8 f_as)), (a_sk, (arJ G 50 f_sk)), (a_l, (arW G 6 f_l)), (a_pt, (arI G 200 f_pt))] s.heap := hP
  have hl := lv_entry ([.ref a_o, .int p_c, .int p_w, .int p_h, .int p_i]) (n := 5) (Nat.le_of_ble_eq_true rfl)
  rw [lg_entry_eq]
  generalize (lg_sl ([.ref a_o, .int p_c, .int p_w, .int p_h, .int p_i]) ++ List.replicate (5 - (lg_sl ([.ref a_o, .int p_c, .int p_w, .int p_h, .int p_i])).length) Slot.unset).toArray = ls at hl ⊢
  replace hl : lv_has ls 5 [(0, .ref a_o), (1, .int p_c), (2, .int p_w), (3, .int p_h), (4, .int p_i)] := hl
  refine lv_iload_n hx hb dX11_point_0 rfl (lv_at hl 1 rfl) ?_
  refine lv_iload_n hx hb dX11_point_1 rfl (lv_at hl 2 rfl) ?_
  refine lv_iload_n hx hb dX11_point_2 rfl (lv_at hl 3 rfl) ?_
  obtain ⟨hPc, hDc, hFc⟩ := g5_sub3 (wc := []) hP hD hS hA [] (by decide +kernel) rfl
  refine va_calli (va_runS (As := [.int p_c, .int p_w, .int p_h]) (rest := []) ⟨hx, hb, hml, hown, hts⟩ (x_isLook l G s.heap.size p_c p_w p_h) (va_cwS 3 hts gS_X11_207 rfl rfl rfl hs_X11_isLook ⟨Nat.le_of_ble_eq_true rfl, Nat.le_of_ble_eq_true rfl⟩) (g5_preS hPc hK hDc hN hT hS hFc) rfl rfl hl.1 rfl (lv_room (Nat.le_of_ble_eq_true rfl)) dX11_point_3 ⟨Nat.le_of_ble_eq_true rfl, Nat.le_of_ble_eq_true rfl⟩) hS (fun q _ h => hFc q h) hFc (fun r u t H locs ht hvm hw hB hz1 hk1 hS => ?_)
  obtain ⟨hP1, hD1⟩ := hB
  have hP1 := g5_ht ht hP1
  rcases hw with ⟨(i_1 : (0 ≤ p_c.toInt ∧ p_c.toInt ≤ 63) ∧ (0 ≤ p_w.toInt ∧ p_w.toInt ≤ 3) ∧ (0 ≤ p_h.toInt ∧ p_h.toInt ≤ 23)), rfl, rfl⟩ | ⟨rfl, rfl⟩
  ·
    have hJ9 := g5_same hP hk1
    clear hP hPc hDc hFc ht hvm hz1 hk1 hP1 hD1
    have hP := hJ9
    clear hJ9
    refine lv_if_ne (tgt := 11) hx hb dX11_point_6 (by decide +kernel) (fun c_2 => ?_) (fun c_2 => ?_)
    ·
      refine lv_aload_n hx hb dX11_point_11 rfl (lv_at hl 0 rfl) ?_
      refine va_get (D := G.1) (ci := 11) (v := .ref a_k) (C := RX11) (T := TX11) (N := 17) hx hb hts inG_X11 hown hK hP 0 rfl rfl 3 (by decide +kernel) (hts _ fl_X11_29) (fun _ h9 => h9) rfl dX11_point_12 ?_
      refine lv_iload_n hx hb dX11_point_15 rfl (lv_at hl 1 rfl) ?_
      refine lv_iload_n hx hb dX11_point_16 rfl (lv_at hl 2 rfl) ?_
      refine W.eq (g2 := F0 m 17 ls [.int p_w, .int p_c, .ref a_k]) rfl ?_
      refine lv_iload_n hx hb dX11_point_17 rfl (lv_at hl 3 rfl) ?_
      refine lv_iconst (v := 0) hx hb dX11_point_18 (by decide +kernel) ?_
      obtain ⟨hPc, hDc, hFc⟩ := g5_sub3 (wc := [(a_k, (oc5 a_h a_j a_pt e_ln e_se e_lh e_br e_we e_me e_ce e_wy e_ho e_ov)), (a_h, (oc1 e_wa e_le e_st e_fo e_lc a_l a_g a_b a_s a_p a_w e_gb a_bb)), (a_g, (oc6 6 5 a_gn e_g)), (a_gn, (arI G 30 f_g)), (a_b, (oc6 5 24 a_bn e_b)), (a_bn, (arI G 120 f_b)), (a_p, (oc6 8 5 a_pn e_p)), (a_pn, (arI G 40 f_p)), (a_bb, (arJ G 24 f_bb)), (a_j, (oc2 a_as a_sk)), (a_as, (arI G 8 f_as)), (a_sk, (arJ G 50 f_sk)), (a_l, (arW G 6 f_l)), (a_pt, (arI G 200 f_pt))]) hP hD hS hA [1, 2, 3, 4, 5, 6, 7, 8, 9, 10, 11, 12, 13, 14] (by decide +kernel) rfl
      refine va_callv (va_runV (As := [.int p_c, .int p_w, .int p_h, .int 0]) (rest := []) ⟨hx, hb, hml, hown, hts⟩ (k_runN l G a_k a_h a_g a_gn a_b a_bn a_p a_pn a_bb a_j a_as a_sk a_l a_pt a_s a_w H.size e_le e_st e_fo e_lc e_g e_b e_p e_ln e_se e_lh e_br e_we e_me e_ce e_wy e_ho e_ov p_c p_w p_h 0 e_wa e_gb f_g f_b f_p f_bb f_as f_sk f_l f_pt h_e_g h_e_b h_e_p h_e_ov (e_gk) (e_pk) (e_gi) (e_f)) (cwV 4 hts gV_X11_210 rfl rfl rfl hv_X5_run ⟨Nat.le_of_ble_eq_true rfl, Nat.le_of_ble_eq_true rfl⟩) (g5_preV hPc hK hDc hN hT hS hFc (ci := 5) (q0 := 0) rfl rfl) rfl rfl hl.1 rfl (lv_room (Nat.le_of_ble_eq_true rfl)) dX11_point_19 ⟨Nat.le_of_ble_eq_true rfl, Nat.le_of_ble_eq_true rfl⟩) hS (fun q _ h => hFc q h) hFc (fun u t H locs ht hvm hw hB hz1 hk1 hS => ?_)
      obtain ⟨hP1, hD1⟩ := hB
      have hP1 := g5_ht ht hP1
      obtain ⟨z6, z7, z8, z9, z10, z11, z12, z13, z14, z15, z16, z17, z18, (i_3 : 0 ≤ z6.toInt ∧ z6.toInt ≤ 200), (i_4 : 0 ≤ z15.toInt ∧ z15.toInt ≤ 1), (i_5 : ∀ j : Nat, (j : Int) < z6.toInt → 0 ≤ (z16 j).toInt ∧ (z16 j).toInt ≤ 1535), rfl⟩ := hw
      have hJ9 := va_join (wr := [(a_o, (oc11 a_h a_im a_ke a_k a_wa a_th a_ha a_wk a_r a_x e_tl e_fd e_fpl a_wd e_wn a_rf e_lr))]) hP hD [1, 2, 3, 4, 5, 6, 7, 8, 9, 10, 11, 12, 13, 14] [0] rfl rfl (by decide +kernel) (by decide +kernel) hk1 hFc hP1 hD1
      clear hP hD hPc hDc hFc ht hvm hz1 hk1 hP1 hD1
      obtain ⟨hP, hD⟩ := hJ9
      refine g5_rs [(a_o, (oc11 a_h a_im a_ke a_k a_wa a_th a_ha a_wk a_r a_x e_tl e_fd e_fpl a_wd e_wn a_rf e_lr)), (a_k, (oc5 a_h a_j a_pt z6 z7 z8 z9 z10 z11 z12 z13 z14 z15)), (a_h, (oc1 e_wa e_le e_st e_fo e_lc a_l a_g a_b a_s a_p a_w e_gb a_bb)), (a_g, (oc6 6 5 a_gn e_g)), (a_gn, (arI G 30 f_g)), (a_b, (oc6 5 24 a_bn e_b)), (a_bn, (arI G 120 f_b)), (a_p, (oc6 8 5 a_pn e_p)), (a_pn, (arI G 40 f_p)), (a_bb, (arJ G 24 f_bb)), (a_j, (oc2 a_as a_sk)), (a_as, (arI G 8 z17)), (a_sk, (arJ G 50 z18)), (a_l, (arW G 6 f_l)), (a_pt, (arI G 200 z16))] hP hD ?_
      clear hP hD
      intro hP hD
      refine lv_iload hx hb dX11_point_22 (lv_at hl 4 rfl) ?_
      refine lv_if_lt (tgt := 52) hx hb dX11_point_24 (by decide +kernel) (fun c_19 => ?_) (fun c_19 => ?_)
      ·
        have i_19 : p_i.toInt < 0 := g5_lt (a := p_i.toInt) (b := 0) rfl (by decide +kernel) c_19
        refine lv_iconst (v := (-1)) hx hb dX11_point_52 (by decide +kernel) ?_
        exact W.iret (v := (-1)) hx hb hr (fun t ht hW => ⟨⟨(-1), [(a_o, (oc11 a_h a_im a_ke a_k a_wa a_th a_ha a_wk a_r a_x e_tl e_fd e_fpl a_wd e_wn a_rf e_lr)), (a_k, (oc5 a_h a_j a_pt z6 z7 z8 z9 z10 z11 z12 z13 z14 z15)), (a_h, (oc1 e_wa e_le e_st e_fo e_lc a_l a_g a_b a_s a_p a_w e_gb a_bb)), (a_g, (oc6 6 5 a_gn e_g)), (a_gn, (arI G 30 f_g)), (a_b, (oc6 5 24 a_bn e_b)), (a_bn, (arI G 120 f_b)), (a_p, (oc6 8 5 a_pn e_p)), (a_pn, (arI G 40 f_p)), (a_bb, (arJ G 24 f_bb)), (a_j, (oc2 a_as a_sk)), (a_as, (arI G 8 z17)), (a_sk, (arJ G 50 z18)), (a_l, (arW G 6 f_l)), (a_pt, (arI G 200 z16))], rfl, ⟨(-1), z6, z7, z8, z9, z10, z11, z12, z13, z14, z15, z16, z17, z18, i_4, rfl, rfl⟩, by rw [ht]; exact hP.sub [0, 1, 2, 3, 4, 5, 6, 7, 8, 9, 10, 11, 12, 13, 14] rfl, hD.sub [0, 1, 2, 3, 4, 5, 6, 7, 8, 9, 10, 11, 12, 13, 14] (by decide +kernel) rfl⟩, hS.F ht⟩) hS.2.2 dX11_point_53
      ·
        have i_19 : p_i.toInt ≥ 0 := g5_ltN (a := p_i.toInt) (b := 0) rfl (by decide +kernel) c_19
        refine lv_iload hx hb dX11_point_27 (lv_at hl 4 rfl) ?_
        refine lv_aload_n hx hb dX11_point_29 rfl (lv_at hl 0 rfl) ?_
        refine va_get (D := G.1) (ci := 11) (v := .ref a_k) (C := RX11) (T := TX11) (N := 17) hx hb hts inG_X11 hown hK hP 0 rfl rfl 3 (by decide +kernel) (hts _ fl_X11_29) (fun _ h9 => h9) rfl dX11_point_30 ?_
        refine va_get (D := G.1) (ci := 5) (v := .int z6) (C := RX5) (T := TX5) (N := 13) hx hb hts inG_X5 hown hK hP 1 rfl rfl 3 (by decide +kernel) (hts _ fl_X11_216) (fun _ h9 => h9) rfl dX11_point_33 ?_
        refine W.eq (g2 := F0 m 36 ls [.int z6, .int p_i]) rfl ?_
        refine lv_icmp_ge (tgt := 52) hx hb dX11_point_36 (by decide +kernel) (fun c_20 => ?_) (fun c_20 => ?_)
        ·
          have i_20 : p_i.toInt ≥ z6.toInt := g5_ge (a := p_i.toInt) (b := z6.toInt) rfl rfl c_20
          refine lv_iconst (v := (-1)) hx hb dX11_point_52 (by decide +kernel) ?_
          exact W.iret (v := (-1)) hx hb hr (fun t ht hW => ⟨⟨(-1), [(a_o, (oc11 a_h a_im a_ke a_k a_wa a_th a_ha a_wk a_r a_x e_tl e_fd e_fpl a_wd e_wn a_rf e_lr)), (a_k, (oc5 a_h a_j a_pt z6 z7 z8 z9 z10 z11 z12 z13 z14 z15)), (a_h, (oc1 e_wa e_le e_st e_fo e_lc a_l a_g a_b a_s a_p a_w e_gb a_bb)), (a_g, (oc6 6 5 a_gn e_g)), (a_gn, (arI G 30 f_g)), (a_b, (oc6 5 24 a_bn e_b)), (a_bn, (arI G 120 f_b)), (a_p, (oc6 8 5 a_pn e_p)), (a_pn, (arI G 40 f_p)), (a_bb, (arJ G 24 f_bb)), (a_j, (oc2 a_as a_sk)), (a_as, (arI G 8 z17)), (a_sk, (arJ G 50 z18)), (a_l, (arW G 6 f_l)), (a_pt, (arI G 200 z16))], rfl, ⟨(-1), z6, z7, z8, z9, z10, z11, z12, z13, z14, z15, z16, z17, z18, i_4, rfl, rfl⟩, by rw [ht]; exact hP.sub [0, 1, 2, 3, 4, 5, 6, 7, 8, 9, 10, 11, 12, 13, 14] rfl, hD.sub [0, 1, 2, 3, 4, 5, 6, 7, 8, 9, 10, 11, 12, 13, 14] (by decide +kernel) rfl⟩, hS.F ht⟩) hS.2.2 dX11_point_53
        ·
          have i_20 : p_i.toInt < z6.toInt := g5_geN (a := p_i.toInt) (b := z6.toInt) rfl rfl c_20
          refine lv_aload_n hx hb dX11_point_39 rfl (lv_at hl 0 rfl) ?_
          refine va_get (D := G.1) (ci := 11) (v := .ref a_k) (C := RX11) (T := TX11) (N := 17) hx hb hts inG_X11 hown hK hP 0 rfl rfl 3 (by decide +kernel) (hts _ fl_X11_29) (fun _ h9 => h9) rfl dX11_point_40 ?_
          refine va_get (D := G.1) (ci := 5) (v := .ref a_pt) (C := RX5) (T := TX5) (N := 13) hx hb hts inG_X5 hown hK hP 1 rfl rfl 2 (by decide +kernel) (hts _ fl_X11_228) (fun _ h9 => h9) rfl dX11_point_43 ?_
          refine lv_iload hx hb dX11_point_46 (lv_at hl 4 rfl) ?_
          refine W.eq (g2 := F0 m 48 ls [.int p_i, .ref a_pt]) rfl ?_
          refine va_iald hx hb hK hP 14 0 rfl rfl (i := p_i) (vp_in_iff.mpr ⟨by omega, by omega⟩) dX11_point_48 ?_
          refine lv_goto (tgt := 53) hx hb dX11_point_49 (by decide +kernel) ?_
          exact W.iret (v := (z16 p_i.toNatClampNeg)) hx hb hr (fun t ht hW => ⟨⟨(z16 p_i.toNatClampNeg), [(a_o, (oc11 a_h a_im a_ke a_k a_wa a_th a_ha a_wk a_r a_x e_tl e_fd e_fpl a_wd e_wn a_rf e_lr)), (a_k, (oc5 a_h a_j a_pt z6 z7 z8 z9 z10 z11 z12 z13 z14 z15)), (a_h, (oc1 e_wa e_le e_st e_fo e_lc a_l a_g a_b a_s a_p a_w e_gb a_bb)), (a_g, (oc6 6 5 a_gn e_g)), (a_gn, (arI G 30 f_g)), (a_b, (oc6 5 24 a_bn e_b)), (a_bn, (arI G 120 f_b)), (a_p, (oc6 8 5 a_pn e_p)), (a_pn, (arI G 40 f_p)), (a_bb, (arJ G 24 f_bb)), (a_j, (oc2 a_as a_sk)), (a_as, (arI G 8 z17)), (a_sk, (arJ G 50 z18)), (a_l, (arW G 6 f_l)), (a_pt, (arI G 200 z16))], rfl, ⟨(z16 p_i.toNatClampNeg), z6, z7, z8, z9, z10, z11, z12, z13, z14, z15, z16, z17, z18, i_4, rfl, rfl⟩, by rw [ht]; exact hP.sub [0, 1, 2, 3, 4, 5, 6, 7, 8, 9, 10, 11, 12, 13, 14] rfl, hD.sub [0, 1, 2, 3, 4, 5, 6, 7, 8, 9, 10, 11, 12, 13, 14] (by decide +kernel) rfl⟩, hS.F ht⟩) hS.2.2 dX11_point_53
    ·
      exact absurd c_2 (by decide +kernel)
  ·
    have hJ9 := g5_same hP hk1
    clear hP hPc hDc hFc ht hvm hz1 hk1 hP1 hD1
    have hP := hJ9
    clear hJ9
    refine lv_if_ne (tgt := 11) hx hb dX11_point_6 (by decide +kernel) (fun c_21 => ?_) (fun c_21 => ?_)
    ·
      exact absurd c_21 (by decide +kernel)
    ·
      refine lv_iconst (v := (-1)) hx hb dX11_point_9 (by decide +kernel) ?_
      exact W.iret (v := (-1)) hx hb hr (fun t ht hW => ⟨⟨(-1), [(a_o, (oc11 a_h a_im a_ke a_k a_wa a_th a_ha a_wk a_r a_x e_tl e_fd e_fpl a_wd e_wn a_rf e_lr)), (a_k, (oc5 a_h a_j a_pt e_ln e_se e_lh e_br e_we e_me e_ce e_wy e_ho e_ov)), (a_h, (oc1 e_wa e_le e_st e_fo e_lc a_l a_g a_b a_s a_p a_w e_gb a_bb)), (a_g, (oc6 6 5 a_gn e_g)), (a_gn, (arI G 30 f_g)), (a_b, (oc6 5 24 a_bn e_b)), (a_bn, (arI G 120 f_b)), (a_p, (oc6 8 5 a_pn e_p)), (a_pn, (arI G 40 f_p)), (a_bb, (arJ G 24 f_bb)), (a_j, (oc2 a_as a_sk)), (a_as, (arI G 8 f_as)), (a_sk, (arJ G 50 f_sk)), (a_l, (arW G 6 f_l)), (a_pt, (arI G 200 f_pt))], rfl, ⟨(-1), e_ln, e_se, e_lh, e_br, e_we, e_me, e_ce, e_wy, e_ho, e_ov, f_pt, f_as, f_sk, h_e_ov, rfl, rfl⟩, by rw [ht]; exact hP.sub [0, 1, 2, 3, 4, 5, 6, 7, 8, 9, 10, 11, 12, 13, 14] rfl, hD.sub [0, 1, 2, 3, 4, 5, 6, 7, 8, 9, 10, 11, 12, 13, 14] (by decide +kernel) rfl⟩, hS.F ht⟩) hS.2.2 dX11_point_10
theorem dgX11_sees_0 : ∀ r ∈ ([(0, (.iload_n 1, 1)), (1, (.invokestatic 97, 3)), (4, (.ifCond .eq 10, 3)), (7, (.iload_n 2, 1)), (8, (.invokestatic 127, 3)), (11, (.ifCond .ne 5, 3)), (14, (.iconst (-1), 1)), (15, (.ireturn, 1)), (16, (.aload_n 0, 1)), (17, (.getfield 29, 3)), (20, (.iload_n 1, 1)), (21, (.iload_n 2, 1)), (22, (.invokevirtual 231, 3)), (25, (.ireturn, 1))] : List (Nat × (Instr × Nat))), decode cX11_sees r.1 = .ok r.2 := by decide +kernel
theorem dX11_sees_0 : decode cX11_sees 0 = .ok (.iload_n 1, 1) := dgX11_sees_0 (0, (.iload_n 1, 1)) (List.mem_of_getElem? (i := 0) rfl)
theorem dX11_sees_1 : decode cX11_sees 1 = .ok (.invokestatic 97, 3) := dgX11_sees_0 (1, (.invokestatic 97, 3)) (List.mem_of_getElem? (i := 1) rfl)
theorem dX11_sees_4 : decode cX11_sees 4 = .ok (.ifCond .eq 10, 3) := dgX11_sees_0 (4, (.ifCond .eq 10, 3)) (List.mem_of_getElem? (i := 2) rfl)
theorem dX11_sees_7 : decode cX11_sees 7 = .ok (.iload_n 2, 1) := dgX11_sees_0 (7, (.iload_n 2, 1)) (List.mem_of_getElem? (i := 3) rfl)
theorem dX11_sees_8 : decode cX11_sees 8 = .ok (.invokestatic 127, 3) := dgX11_sees_0 (8, (.invokestatic 127, 3)) (List.mem_of_getElem? (i := 4) rfl)
theorem dX11_sees_11 : decode cX11_sees 11 = .ok (.ifCond .ne 5, 3) := dgX11_sees_0 (11, (.ifCond .ne 5, 3)) (List.mem_of_getElem? (i := 5) rfl)
theorem dX11_sees_14 : decode cX11_sees 14 = .ok (.iconst (-1), 1) := dgX11_sees_0 (14, (.iconst (-1), 1)) (List.mem_of_getElem? (i := 6) rfl)
theorem dX11_sees_15 : decode cX11_sees 15 = .ok (.ireturn, 1) := dgX11_sees_0 (15, (.ireturn, 1)) (List.mem_of_getElem? (i := 7) rfl)
theorem dX11_sees_16 : decode cX11_sees 16 = .ok (.aload_n 0, 1) := dgX11_sees_0 (16, (.aload_n 0, 1)) (List.mem_of_getElem? (i := 8) rfl)
theorem dX11_sees_17 : decode cX11_sees 17 = .ok (.getfield 29, 3) := dgX11_sees_0 (17, (.getfield 29, 3)) (List.mem_of_getElem? (i := 9) rfl)
theorem dX11_sees_20 : decode cX11_sees 20 = .ok (.iload_n 1, 1) := dgX11_sees_0 (20, (.iload_n 1, 1)) (List.mem_of_getElem? (i := 10) rfl)
theorem dX11_sees_21 : decode cX11_sees 21 = .ok (.iload_n 2, 1) := dgX11_sees_0 (21, (.iload_n 2, 1)) (List.mem_of_getElem? (i := 11) rfl)
theorem dX11_sees_22 : decode cX11_sees 22 = .ok (.invokevirtual 231, 3) := dgX11_sees_0 (22, (.invokevirtual 231, 3)) (List.mem_of_getElem? (i := 12) rfl)
theorem dX11_sees_25 : decode cX11_sees 25 = .ok (.ireturn, 1) := dgX11_sees_0 (25, (.ireturn, 1)) (List.mem_of_getElem? (i := 13) rfl)
theorem ml_X11_231 : Cond.methodLink RX11 231 yX5_bodiesFrom ∈ tblG := tg 878 (by decide +kernel) (by decide +kernel)
theorem im_X5_bodiesFrom : Cond.instanceMethod yX5_bodiesFrom ∈ tblG := tg 879 (by decide +kernel) (by decide +kernel)
theorem se_X5_bodiesFrom : Cond.selects RX5 yX5_bodiesFrom yX5_bodiesFrom ∈ tblG := tg 880 (by decide +kernel) (by decide +kernel)
theorem cd_X5_bodiesFrom : Cond.code yX5_bodiesFrom cX5_bodiesFrom 5 (some .int) ∈ tblG := tg 881 (by decide +kernel) (by decide +kernel)
theorem gW_X5_bodiesFrom : GoodIn tblG (wsG yX5_bodiesFrom cX5_bodiesFrom 5 (some .int)) := tgi cd_X5_bodiesFrom
theorem gV_X11_231 : GoodIn tblG (wsV RX11 231 RX5 yX5_bodiesFrom (wsG yX5_bodiesFrom cX5_bodiesFrom 5 (some .int))) := tgV ml_X11_231 im_X5_bodiesFrom se_X5_bodiesFrom ini_X5 gW_X5_bodiesFrom
theorem hv_X5_bodiesFrom : yX5_bodiesFrom.cls = RX5 ∧ yX5_bodiesFrom.cls ≠ "java/lang/invoke/MethodHandle" ∧ yX5_bodiesFrom.cls ≠ "java/lang/invoke/VarHandle" ∧ (parseMethodDescriptor yX5_bodiesFrom.desc).map (fun d => d.parameters.length) = some 2 := by decide +kernel
set_option maxHeartbeats 4000000 in
set_option maxRecDepth 100000 in
theorem x_seesN (l : Launch) (G : g5_G) (a_o a_k a_h a_g a_gn a_b a_bn a_p a_pn a_bb a_j a_as a_sk a_l a_pt a_im a_ke a_wa a_th a_ha a_wk a_r a_x a_wd a_rf a_s a_w : Nat) (sz : Nat) (e_tl : Int32) (e_fd : Int32) (e_fpl : Int32) (e_wn : Int32) (e_lr : Int32) (e_le : Int32) (e_st : Int32) (e_fo : Int32) (e_lc : Int32) (e_g : Int32) (e_b : Int32) (e_p : Int32) (e_ln : Int32) (e_se : Int32) (e_lh : Int32) (e_br : Int32) (e_we : Int32) (e_me : Int32) (e_ce : Int32) (e_wy : Int32) (e_ho : Int32) (e_ov : Int32) (p_c : Int32) (p_h : Int32) (e_wa : Int64) (e_gb : Int64) (f_g : Nat → Int32) (f_b : Nat → Int32) (f_p : Nat → Int32) (f_bb : Nat → Int64) (f_as : Nat → Int32) (f_sk : Nat → Int64) (f_l : Nat → Option Nat) (f_pt : Nat → Int32) (h_e_tl : 0 ≤ e_tl.toInt ∧ e_tl.toInt ≤ 400) (h_e_wn : 0 ≤ e_wn.toInt ∧ e_wn.toInt ≤ 1) (h_e_g : 0 ≤ e_g.toInt ∧ e_g.toInt ≤ 6) (h_e_b : 0 ≤ e_b.toInt ∧ e_b.toInt ≤ 5) (h_e_p : 0 ≤ e_p.toInt ∧ e_p.toInt ≤ 8) (h_e_ov : 0 ≤ e_ov.toInt ∧ e_ov.toInt ≤ 1) (e_gk : gOK f_g e_g.toInt) (e_pk : gOK f_p e_p.toInt) (e_gi : inT e_gb f_g e_g.toInt) (e_f : e_fo.toInt < 0 ∨ e_lc.toInt ≤ e_fo.toInt) : Met l yX11_sees (wsG yX11_sees cX11_sees 3 (some .int)) ({ frames := 15, cells := 0, slots := 0, locals := 580 }) (va_Pc [.ref a_o, .int p_c, .int p_h] (g5_P G [(a_o, (oc11 a_h a_im a_ke a_k a_wa a_th a_ha a_wk a_r a_x e_tl e_fd e_fpl a_wd e_wn a_rf e_lr)), (a_k, (oc5 a_h a_j a_pt e_ln e_se e_lh e_br e_we e_me e_ce e_wy e_ho e_ov)), (a_h, (oc1 e_wa e_le e_st e_fo e_lc a_l a_g a_b a_s a_p a_w e_gb a_bb)), (a_g, (oc6 6 5 a_gn e_g)), (a_gn, (arI G 30 f_g)), (a_b, (oc6 5 24 a_bn e_b)), (a_bn, (arI G 120 f_b)), (a_p, (oc6 8 5 a_pn e_p)), (a_pn, (arI G 40 f_p)), (a_bb, (arJ G 24 f_bb)), (a_j, (oc2 a_as a_sk)), (a_as, (arI G 8 f_as)), (a_sk, (arJ G 50 f_sk)), (a_l, (arW G 6 f_l)), (a_pt, (arI G 200 f_pt))] sz)) (va_Qi (fun (r : Int32) (u : va_W) => (∃ (o_r : Int32) (o_ln : Int32) (o_se : Int32) (o_lh : Int32) (o_br : Int32) (o_we : Int32) (o_me : Int32) (o_ce : Int32) (o_wy : Int32) (o_ho : Int32) (o_ov : Int32) (o_pt : Nat → Int32) (o_as : Nat → Int32) (o_sk : Nat → Int64), (0 ≤ o_ov.toInt ∧ o_ov.toInt ≤ 1) ∧ (r = o_r) ∧ (u = [(a_o, (oc11 a_h a_im a_ke a_k a_wa a_th a_ha a_wk a_r a_x e_tl e_fd e_fpl a_wd e_wn a_rf e_lr)), (a_k, (oc5 a_h a_j a_pt o_ln o_se o_lh o_br o_we o_me o_ce o_wy o_ho o_ov)), (a_h, (oc1 e_wa e_le e_st e_fo e_lc a_l a_g a_b a_s a_p a_w e_gb a_bb)), (a_g, (oc6 6 5 a_gn e_g)), (a_gn, (arI G 30 f_g)), (a_b, (oc6 5 24 a_bn e_b)), (a_bn, (arI G 120 f_b)), (a_p, (oc6 8 5 a_pn e_p)), (a_pn, (arI G 40 f_p)), (a_bb, (arJ G 24 f_bb)), (a_j, (oc2 a_as a_sk)), (a_as, (arI G 8 o_as)), (a_sk, (arJ G 50 o_sk)), (a_l, (arW G 6 f_l)), (a_pt, (arI G 200 o_pt))]))) (g5_B G (va_A [(a_o, (oc11 a_h a_im a_ke a_k a_wa a_th a_ha a_wk a_r a_x e_tl e_fd e_fpl a_wd e_wn a_rf e_lr)), (a_k, (oc5 a_h a_j a_pt e_ln e_se e_lh e_br e_we e_me e_ce e_wy e_ho e_ov)), (a_h, (oc1 e_wa e_le e_st e_fo e_lc a_l a_g a_b a_s a_p a_w e_gb a_bb)), (a_g, (oc6 6 5 a_gn e_g)), (a_gn, (arI G 30 f_g)), (a_b, (oc6 5 24 a_bn e_b)), (a_bn, (arI G 120 f_b)), (a_p, (oc6 8 5 a_pn e_p)), (a_pn, (arI G 40 f_p)), (a_bb, (arJ G 24 f_bb)), (a_j, (oc2 a_as a_sk)), (a_as, (arI G 8 f_as)), (a_sk, (arJ G 50 f_sk)), (a_l, (arW G 6 f_l)), (a_pt, (arI G 200 f_pt))] sz)) (va_A [(a_o, (oc11 a_h a_im a_ke a_k a_wa a_th a_ha a_wk a_r a_x e_tl e_fd e_fpl a_wd e_wn a_rf e_lr)), (a_k, (oc5 a_h a_j a_pt e_ln e_se e_lh e_br e_we e_me e_ce e_wy e_ho e_ov)), (a_h, (oc1 e_wa e_le e_st e_fo e_lc a_l a_g a_b a_s a_p a_w e_gb a_bb)), (a_g, (oc6 6 5 a_gn e_g)), (a_gn, (arI G 30 f_g)), (a_b, (oc6 5 24 a_bn e_b)), (a_bn, (arI G 120 f_b)), (a_p, (oc6 8 5 a_pn e_p)), (a_pn, (arI G 40 f_p)), (a_bb, (arJ G 24 f_bb)), (a_j, (oc2 a_as a_sk)), (a_as, (arI G 8 f_as)), (a_sk, (arJ G 50 f_sk)), (a_l, (arW G 6 f_l)), (a_pt, (arI G 200 f_pt))] sz)) 0 0 (va_A [(a_o, (oc11 a_h a_im a_ke a_k a_wa a_th a_ha a_wk a_r a_x e_tl e_fd e_fpl a_wd e_wn a_rf e_lr)), (a_k, (oc5 a_h a_j a_pt e_ln e_se e_lh e_br e_we e_me e_ce e_wy e_ho e_ov)), (a_h, (oc1 e_wa e_le e_st e_fo e_lc a_l a_g a_b a_s a_p a_w e_gb a_bb)), (a_g, (oc6 6 5 a_gn e_g)), (a_gn, (arI G 30 f_g)), (a_b, (oc6 5 24 a_bn e_b)), (a_bn, (arI G 120 f_b)), (a_p, (oc6 8 5 a_pn e_p)), (a_pn, (arI G 40 f_p)), (a_bb, (arJ G 24 f_bb)), (a_j, (oc2 a_as a_sk)), (a_as, (arI G 8 f_as)), (a_sk, (arJ G 50 f_sk)), (a_l, (arW G 6 f_l)), (a_pt, (arI G 200 f_pt))] sz) := by
  refine Met.ofW (cc := cX11_sees) (maxL := 3) (ret := (some .int)) (by decide +kernel) rfl ?_
  intro p e s m args below meth c s₁ B hml hv
  obtain ⟨rfl, hsz, hP, hK, hD0, hN, hT⟩ := hv
  have hx := B.exec
  have hb := B.bytes
  have hr := B.returns
  have hts : ∀ w ∈ tblG, w.before _ s = true := fun w h => atoms_spec (ws := (wsG yX11_sees cX11_sees 3 (some .int))) B.pre w (List.mem_cons_of_mem _ h)
  have hown : s.vm.findClass RX11 = some m.cls := findClass_of_methodNamed B.named
  have hlocks := B.notSynchronized
  subst hsz
  have hD := hD0.self (sz := s.heap.size)
  generalize hAe : va_A [(a_o, (oc11 a_h a_im a_ke a_k a_wa a_th a_ha a_wk a_r a_x e_tl e_fd e_fpl a_wd e_wn a_rf e_lr)), (a_k, (oc5 a_h a_j a_pt e_ln e_se e_lh e_br e_we e_me e_ce e_wy e_ho e_ov)), (a_h, (oc1 e_wa e_le e_st e_fo e_lc a_l a_g a_b a_s a_p a_w e_gb a_bb)), (a_g, (oc6 6 5 a_gn e_g)), (a_gn, (arI G 30 f_g)), (a_b, (oc6 5 24 a_bn e_b)), (a_bn, (arI G 120 f_b)), (a_p, (oc6 8 5 a_pn e_p)), (a_pn, (arI G 40 f_p)), (a_bb, (arJ G 24 f_bb)), (a_j, (oc2 a_as a_sk)), (a_as, (arI G 8 f_as)), (a_sk, (arJ G 50 f_sk)), (a_l, (arW G 6 f_l)), (a_pt, (arI G 200 f_pt))] s.heap.size = A at hD hT ⊢
  have hA : ∀ q : Nat, s.heap.size ≤ q → A q := fun q h => by rw [← hAe]; exact Or.inr h
  have hS : va_S A s.heap s.heap [] := va_S.rf
  replace hP : va_P G.1 vwCl [(a_o, (oc11 a_h a_im a_ke a_k a_wa a_th a_ha a_wk a_r a_x e_tl e_fd e_fpl a_wd e_wn a_rf e_lr)), (a_k, (oc5 a_h a_j a_pt e_ln e_se e_lh e_br e_we e_me e_ce e_wy e_ho e_ov)), (a_h, (oc1 e_wa e_le e_st e_fo e_lc a_l a_g a_b a_s a_p a_w e_gb a_bb)), (a_g, (oc6 6 5 a_gn e_g)), (a_gn, (arI G 30 f_g)), (a_b, (oc6 5 24 a_bn e_b)), (a_bn, (arI G 120 f_b)), (a_p, (oc6 8 5 a_pn e_p)), (a_pn, (arI G 40 f_p)), (a_bb, (arJ G 24 f_bb)), (a_j, (oc2 a_as a_sk)), (a_as, (arI G 8 f_as)), (a_sk, (arJ G 50 f_sk)), (a_l, (arW G 6 f_l)), (a_pt, (arI G 200 f_pt))] s.heap := hP
  have hl := lv_entry ([.ref a_o, .int p_c, .int p_h]) (n := 3) (Nat.le_of_ble_eq_true rfl)
  rw [lg_entry_eq]
  generalize (lg_sl ([.ref a_o, .int p_c, .int p_h]) ++ List.replicate (3 - (lg_sl ([.ref a_o, .int p_c, .int p_h])).length) Slot.unset).toArray = ls at hl ⊢
  replace hl : lv_has ls 3 [(0, .ref a_o), (1, .int p_c), (2, .int p_h)] := hl
  refine lv_iload_n hx hb dX11_sees_0 rfl (lv_at hl 1 rfl) ?_
  obtain ⟨hPc, hDc, hFc⟩ := g5_sub3 (wc := []) hP hD hS hA [] (by decide +kernel) rfl
  refine va_calli (va_runS (As := [.int p_c]) (rest := []) ⟨hx, hb, hml, hown, hts⟩ (x_isCell l G s.heap.size p_c) (va_cwS 1 hts gS_X11_97 rfl rfl rfl hs_X11_isCell ⟨Nat.le_of_ble_eq_true rfl, Nat.le_of_ble_eq_true rfl⟩) (g5_preS hPc hK hDc hN hT hS hFc) rfl rfl hl.1 rfl (lv_room (Nat.le_of_ble_eq_true rfl)) dX11_sees_1 ⟨Nat.le_of_ble_eq_true rfl, Nat.le_of_ble_eq_true rfl⟩) hS (fun q _ h => hFc q h) hFc (fun r u t H locs ht hvm hw hB hz1 hk1 hS => ?_)
  obtain ⟨hP1, hD1⟩ := hB
  have hP1 := g5_ht ht hP1
  rcases hw with ⟨(i_1 : 0 ≤ p_c.toInt ∧ p_c.toInt ≤ 63), rfl, rfl⟩ | ⟨rfl, rfl⟩
  ·
    have hJ9 := g5_same hP hk1
    clear hP hPc hDc hFc ht hvm hz1 hk1 hP1 hD1
    have hP := hJ9
    clear hJ9
    refine lv_if_eq (tgt := 14) hx hb dX11_sees_4 (by decide +kernel) (fun c_2 => ?_) (fun c_2 => ?_)
    ·
      exact absurd c_2 (by decide +kernel)
    ·
      refine lv_iload_n hx hb dX11_sees_7 rfl (lv_at hl 2 rfl) ?_
      obtain ⟨hPc, hDc, hFc⟩ := g5_sub3 (wc := []) hP hD hS hA [] (by decide +kernel) rfl
      refine va_calli (va_runS (As := [.int p_h]) (rest := []) ⟨hx, hb, hml, hown, hts⟩ (x_isHour l G H.size p_h) (va_cwS 1 hts gS_X11_127 rfl rfl rfl hs_X11_isHour ⟨Nat.le_of_ble_eq_true rfl, Nat.le_of_ble_eq_true rfl⟩) (g5_preS hPc hK hDc hN hT hS hFc) rfl rfl hl.1 rfl (lv_room (Nat.le_of_ble_eq_true rfl)) dX11_sees_8 ⟨Nat.le_of_ble_eq_true rfl, Nat.le_of_ble_eq_true rfl⟩) hS (fun q _ h => hFc q h) hFc (fun r u t H locs ht hvm hw hB hz1 hk1 hS => ?_)
      obtain ⟨hP1, hD1⟩ := hB
      have hP1 := g5_ht ht hP1
      rcases hw with ⟨(i_3 : 0 ≤ p_h.toInt ∧ p_h.toInt ≤ 23), rfl, rfl⟩ | ⟨rfl, rfl⟩
      ·
        have hJ9 := g5_same hP hk1
        clear hP hPc hDc hFc ht hvm hz1 hk1 hP1 hD1
        have hP := hJ9
        clear hJ9
        refine lv_if_ne (tgt := 16) hx hb dX11_sees_11 (by decide +kernel) (fun c_4 => ?_) (fun c_4 => ?_)
        ·
          refine lv_aload_n hx hb dX11_sees_16 rfl (lv_at hl 0 rfl) ?_
          refine va_get (D := G.1) (ci := 11) (v := .ref a_k) (C := RX11) (T := TX11) (N := 17) hx hb hts inG_X11 hown hK hP 0 rfl rfl 3 (by decide +kernel) (hts _ fl_X11_29) (fun _ h9 => h9) rfl dX11_sees_17 ?_
          refine lv_iload_n hx hb dX11_sees_20 rfl (lv_at hl 1 rfl) ?_
          refine lv_iload_n hx hb dX11_sees_21 rfl (lv_at hl 2 rfl) ?_
          refine W.eq (g2 := F0 m 22 ls [.int p_h, .int p_c, .ref a_k]) rfl ?_
          obtain ⟨hPc, hDc, hFc⟩ := g5_sub3 (wc := [(a_k, (oc5 a_h a_j a_pt e_ln e_se e_lh e_br e_we e_me e_ce e_wy e_ho e_ov)), (a_h, (oc1 e_wa e_le e_st e_fo e_lc a_l a_g a_b a_s a_p a_w e_gb a_bb)), (a_g, (oc6 6 5 a_gn e_g)), (a_gn, (arI G 30 f_g)), (a_b, (oc6 5 24 a_bn e_b)), (a_bn, (arI G 120 f_b)), (a_p, (oc6 8 5 a_pn e_p)), (a_pn, (arI G 40 f_p)), (a_bb, (arJ G 24 f_bb)), (a_j, (oc2 a_as a_sk)), (a_as, (arI G 8 f_as)), (a_sk, (arJ G 50 f_sk)), (a_l, (arW G 6 f_l)), (a_pt, (arI G 200 f_pt))]) hP hD hS hA [1, 2, 3, 4, 5, 6, 7, 8, 9, 10, 11, 12, 13, 14] (by decide +kernel) rfl
          refine va_calli (va_runV (As := [.int p_c, .int p_h]) (rest := []) ⟨hx, hb, hml, hown, hts⟩ (s_bodiesFromN l G a_k a_h a_g a_gn a_b a_bn a_p a_pn a_bb a_j a_as a_sk a_l a_pt a_s a_w H.size e_le e_st e_fo e_lc e_g e_b e_p e_ln e_se e_lh e_br e_we e_me e_ce e_wy e_ho e_ov p_c p_h e_wa e_gb f_g f_b f_p f_bb f_as f_sk f_l f_pt h_e_g h_e_b h_e_p h_e_ov (e_gk) (e_pk) (e_gi) (e_f)) (cwV 2 hts gV_X11_231 rfl rfl rfl hv_X5_bodiesFrom ⟨Nat.le_of_ble_eq_true rfl, Nat.le_of_ble_eq_true rfl⟩) (g5_preV hPc hK hDc hN hT hS hFc (ci := 5) (q0 := 0) rfl rfl) rfl rfl hl.1 rfl (lv_room (Nat.le_of_ble_eq_true rfl)) dX11_sees_22 ⟨Nat.le_of_ble_eq_true rfl, Nat.le_of_ble_eq_true rfl⟩) hS (fun q _ h => hFc q h) hFc (fun r u t H locs ht hvm hw hB hz1 hk1 hS => ?_)
          obtain ⟨hP1, hD1⟩ := hB
          have hP1 := g5_ht ht hP1
          obtain ⟨z6, z7, z8, z9, z10, z11, z12, z13, z14, z15, z16, z17, z18, z19, (i_5 : 0 ≤ z16.toInt ∧ z16.toInt ≤ 1), y20, rfl⟩ := hw
          have hJ9 := va_join (wr := [(a_o, (oc11 a_h a_im a_ke a_k a_wa a_th a_ha a_wk a_r a_x e_tl e_fd e_fpl a_wd e_wn a_rf e_lr))]) hP hD [1, 2, 3, 4, 5, 6, 7, 8, 9, 10, 11, 12, 13, 14] [0] rfl rfl (by decide +kernel) (by decide +kernel) hk1 hFc hP1 hD1
          clear hP hD hPc hDc hFc ht hvm hz1 hk1 hP1 hD1
          obtain ⟨hP, hD⟩ := hJ9
          refine g5_rs [(a_o, (oc11 a_h a_im a_ke a_k a_wa a_th a_ha a_wk a_r a_x e_tl e_fd e_fpl a_wd e_wn a_rf e_lr)), (a_k, (oc5 a_h a_j a_pt z7 z8 z9 z10 z11 z12 z13 z14 z15 z16)), (a_h, (oc1 e_wa e_le e_st e_fo e_lc a_l a_g a_b a_s a_p a_w e_gb a_bb)), (a_g, (oc6 6 5 a_gn e_g)), (a_gn, (arI G 30 f_g)), (a_b, (oc6 5 24 a_bn e_b)), (a_bn, (arI G 120 f_b)), (a_p, (oc6 8 5 a_pn e_p)), (a_pn, (arI G 40 f_p)), (a_bb, (arJ G 24 f_bb)), (a_j, (oc2 a_as a_sk)), (a_as, (arI G 8 z18)), (a_sk, (arJ G 50 z19)), (a_l, (arW G 6 f_l)), (a_pt, (arI G 200 z17))] hP hD ?_
          clear hP hD
          intro hP hD
          refine g5_ti (v := z6) y20 ?_
          exact W.iret (v := z6) hx hb hr (fun t ht hW => ⟨⟨z6, [(a_o, (oc11 a_h a_im a_ke a_k a_wa a_th a_ha a_wk a_r a_x e_tl e_fd e_fpl a_wd e_wn a_rf e_lr)), (a_k, (oc5 a_h a_j a_pt z7 z8 z9 z10 z11 z12 z13 z14 z15 z16)), (a_h, (oc1 e_wa e_le e_st e_fo e_lc a_l a_g a_b a_s a_p a_w e_gb a_bb)), (a_g, (oc6 6 5 a_gn e_g)), (a_gn, (arI G 30 f_g)), (a_b, (oc6 5 24 a_bn e_b)), (a_bn, (arI G 120 f_b)), (a_p, (oc6 8 5 a_pn e_p)), (a_pn, (arI G 40 f_p)), (a_bb, (arJ G 24 f_bb)), (a_j, (oc2 a_as a_sk)), (a_as, (arI G 8 z18)), (a_sk, (arJ G 50 z19)), (a_l, (arW G 6 f_l)), (a_pt, (arI G 200 z17))], rfl, ⟨z6, z7, z8, z9, z10, z11, z12, z13, z14, z15, z16, z17, z18, z19, i_5, rfl, rfl⟩, by rw [ht]; exact hP.sub [0, 1, 2, 3, 4, 5, 6, 7, 8, 9, 10, 11, 12, 13, 14] rfl, hD.sub [0, 1, 2, 3, 4, 5, 6, 7, 8, 9, 10, 11, 12, 13, 14] (by decide +kernel) rfl⟩, hS.F ht⟩) hS.2.2 dX11_sees_25
        ·
          exact absurd c_4 (by decide +kernel)
      ·
        have hJ9 := g5_same hP hk1
        clear hP hPc hDc hFc ht hvm hz1 hk1 hP1 hD1
        have hP := hJ9
        clear hJ9
        refine lv_if_ne (tgt := 16) hx hb dX11_sees_11 (by decide +kernel) (fun c_21 => ?_) (fun c_21 => ?_)
        ·
          exact absurd c_21 (by decide +kernel)
        ·
          refine lv_iconst (v := (-1)) hx hb dX11_sees_14 (by decide +kernel) ?_
          exact W.iret (v := (-1)) hx hb hr (fun t ht hW => ⟨⟨(-1), [(a_o, (oc11 a_h a_im a_ke a_k a_wa a_th a_ha a_wk a_r a_x e_tl e_fd e_fpl a_wd e_wn a_rf e_lr)), (a_k, (oc5 a_h a_j a_pt e_ln e_se e_lh e_br e_we e_me e_ce e_wy e_ho e_ov)), (a_h, (oc1 e_wa e_le e_st e_fo e_lc a_l a_g a_b a_s a_p a_w e_gb a_bb)), (a_g, (oc6 6 5 a_gn e_g)), (a_gn, (arI G 30 f_g)), (a_b, (oc6 5 24 a_bn e_b)), (a_bn, (arI G 120 f_b)), (a_p, (oc6 8 5 a_pn e_p)), (a_pn, (arI G 40 f_p)), (a_bb, (arJ G 24 f_bb)), (a_j, (oc2 a_as a_sk)), (a_as, (arI G 8 f_as)), (a_sk, (arJ G 50 f_sk)), (a_l, (arW G 6 f_l)), (a_pt, (arI G 200 f_pt))], rfl, ⟨(-1), e_ln, e_se, e_lh, e_br, e_we, e_me, e_ce, e_wy, e_ho, e_ov, f_pt, f_as, f_sk, h_e_ov, rfl, rfl⟩, by rw [ht]; exact hP.sub [0, 1, 2, 3, 4, 5, 6, 7, 8, 9, 10, 11, 12, 13, 14] rfl, hD.sub [0, 1, 2, 3, 4, 5, 6, 7, 8, 9, 10, 11, 12, 13, 14] (by decide +kernel) rfl⟩, hS.F ht⟩) hS.2.2 dX11_sees_15
  ·
    have hJ9 := g5_same hP hk1
    clear hP hPc hDc hFc ht hvm hz1 hk1 hP1 hD1
    have hP := hJ9
    clear hJ9
    refine lv_if_eq (tgt := 14) hx hb dX11_sees_4 (by decide +kernel) (fun c_22 => ?_) (fun c_22 => ?_)
    ·
      refine lv_iconst (v := (-1)) hx hb dX11_sees_14 (by decide +kernel) ?_
      exact W.iret (v := (-1)) hx hb hr (fun t ht hW => ⟨⟨(-1), [(a_o, (oc11 a_h a_im a_ke a_k a_wa a_th a_ha a_wk a_r a_x e_tl e_fd e_fpl a_wd e_wn a_rf e_lr)), (a_k, (oc5 a_h a_j a_pt e_ln e_se e_lh e_br e_we e_me e_ce e_wy e_ho e_ov)), (a_h, (oc1 e_wa e_le e_st e_fo e_lc a_l a_g a_b a_s a_p a_w e_gb a_bb)), (a_g, (oc6 6 5 a_gn e_g)), (a_gn, (arI G 30 f_g)), (a_b, (oc6 5 24 a_bn e_b)), (a_bn, (arI G 120 f_b)), (a_p, (oc6 8 5 a_pn e_p)), (a_pn, (arI G 40 f_p)), (a_bb, (arJ G 24 f_bb)), (a_j, (oc2 a_as a_sk)), (a_as, (arI G 8 f_as)), (a_sk, (arJ G 50 f_sk)), (a_l, (arW G 6 f_l)), (a_pt, (arI G 200 f_pt))], rfl, ⟨(-1), e_ln, e_se, e_lh, e_br, e_we, e_me, e_ce, e_wy, e_ho, e_ov, f_pt, f_as, f_sk, h_e_ov, rfl, rfl⟩, by rw [ht]; exact hP.sub [0, 1, 2, 3, 4, 5, 6, 7, 8, 9, 10, 11, 12, 13, 14] rfl, hD.sub [0, 1, 2, 3, 4, 5, 6, 7, 8, 9, 10, 11, 12, 13, 14] (by decide +kernel) rfl⟩, hS.F ht⟩) hS.2.2 dX11_sees_15
    ·
      exact absurd c_22 (by decide +kernel)
theorem dgX11_late_0 : ∀ r ∈ ([(0, (.aload_n 0, 1)), (1, (.getfield 12, 3)), (4, (.getfield 167, 3)), (7, (.iload_n 2, 1)), (8, (.invokevirtual 160, 3)), (11, (.ifCond .ne 5, 3)), (14, (.iconst (-1), 1)), (15, (.ireturn, 1)), (16, (.aload_n 0, 1)), (17, (.getfield 12, 3)), (20, (.getfield 167, 3)), (23, (.iload_n 1, 1)), (24, (.iload_n 3, 1)), (25, (.invokevirtual 163, 3)), (28, (.istore 4, 2)), (30, (.iload 4, 2)), (32, (.iconst (-1), 1)), (33, (.if_icmp .ne 7, 3)), (36, (.iconst (-1), 1)), (37, (.goto 14, 3)), (40, (.aload_n 0, 1)), (41, (.getfield 29, 3)), (44, (.iload 4, 2)), (46, (.iload_n 3, 1)), (47, (.iload_n 2, 1)), (48, (.invokevirtual 234, 3)), (51, (.ireturn, 1))] : List (Nat × (Instr × Nat))), decode cX11_late r.1 = .ok r.2 := by decide +kernel
theorem dX11_late_0 : decode cX11_late 0 = .ok (.aload_n 0, 1) := dgX11_late_0 (0, (.aload_n 0, 1)) (List.mem_of_getElem? (i := 0) rfl)
theorem dX11_late_1 : decode cX11_late 1 = .ok (.getfield 12, 3) := dgX11_late_0 (1, (.getfield 12, 3)) (List.mem_of_getElem? (i := 1) rfl)
theorem dX11_late_4 : decode cX11_late 4 = .ok (.getfield 167, 3) := dgX11_late_0 (4, (.getfield 167, 3)) (List.mem_of_getElem? (i := 2) rfl)
theorem dX11_late_7 : decode cX11_late 7 = .ok (.iload_n 2, 1) := dgX11_late_0 (7, (.iload_n 2, 1)) (List.mem_of_getElem? (i := 3) rfl)
theorem dX11_late_8 : decode cX11_late 8 = .ok (.invokevirtual 160, 3) := dgX11_late_0 (8, (.invokevirtual 160, 3)) (List.mem_of_getElem? (i := 4) rfl)
theorem dX11_late_11 : decode cX11_late 11 = .ok (.ifCond .ne 5, 3) := dgX11_late_0 (11, (.ifCond .ne 5, 3)) (List.mem_of_getElem? (i := 5) rfl)
theorem dX11_late_14 : decode cX11_late 14 = .ok (.iconst (-1), 1) := dgX11_late_0 (14, (.iconst (-1), 1)) (List.mem_of_getElem? (i := 6) rfl)
theorem dX11_late_15 : decode cX11_late 15 = .ok (.ireturn, 1) := dgX11_late_0 (15, (.ireturn, 1)) (List.mem_of_getElem? (i := 7) rfl)
theorem dX11_late_16 : decode cX11_late 16 = .ok (.aload_n 0, 1) := dgX11_late_0 (16, (.aload_n 0, 1)) (List.mem_of_getElem? (i := 8) rfl)
theorem dX11_late_17 : decode cX11_late 17 = .ok (.getfield 12, 3) := dgX11_late_0 (17, (.getfield 12, 3)) (List.mem_of_getElem? (i := 9) rfl)
theorem dX11_late_20 : decode cX11_late 20 = .ok (.getfield 167, 3) := dgX11_late_0 (20, (.getfield 167, 3)) (List.mem_of_getElem? (i := 10) rfl)
theorem dX11_late_23 : decode cX11_late 23 = .ok (.iload_n 1, 1) := dgX11_late_0 (23, (.iload_n 1, 1)) (List.mem_of_getElem? (i := 11) rfl)
theorem dX11_late_24 : decode cX11_late 24 = .ok (.iload_n 3, 1) := dgX11_late_0 (24, (.iload_n 3, 1)) (List.mem_of_getElem? (i := 12) rfl)
theorem dX11_late_25 : decode cX11_late 25 = .ok (.invokevirtual 163, 3) := dgX11_late_0 (25, (.invokevirtual 163, 3)) (List.mem_of_getElem? (i := 13) rfl)
theorem dX11_late_28 : decode cX11_late 28 = .ok (.istore 4, 2) := dgX11_late_0 (28, (.istore 4, 2)) (List.mem_of_getElem? (i := 14) rfl)
theorem dX11_late_30 : decode cX11_late 30 = .ok (.iload 4, 2) := dgX11_late_0 (30, (.iload 4, 2)) (List.mem_of_getElem? (i := 15) rfl)
theorem dX11_late_32 : decode cX11_late 32 = .ok (.iconst (-1), 1) := dgX11_late_0 (32, (.iconst (-1), 1)) (List.mem_of_getElem? (i := 16) rfl)
theorem dX11_late_33 : decode cX11_late 33 = .ok (.if_icmp .ne 7, 3) := dgX11_late_0 (33, (.if_icmp .ne 7, 3)) (List.mem_of_getElem? (i := 17) rfl)
theorem dX11_late_36 : decode cX11_late 36 = .ok (.iconst (-1), 1) := dgX11_late_0 (36, (.iconst (-1), 1)) (List.mem_of_getElem? (i := 18) rfl)
theorem dX11_late_37 : decode cX11_late 37 = .ok (.goto 14, 3) := dgX11_late_0 (37, (.goto 14, 3)) (List.mem_of_getElem? (i := 19) rfl)
theorem dX11_late_40 : decode cX11_late 40 = .ok (.aload_n 0, 1) := dgX11_late_0 (40, (.aload_n 0, 1)) (List.mem_of_getElem? (i := 20) rfl)
theorem dX11_late_41 : decode cX11_late 41 = .ok (.getfield 29, 3) := dgX11_late_0 (41, (.getfield 29, 3)) (List.mem_of_getElem? (i := 21) rfl)
theorem dX11_late_44 : decode cX11_late 44 = .ok (.iload 4, 2) := dgX11_late_0 (44, (.iload 4, 2)) (List.mem_of_getElem? (i := 22) rfl)
theorem dX11_late_46 : decode cX11_late 46 = .ok (.iload_n 3, 1) := dgX11_late_0 (46, (.iload_n 3, 1)) (List.mem_of_getElem? (i := 23) rfl)
theorem dX11_late_47 : decode cX11_late 47 = .ok (.iload_n 2, 1) := dgX11_late_0 (47, (.iload_n 2, 1)) (List.mem_of_getElem? (i := 24) rfl)
theorem dX11_late_48 : decode cX11_late 48 = .ok (.invokevirtual 234, 3) := dgX11_late_0 (48, (.invokevirtual 234, 3)) (List.mem_of_getElem? (i := 25) rfl)
theorem dX11_late_51 : decode cX11_late 51 = .ok (.ireturn, 1) := dgX11_late_0 (51, (.ireturn, 1)) (List.mem_of_getElem? (i := 26) rfl)
theorem ml_X11_234 : Cond.methodLink RX11 234 yX5_lateness ∈ tblG := tg 887 (by decide +kernel) (by decide +kernel)
theorem im_X5_lateness : Cond.instanceMethod yX5_lateness ∈ tblG := tg 888 (by decide +kernel) (by decide +kernel)
theorem se_X5_lateness : Cond.selects RX5 yX5_lateness yX5_lateness ∈ tblG := tg 889 (by decide +kernel) (by decide +kernel)
theorem cd_X5_lateness : Cond.code yX5_lateness cX5_lateness 7 (some .int) ∈ tblG := tg 890 (by decide +kernel) (by decide +kernel)
theorem gW_X5_lateness : GoodIn tblG (wsG yX5_lateness cX5_lateness 7 (some .int)) := tgi cd_X5_lateness
theorem gV_X11_234 : GoodIn tblG (wsV RX11 234 RX5 yX5_lateness (wsG yX5_lateness cX5_lateness 7 (some .int))) := tgV ml_X11_234 im_X5_lateness se_X5_lateness ini_X5 gW_X5_lateness
theorem hv_X5_lateness : yX5_lateness.cls = RX5 ∧ yX5_lateness.cls ≠ "java/lang/invoke/MethodHandle" ∧ yX5_lateness.cls ≠ "java/lang/invoke/VarHandle" ∧ (parseMethodDescriptor yX5_lateness.desc).map (fun d => d.parameters.length) = some 3 := by decide +kernel
set_option maxHeartbeats 4000000 in
set_option maxRecDepth 100000 in
theorem x_lateN (l : Launch) (G : g5_G) (a_o a_k a_h a_g a_gn a_b a_bn a_p a_pn a_bb a_j a_as a_sk a_l a_pt a_im a_ke a_wa a_th a_ha a_wk a_r a_x a_wd a_rf a_s a_w : Nat) (sz : Nat) (e_tl : Int32) (e_fd : Int32) (e_fpl : Int32) (e_wn : Int32) (e_lr : Int32) (e_le : Int32) (e_st : Int32) (e_fo : Int32) (e_lc : Int32) (e_g : Int32) (e_b : Int32) (e_p : Int32) (e_ln : Int32) (e_se : Int32) (e_lh : Int32) (e_br : Int32) (e_we : Int32) (e_me : Int32) (e_ce : Int32) (e_wy : Int32) (e_ho : Int32) (e_ov : Int32) (p_b : Int32) (p_t : Int32) (p_h : Int32) (e_wa : Int64) (e_gb : Int64) (f_g : Nat → Int32) (f_b : Nat → Int32) (f_p : Nat → Int32) (f_bb : Nat → Int64) (f_as : Nat → Int32) (f_sk : Nat → Int64) (f_l : Nat → Option Nat) (f_pt : Nat → Int32) (h_e_tl : 0 ≤ e_tl.toInt ∧ e_tl.toInt ≤ 400) (h_e_wn : 0 ≤ e_wn.toInt ∧ e_wn.toInt ≤ 1) (h_e_g : 0 ≤ e_g.toInt ∧ e_g.toInt ≤ 6) (h_e_b : 0 ≤ e_b.toInt ∧ e_b.toInt ≤ 5) (h_e_p : 0 ≤ e_p.toInt ∧ e_p.toInt ≤ 8) (h_e_ov : 0 ≤ e_ov.toInt ∧ e_ov.toInt ≤ 1) (e_gk : gOK f_g e_g.toInt) (e_pk : gOK f_p e_p.toInt) (e_gi : inT e_gb f_g e_g.toInt) (e_f : e_fo.toInt < 0 ∨ e_lc.toInt ≤ e_fo.toInt) : Met l yX11_late (wsG yX11_late cX11_late 5 (some .int)) ({ frames := 15, cells := 0, slots := 0, locals := 582 }) (va_Pc [.ref a_o, .int p_b, .int p_t, .int p_h] (g5_P G [(a_o, (oc11 a_h a_im a_ke a_k a_wa a_th a_ha a_wk a_r a_x e_tl e_fd e_fpl a_wd e_wn a_rf e_lr)), (a_k, (oc5 a_h a_j a_pt e_ln e_se e_lh e_br e_we e_me e_ce e_wy e_ho e_ov)), (a_h, (oc1 e_wa e_le e_st e_fo e_lc a_l a_g a_b a_s a_p a_w e_gb a_bb)), (a_g, (oc6 6 5 a_gn e_g)), (a_gn, (arI G 30 f_g)), (a_b, (oc6 5 24 a_bn e_b)), (a_bn, (arI G 120 f_b)), (a_p, (oc6 8 5 a_pn e_p)), (a_pn, (arI G 40 f_p)), (a_bb, (arJ G 24 f_bb)), (a_j, (oc2 a_as a_sk)), (a_as, (arI G 8 f_as)), (a_sk, (arJ G 50 f_sk)), (a_l, (arW G 6 f_l)), (a_pt, (arI G 200 f_pt))] sz)) (va_Qi (fun (r : Int32) (u : va_W) => (∃ (o_r : Int32) (o_ln : Int32) (o_se : Int32) (o_lh : Int32) (o_br : Int32) (o_we : Int32) (o_me : Int32) (o_ce : Int32) (o_wy : Int32) (o_ho : Int32) (o_ov : Int32) (o_pt : Nat → Int32) (o_as : Nat → Int32) (o_sk : Nat → Int64), (0 ≤ o_ov.toInt ∧ o_ov.toInt ≤ 1) ∧ (r = o_r) ∧ (u = [(a_o, (oc11 a_h a_im a_ke a_k a_wa a_th a_ha a_wk a_r a_x e_tl e_fd e_fpl a_wd e_wn a_rf e_lr)), (a_k, (oc5 a_h a_j a_pt o_ln o_se o_lh o_br o_we o_me o_ce o_wy o_ho o_ov)), (a_h, (oc1 e_wa e_le e_st e_fo e_lc a_l a_g a_b a_s a_p a_w e_gb a_bb)), (a_g, (oc6 6 5 a_gn e_g)), (a_gn, (arI G 30 f_g)), (a_b, (oc6 5 24 a_bn e_b)), (a_bn, (arI G 120 f_b)), (a_p, (oc6 8 5 a_pn e_p)), (a_pn, (arI G 40 f_p)), (a_bb, (arJ G 24 f_bb)), (a_j, (oc2 a_as a_sk)), (a_as, (arI G 8 o_as)), (a_sk, (arJ G 50 o_sk)), (a_l, (arW G 6 f_l)), (a_pt, (arI G 200 o_pt))]))) (g5_B G (va_A [(a_o, (oc11 a_h a_im a_ke a_k a_wa a_th a_ha a_wk a_r a_x e_tl e_fd e_fpl a_wd e_wn a_rf e_lr)), (a_k, (oc5 a_h a_j a_pt e_ln e_se e_lh e_br e_we e_me e_ce e_wy e_ho e_ov)), (a_h, (oc1 e_wa e_le e_st e_fo e_lc a_l a_g a_b a_s a_p a_w e_gb a_bb)), (a_g, (oc6 6 5 a_gn e_g)), (a_gn, (arI G 30 f_g)), (a_b, (oc6 5 24 a_bn e_b)), (a_bn, (arI G 120 f_b)), (a_p, (oc6 8 5 a_pn e_p)), (a_pn, (arI G 40 f_p)), (a_bb, (arJ G 24 f_bb)), (a_j, (oc2 a_as a_sk)), (a_as, (arI G 8 f_as)), (a_sk, (arJ G 50 f_sk)), (a_l, (arW G 6 f_l)), (a_pt, (arI G 200 f_pt))] sz)) (va_A [(a_o, (oc11 a_h a_im a_ke a_k a_wa a_th a_ha a_wk a_r a_x e_tl e_fd e_fpl a_wd e_wn a_rf e_lr)), (a_k, (oc5 a_h a_j a_pt e_ln e_se e_lh e_br e_we e_me e_ce e_wy e_ho e_ov)), (a_h, (oc1 e_wa e_le e_st e_fo e_lc a_l a_g a_b a_s a_p a_w e_gb a_bb)), (a_g, (oc6 6 5 a_gn e_g)), (a_gn, (arI G 30 f_g)), (a_b, (oc6 5 24 a_bn e_b)), (a_bn, (arI G 120 f_b)), (a_p, (oc6 8 5 a_pn e_p)), (a_pn, (arI G 40 f_p)), (a_bb, (arJ G 24 f_bb)), (a_j, (oc2 a_as a_sk)), (a_as, (arI G 8 f_as)), (a_sk, (arJ G 50 f_sk)), (a_l, (arW G 6 f_l)), (a_pt, (arI G 200 f_pt))] sz)) 0 0 (va_A [(a_o, (oc11 a_h a_im a_ke a_k a_wa a_th a_ha a_wk a_r a_x e_tl e_fd e_fpl a_wd e_wn a_rf e_lr)), (a_k, (oc5 a_h a_j a_pt e_ln e_se e_lh e_br e_we e_me e_ce e_wy e_ho e_ov)), (a_h, (oc1 e_wa e_le e_st e_fo e_lc a_l a_g a_b a_s a_p a_w e_gb a_bb)), (a_g, (oc6 6 5 a_gn e_g)), (a_gn, (arI G 30 f_g)), (a_b, (oc6 5 24 a_bn e_b)), (a_bn, (arI G 120 f_b)), (a_p, (oc6 8 5 a_pn e_p)), (a_pn, (arI G 40 f_p)), (a_bb, (arJ G 24 f_bb)), (a_j, (oc2 a_as a_sk)), (a_as, (arI G 8 f_as)), (a_sk, (arJ G 50 f_sk)), (a_l, (arW G 6 f_l)), (a_pt, (arI G 200 f_pt))] sz) := by
  refine Met.ofW (cc := cX11_late) (maxL := 5) (ret := (some .int)) (by decide +kernel) rfl ?_
  intro p e s m args below meth c s₁ B hml hv
  obtain ⟨rfl, hsz, hP, hK, hD0, hN, hT⟩ := hv
  have hx := B.exec
  have hb := B.bytes
  have hr := B.returns
  have hts : ∀ w ∈ tblG, w.before _ s = true := fun w h => atoms_spec (ws := (wsG yX11_late cX11_late 5 (some .int))) B.pre w (List.mem_cons_of_mem _ h)
  have hown : s.vm.findClass RX11 = some m.cls := findClass_of_methodNamed B.named
  have hlocks := B.notSynchronized
  subst hsz
  have hD := hD0.self (sz := s.heap.size)
  generalize hAe : va_A [(a_o, (oc11 a_h a_im a_ke a_k a_wa a_th a_ha a_wk a_r a_x e_tl e_fd e_fpl a_wd e_wn a_rf e_lr)), (a_k, (oc5 a_h a_j a_pt e_ln e_se e_lh e_br e_we e_me e_ce e_wy e_ho e_ov)), (a_h, (oc1 e_wa e_le e_st e_fo e_lc a_l a_g a_b a_s a_p a_w e_gb a_bb)), (a_g, (oc6 6 5 a_gn e_g)), (a_gn, (arI G 30 f_g)), (a_b, (oc6 5 24 a_bn e_b)), (a_bn, (arI G 120 f_b)), (a_p, (oc6 8 5 a_pn e_p)), (a_pn, (arI G 40 f_p)), (a_bb, (arJ G 24 f_bb)), (a_j, (oc2 a_as a_sk)), (a_as, (arI G 8 f_as)), (a_sk, (arJ G 50 f_sk)), (a_l, (arW G 6 f_l)), (a_pt, (arI G 200 f_pt))] s.heap.size = A at hD hT ⊢
  have hA : ∀ q : Nat, s.heap.size ≤ q → A q := fun q h => by rw [← hAe]; exact Or.inr h
  have hS : va_S A s.heap s.heap [] := va_S.rf
  replace hP : va_P G.1 vwCl [(a_o, (oc11 a_h a_im a_ke a_k a_wa a_th a_ha a_wk a_r a_x e_tl e_fd e_fpl a_wd e_wn a_rf e_lr)), (a_k, (oc5 a_h a_j a_pt e_ln e_se e_lh e_br e_we e_me e_ce e_wy e_ho e_ov)), (a_h, (oc1 e_wa e_le e_st e_fo e_lc a_l a_g a_b a_s a_p a_w e_gb a_bb)), (a_g, (oc6 6 5 a_gn e_g)), (a_gn, (arI G 30 f_g)), (a_b, (oc6 5 24 a_bn e_b)), (a_bn, (arI G 120 f_b)), (a_p, (oc6 8 5 a_pn e_p)), (a_pn, (arI G 40 f_p)), (a_bb, (arJ G 24 f_bb)), (a_j, (oc2 a_as a_sk)), (a_as, (arI G 8 f_as)), (a_sk, (arJ G 50 f_sk)), (a_l, (arW G 6 f_l)), (a_pt, (arI G 200 f_pt))] s.heap := hP
  have hl := lv_entry ([.ref a_o, .int p_b, .int p_t, .int p_h]) (n := 5) (Nat.le_of_ble_eq_true rfl)
  rw [lg_entry_eq]
  generalize (lg_sl ([.ref a_o, .int p_b, .int p_t, .int p_h]) ++ List.replicate (5 - (lg_sl ([.ref a_o, .int p_b, .int p_t, .int p_h])).length) Slot.unset).toArray = ls at hl ⊢
  replace hl : lv_has ls 5 [(0, .ref a_o), (1, .int p_b), (2, .int p_t), (3, .int p_h)] := hl
  refine lv_aload_n hx hb dX11_late_0 rfl (lv_at hl 0 rfl) ?_
  refine va_get (D := G.1) (ci := 11) (v := .ref a_h) (C := RX11) (T := TX11) (N := 17) hx hb hts inG_X11 hown hK hP 0 rfl rfl 0 (by decide +kernel) (hts _ fl_X11_12) (fun _ h9 => h9) rfl dX11_late_1 ?_
  refine va_get (D := G.1) (ci := 1) (v := .ref a_b) (C := RX1) (T := TX1) (N := 13) hx hb hts inG_X1 hown hK hP 2 rfl rfl 7 (by decide +kernel) (hts _ fl_X11_167) (fun _ h9 => h9) rfl dX11_late_4 ?_
  refine lv_iload_n hx hb dX11_late_7 rfl (lv_at hl 2 rfl) ?_
  refine W.eq (g2 := F0 m 8 ls [.int p_t, .ref a_b]) rfl ?_
  obtain ⟨hPc, hDc, hFc⟩ := g5_sub3 (wc := [(a_b, (oc6 5 24 a_bn e_b))]) hP hD hS hA [5] (by decide +kernel) rfl
  refine va_calli (va_runV (As := [.int p_t]) (rest := []) ⟨hx, hb, hml, hown, hts⟩ (t_has_B l G a_b a_bn s.heap.size e_b p_t h_e_b) (cwV 1 hts gV_X11_160 rfl rfl rfl hv_X6_has ⟨Nat.le_of_ble_eq_true rfl, Nat.le_of_ble_eq_true rfl⟩) (g5_preV hPc hK hDc hN hT hS hFc (ci := 6) (q0 := 0) rfl rfl) rfl rfl hl.1 rfl (lv_room (Nat.le_of_ble_eq_true rfl)) dX11_late_8 ⟨Nat.le_of_ble_eq_true rfl, Nat.le_of_ble_eq_true rfl⟩) hS (fun q _ h => hFc q h) hFc (fun r u t H locs ht hvm hw hB hz1 hk1 hS => ?_)
  obtain ⟨hP1, hD1⟩ := hB
  have hP1 := g5_ht ht hP1
  rcases hw with ⟨(i_1 : 0 ≤ p_t.toInt ∧ p_t.toInt < e_b.toInt), rfl, rfl⟩ | ⟨(i_2 : p_t.toInt < 0 ∨ e_b.toInt ≤ p_t.toInt), rfl, rfl⟩
  ·
    have hJ9 := va_join (wr := [(a_o, (oc11 a_h a_im a_ke a_k a_wa a_th a_ha a_wk a_r a_x e_tl e_fd e_fpl a_wd e_wn a_rf e_lr)), (a_k, (oc5 a_h a_j a_pt e_ln e_se e_lh e_br e_we e_me e_ce e_wy e_ho e_ov)), (a_h, (oc1 e_wa e_le e_st e_fo e_lc a_l a_g a_b a_s a_p a_w e_gb a_bb)), (a_g, (oc6 6 5 a_gn e_g)), (a_gn, (arI G 30 f_g)), (a_bn, (arI G 120 f_b)), (a_p, (oc6 8 5 a_pn e_p)), (a_pn, (arI G 40 f_p)), (a_bb, (arJ G 24 f_bb)), (a_j, (oc2 a_as a_sk)), (a_as, (arI G 8 f_as)), (a_sk, (arJ G 50 f_sk)), (a_l, (arW G 6 f_l)), (a_pt, (arI G 200 f_pt))]) hP hD [5] [0, 1, 2, 3, 4, 6, 7, 8, 9, 10, 11, 12, 13, 14] rfl rfl (by decide +kernel) (by decide +kernel) hk1 hFc hP1 hD1
    clear hP hD hPc hDc hFc ht hvm hz1 hk1 hP1 hD1
    obtain ⟨hP, hD⟩ := hJ9
    refine g5_rs [(a_o, (oc11 a_h a_im a_ke a_k a_wa a_th a_ha a_wk a_r a_x e_tl e_fd e_fpl a_wd e_wn a_rf e_lr)), (a_k, (oc5 a_h a_j a_pt e_ln e_se e_lh e_br e_we e_me e_ce e_wy e_ho e_ov)), (a_h, (oc1 e_wa e_le e_st e_fo e_lc a_l a_g a_b a_s a_p a_w e_gb a_bb)), (a_g, (oc6 6 5 a_gn e_g)), (a_gn, (arI G 30 f_g)), (a_bn, (arI G 120 f_b)), (a_p, (oc6 8 5 a_pn e_p)), (a_pn, (arI G 40 f_p)), (a_bb, (arJ G 24 f_bb)), (a_j, (oc2 a_as a_sk)), (a_as, (arI G 8 f_as)), (a_sk, (arJ G 50 f_sk)), (a_l, (arW G 6 f_l)), (a_pt, (arI G 200 f_pt)), (a_b, (oc6 5 24 a_bn e_b))] hP hD ?_
    clear hP hD
    intro hP hD
    refine lv_if_ne (tgt := 16) hx hb dX11_late_11 (by decide +kernel) (fun c_3 => ?_) (fun c_3 => ?_)
    ·
      refine lv_aload_n hx hb dX11_late_16 rfl (lv_at hl 0 rfl) ?_
      refine va_get (D := G.1) (ci := 11) (v := .ref a_h) (C := RX11) (T := TX11) (N := 17) hx hb hts inG_X11 hown hK hP 0 rfl rfl 0 (by decide +kernel) (hts _ fl_X11_12) (fun _ h9 => h9) rfl dX11_late_17 ?_
      refine va_get (D := G.1) (ci := 1) (v := .ref a_b) (C := RX1) (T := TX1) (N := 13) hx hb hts inG_X1 hown hK hP 2 rfl rfl 7 (by decide +kernel) (hts _ fl_X11_167) (fun _ h9 => h9) rfl dX11_late_20 ?_
      refine lv_iload_n hx hb dX11_late_23 rfl (lv_at hl 1 rfl) ?_
      refine W.eq (g2 := F0 m 24 ls [.int p_b, .ref a_b]) rfl ?_
      refine lv_iload_n hx hb dX11_late_24 rfl (lv_at hl 3 rfl) ?_
      obtain ⟨hPc, hDc, hFc⟩ := g5_sub3 (wc := [(a_b, (oc6 5 24 a_bn e_b)), (a_bn, (arI G 120 f_b))]) hP hD hS hA [14, 5] (by decide +kernel) rfl
      refine va_calli (va_runV (As := [.int p_b, .int p_h]) (rest := []) ⟨hx, hb, hml, hown, hts⟩ (t_get_B l G a_b a_bn H.size e_b p_b p_h f_b h_e_b) (cwV 2 hts gV_X11_163 rfl rfl rfl hv_X6_get ⟨Nat.le_of_ble_eq_true rfl, Nat.le_of_ble_eq_true rfl⟩) (g5_preV hPc hK hDc hN hT hS hFc (ci := 6) (q0 := 0) rfl rfl) rfl rfl hl.1 rfl (lv_room (Nat.le_of_ble_eq_true rfl)) dX11_late_25 ⟨Nat.le_of_ble_eq_true rfl, Nat.le_of_ble_eq_true rfl⟩) hS (fun q _ h => hFc q h) hFc (fun r u t H locs ht hvm hw hB hz1 hk1 hS => ?_)
      obtain ⟨hP1, hD1⟩ := hB
      have hP1 := g5_ht ht hP1
      obtain ⟨z5, (i_4 : z5 = tget f_b e_b.toInt 24 p_b.toInt p_h.toInt), y6, rfl⟩ := hw
      have hJ9 := va_join (wr := [(a_o, (oc11 a_h a_im a_ke a_k a_wa a_th a_ha a_wk a_r a_x e_tl e_fd e_fpl a_wd e_wn a_rf e_lr)), (a_k, (oc5 a_h a_j a_pt e_ln e_se e_lh e_br e_we e_me e_ce e_wy e_ho e_ov)), (a_h, (oc1 e_wa e_le e_st e_fo e_lc a_l a_g a_b a_s a_p a_w e_gb a_bb)), (a_g, (oc6 6 5 a_gn e_g)), (a_gn, (arI G 30 f_g)), (a_p, (oc6 8 5 a_pn e_p)), (a_pn, (arI G 40 f_p)), (a_bb, (arJ G 24 f_bb)), (a_j, (oc2 a_as a_sk)), (a_as, (arI G 8 f_as)), (a_sk, (arJ G 50 f_sk)), (a_l, (arW G 6 f_l)), (a_pt, (arI G 200 f_pt))]) hP hD [14, 5] [0, 1, 2, 3, 4, 6, 7, 8, 9, 10, 11, 12, 13] rfl rfl (by decide +kernel) (by decide +kernel) hk1 hFc hP1 hD1
      clear hP hD hPc hDc hFc ht hvm hz1 hk1 hP1 hD1
      obtain ⟨hP, hD⟩ := hJ9
      refine g5_rs [(a_o, (oc11 a_h a_im a_ke a_k a_wa a_th a_ha a_wk a_r a_x e_tl e_fd e_fpl a_wd e_wn a_rf e_lr)), (a_k, (oc5 a_h a_j a_pt e_ln e_se e_lh e_br e_we e_me e_ce e_wy e_ho e_ov)), (a_h, (oc1 e_wa e_le e_st e_fo e_lc a_l a_g a_b a_s a_p a_w e_gb a_bb)), (a_g, (oc6 6 5 a_gn e_g)), (a_gn, (arI G 30 f_g)), (a_p, (oc6 8 5 a_pn e_p)), (a_pn, (arI G 40 f_p)), (a_bb, (arJ G 24 f_bb)), (a_j, (oc2 a_as a_sk)), (a_as, (arI G 8 f_as)), (a_sk, (arJ G 50 f_sk)), (a_l, (arW G 6 f_l)), (a_pt, (arI G 200 f_pt)), (a_b, (oc6 5 24 a_bn e_b)), (a_bn, (arI G 120 f_b))] hP hD ?_
      clear hP hD
      intro hP hD
      refine g5_ti (v := z5) y6 ?_
      refine lv_istore (lv' := [(4, .int z5), (0, .ref a_o), (1, .int p_b), (2, .int p_t), (3, .int p_h)]) hx hb dX11_late_28 hl (by decide +kernel) rfl ?_
      clear hl
      intro ls hl
      refine lv_iload hx hb dX11_late_30 (lv_at hl 0 rfl) ?_
      refine lv_iconst (v := (-1)) hx hb dX11_late_32 (by decide +kernel) ?_
      refine W.eq (g2 := F0 m 33 ls [.int (-1), .int z5]) rfl ?_
      refine lv_icmp_ne (tgt := 40) hx hb dX11_late_33 (by decide +kernel) (fun c_7 => ?_) (fun c_7 => ?_)
      ·
        have n_7 : gNe (z5.toInt) ((-1)) := g5_ne (a := z5.toInt) (b := (-1)) rfl (by decide +kernel) c_7
        refine lv_aload_n hx hb dX11_late_40 rfl (lv_at hl 1 rfl) ?_
        refine va_get (D := G.1) (ci := 11) (v := .ref a_k) (C := RX11) (T := TX11) (N := 17) hx hb hts inG_X11 hown hK hP 0 rfl rfl 3 (by decide +kernel) (hts _ fl_X11_29) (fun _ h9 => h9) rfl dX11_late_41 ?_
        refine lv_iload hx hb dX11_late_44 (lv_at hl 0 rfl) ?_
        refine lv_iload_n hx hb dX11_late_46 rfl (lv_at hl 4 rfl) ?_
        refine W.eq (g2 := F0 m 47 ls [.int p_h, .int z5, .ref a_k]) rfl ?_
        refine lv_iload_n hx hb dX11_late_47 rfl (lv_at hl 3 rfl) ?_
        obtain ⟨hPc, hDc, hFc⟩ := g5_sub3 (wc := [(a_k, (oc5 a_h a_j a_pt e_ln e_se e_lh e_br e_we e_me e_ce e_wy e_ho e_ov)), (a_h, (oc1 e_wa e_le e_st e_fo e_lc a_l a_g a_b a_s a_p a_w e_gb a_bb)), (a_g, (oc6 6 5 a_gn e_g)), (a_gn, (arI G 30 f_g)), (a_b, (oc6 5 24 a_bn e_b)), (a_bn, (arI G 120 f_b)), (a_p, (oc6 8 5 a_pn e_p)), (a_pn, (arI G 40 f_p)), (a_bb, (arJ G 24 f_bb)), (a_j, (oc2 a_as a_sk)), (a_as, (arI G 8 f_as)), (a_sk, (arJ G 50 f_sk)), (a_l, (arW G 6 f_l)), (a_pt, (arI G 200 f_pt))]) hP hD hS hA [1, 2, 3, 4, 13, 14, 5, 6, 7, 8, 9, 10, 11, 12] (by decide +kernel) rfl
        refine va_calli (va_runV (As := [.int z5, .int p_h, .int p_t]) (rest := []) ⟨hx, hb, hml, hown, hts⟩ (s_latenessN l G a_k a_h a_g a_gn a_b a_bn a_p a_pn a_bb a_j a_as a_sk a_l a_pt a_s a_w H.size e_le e_st e_fo e_lc e_g e_b e_p e_ln e_se e_lh e_br e_we e_me e_ce e_wy e_ho e_ov z5 p_h p_t e_wa e_gb f_g f_b f_p f_bb f_as f_sk f_l f_pt h_e_g h_e_b h_e_p h_e_ov (e_gk) (e_pk) (e_gi) (e_f)) (cwV 3 hts gV_X11_234 rfl rfl rfl hv_X5_lateness ⟨Nat.le_of_ble_eq_true rfl, Nat.le_of_ble_eq_true rfl⟩) (g5_preV hPc hK hDc hN hT hS hFc (ci := 5) (q0 := 0) rfl rfl) rfl rfl hl.1 rfl (lv_room (Nat.le_of_ble_eq_true rfl)) dX11_late_48 ⟨Nat.le_of_ble_eq_true rfl, Nat.le_of_ble_eq_true rfl⟩) hS (fun q _ h => hFc q h) hFc (fun r u t H locs ht hvm hw hB hz1 hk1 hS => ?_)
        obtain ⟨hP1, hD1⟩ := hB
        have hP1 := g5_ht ht hP1
        obtain ⟨z9, z10, z11, z12, z13, z14, z15, z16, z17, z18, z19, z20, z21, z22, (i_8 : 0 ≤ z19.toInt ∧ z19.toInt ≤ 1), y23, rfl⟩ := hw
        have hJ9 := va_join (wr := [(a_o, (oc11 a_h a_im a_ke a_k a_wa a_th a_ha a_wk a_r a_x e_tl e_fd e_fpl a_wd e_wn a_rf e_lr))]) hP hD [1, 2, 3, 4, 13, 14, 5, 6, 7, 8, 9, 10, 11, 12] [0] rfl rfl (by decide +kernel) (by decide +kernel) hk1 hFc hP1 hD1
        clear hP hD hPc hDc hFc ht hvm hz1 hk1 hP1 hD1
        obtain ⟨hP, hD⟩ := hJ9
        refine g5_rs [(a_o, (oc11 a_h a_im a_ke a_k a_wa a_th a_ha a_wk a_r a_x e_tl e_fd e_fpl a_wd e_wn a_rf e_lr)), (a_k, (oc5 a_h a_j a_pt z10 z11 z12 z13 z14 z15 z16 z17 z18 z19)), (a_h, (oc1 e_wa e_le e_st e_fo e_lc a_l a_g a_b a_s a_p a_w e_gb a_bb)), (a_g, (oc6 6 5 a_gn e_g)), (a_gn, (arI G 30 f_g)), (a_b, (oc6 5 24 a_bn e_b)), (a_bn, (arI G 120 f_b)), (a_p, (oc6 8 5 a_pn e_p)), (a_pn, (arI G 40 f_p)), (a_bb, (arJ G 24 f_bb)), (a_j, (oc2 a_as a_sk)), (a_as, (arI G 8 z21)), (a_sk, (arJ G 50 z22)), (a_l, (arW G 6 f_l)), (a_pt, (arI G 200 z20))] hP hD ?_
        clear hP hD
        intro hP hD
        refine g5_ti (v := z9) y23 ?_
        exact W.iret (v := z9) hx hb hr (fun t ht hW => ⟨⟨z9, [(a_o, (oc11 a_h a_im a_ke a_k a_wa a_th a_ha a_wk a_r a_x e_tl e_fd e_fpl a_wd e_wn a_rf e_lr)), (a_k, (oc5 a_h a_j a_pt z10 z11 z12 z13 z14 z15 z16 z17 z18 z19)), (a_h, (oc1 e_wa e_le e_st e_fo e_lc a_l a_g a_b a_s a_p a_w e_gb a_bb)), (a_g, (oc6 6 5 a_gn e_g)), (a_gn, (arI G 30 f_g)), (a_b, (oc6 5 24 a_bn e_b)), (a_bn, (arI G 120 f_b)), (a_p, (oc6 8 5 a_pn e_p)), (a_pn, (arI G 40 f_p)), (a_bb, (arJ G 24 f_bb)), (a_j, (oc2 a_as a_sk)), (a_as, (arI G 8 z21)), (a_sk, (arJ G 50 z22)), (a_l, (arW G 6 f_l)), (a_pt, (arI G 200 z20))], rfl, ⟨z9, z10, z11, z12, z13, z14, z15, z16, z17, z18, z19, z20, z21, z22, i_8, rfl, rfl⟩, by rw [ht]; exact hP.sub [0, 1, 2, 3, 4, 5, 6, 7, 8, 9, 10, 11, 12, 13, 14] rfl, hD.sub [0, 1, 2, 3, 4, 5, 6, 7, 8, 9, 10, 11, 12, 13, 14] (by decide +kernel) rfl⟩, hS.F ht⟩) hS.2.2 dX11_late_51
      ·
        have i_7 : z5.toInt = (-1) := g5_neN (a := z5.toInt) (b := (-1)) rfl (by decide +kernel) c_7
        refine lv_iconst (v := (-1)) hx hb dX11_late_36 (by decide +kernel) ?_
        refine lv_goto (tgt := 51) hx hb dX11_late_37 (by decide +kernel) ?_
        exact W.iret (v := (-1)) hx hb hr (fun t ht hW => ⟨⟨(-1), [(a_o, (oc11 a_h a_im a_ke a_k a_wa a_th a_ha a_wk a_r a_x e_tl e_fd e_fpl a_wd e_wn a_rf e_lr)), (a_k, (oc5 a_h a_j a_pt e_ln e_se e_lh e_br e_we e_me e_ce e_wy e_ho e_ov)), (a_h, (oc1 e_wa e_le e_st e_fo e_lc a_l a_g a_b a_s a_p a_w e_gb a_bb)), (a_g, (oc6 6 5 a_gn e_g)), (a_gn, (arI G 30 f_g)), (a_b, (oc6 5 24 a_bn e_b)), (a_bn, (arI G 120 f_b)), (a_p, (oc6 8 5 a_pn e_p)), (a_pn, (arI G 40 f_p)), (a_bb, (arJ G 24 f_bb)), (a_j, (oc2 a_as a_sk)), (a_as, (arI G 8 f_as)), (a_sk, (arJ G 50 f_sk)), (a_l, (arW G 6 f_l)), (a_pt, (arI G 200 f_pt))], rfl, ⟨(-1), e_ln, e_se, e_lh, e_br, e_we, e_me, e_ce, e_wy, e_ho, e_ov, f_pt, f_as, f_sk, h_e_ov, rfl, rfl⟩, by rw [ht]; exact hP.sub [0, 1, 2, 3, 4, 13, 14, 5, 6, 7, 8, 9, 10, 11, 12] rfl, hD.sub [0, 1, 2, 3, 4, 13, 14, 5, 6, 7, 8, 9, 10, 11, 12] (by decide +kernel) rfl⟩, hS.F ht⟩) hS.2.2 dX11_late_51
    ·
      exact absurd c_3 (by decide +kernel)
  ·
    have hJ9 := va_join (wr := [(a_o, (oc11 a_h a_im a_ke a_k a_wa a_th a_ha a_wk a_r a_x e_tl e_fd e_fpl a_wd e_wn a_rf e_lr)), (a_k, (oc5 a_h a_j a_pt e_ln e_se e_lh e_br e_we e_me e_ce e_wy e_ho e_ov)), (a_h, (oc1 e_wa e_le e_st e_fo e_lc a_l a_g a_b a_s a_p a_w e_gb a_bb)), (a_g, (oc6 6 5 a_gn e_g)), (a_gn, (arI G 30 f_g)), (a_bn, (arI G 120 f_b)), (a_p, (oc6 8 5 a_pn e_p)), (a_pn, (arI G 40 f_p)), (a_bb, (arJ G 24 f_bb)), (a_j, (oc2 a_as a_sk)), (a_as, (arI G 8 f_as)), (a_sk, (arJ G 50 f_sk)), (a_l, (arW G 6 f_l)), (a_pt, (arI G 200 f_pt))]) hP hD [5] [0, 1, 2, 3, 4, 6, 7, 8, 9, 10, 11, 12, 13, 14] rfl rfl (by decide +kernel) (by decide +kernel) hk1 hFc hP1 hD1
    clear hP hD hPc hDc hFc ht hvm hz1 hk1 hP1 hD1
    obtain ⟨hP, hD⟩ := hJ9
    refine g5_rs [(a_o, (oc11 a_h a_im a_ke a_k a_wa a_th a_ha a_wk a_r a_x e_tl e_fd e_fpl a_wd e_wn a_rf e_lr)), (a_k, (oc5 a_h a_j a_pt e_ln e_se e_lh e_br e_we e_me e_ce e_wy e_ho e_ov)), (a_h, (oc1 e_wa e_le e_st e_fo e_lc a_l a_g a_b a_s a_p a_w e_gb a_bb)), (a_g, (oc6 6 5 a_gn e_g)), (a_gn, (arI G 30 f_g)), (a_bn, (arI G 120 f_b)), (a_p, (oc6 8 5 a_pn e_p)), (a_pn, (arI G 40 f_p)), (a_bb, (arJ G 24 f_bb)), (a_j, (oc2 a_as a_sk)), (a_as, (arI G 8 f_as)), (a_sk, (arJ G 50 f_sk)), (a_l, (arW G 6 f_l)), (a_pt, (arI G 200 f_pt)), (a_b, (oc6 5 24 a_bn e_b))] hP hD ?_
    clear hP hD
    intro hP hD
    refine lv_if_ne (tgt := 16) hx hb dX11_late_11 (by decide +kernel) (fun c_24 => ?_) (fun c_24 => ?_)
    ·
      exact absurd c_24 (by decide +kernel)
    ·
      refine lv_iconst (v := (-1)) hx hb dX11_late_14 (by decide +kernel) ?_
      exact W.iret (v := (-1)) hx hb hr (fun t ht hW => ⟨⟨(-1), [(a_o, (oc11 a_h a_im a_ke a_k a_wa a_th a_ha a_wk a_r a_x e_tl e_fd e_fpl a_wd e_wn a_rf e_lr)), (a_k, (oc5 a_h a_j a_pt e_ln e_se e_lh e_br e_we e_me e_ce e_wy e_ho e_ov)), (a_h, (oc1 e_wa e_le e_st e_fo e_lc a_l a_g a_b a_s a_p a_w e_gb a_bb)), (a_g, (oc6 6 5 a_gn e_g)), (a_gn, (arI G 30 f_g)), (a_b, (oc6 5 24 a_bn e_b)), (a_bn, (arI G 120 f_b)), (a_p, (oc6 8 5 a_pn e_p)), (a_pn, (arI G 40 f_p)), (a_bb, (arJ G 24 f_bb)), (a_j, (oc2 a_as a_sk)), (a_as, (arI G 8 f_as)), (a_sk, (arJ G 50 f_sk)), (a_l, (arW G 6 f_l)), (a_pt, (arI G 200 f_pt))], rfl, ⟨(-1), e_ln, e_se, e_lh, e_br, e_we, e_me, e_ce, e_wy, e_ho, e_ov, f_pt, f_as, f_sk, h_e_ov, rfl, rfl⟩, by rw [ht]; exact hP.sub [0, 1, 2, 3, 4, 14, 5, 6, 7, 8, 9, 10, 11, 12, 13] rfl, hD.sub [0, 1, 2, 3, 4, 14, 5, 6, 7, 8, 9, 10, 11, 12, 13] (by decide +kernel) rfl⟩, hS.F ht⟩) hS.2.2 dX11_late_15
theorem dgX11_first_0 : ∀ r ∈ ([(0, (.aload_n 0, 1)), (1, (.getfield 12, 3)), (4, (.getfield 167, 3)), (7, (.iload_n 1, 1)), (8, (.invokevirtual 160, 3)), (11, (.ifCond .eq 12, 3)), (14, (.iload_n 2, 1)), (15, (.ifCond .lt 8, 3)), (18, (.iload_n 2, 1)), (19, (.iconst 2, 1)), (20, (.if_icmp .le 5, 3)), (23, (.iconst (-1), 1)), (24, (.ireturn, 1)), (25, (.iconst 0, 1)), (26, (.istore_n 3, 1)), (27, (.iload_n 3, 1)), (28, (.bipush 24, 2)), (30, (.if_icmp .ge 108, 3)), (33, (.iconst 0, 1)), (34, (.istore 4, 2)), (36, (.iload 4, 2)), (38, (.aload_n 0, 1)), (39, (.getfield 12, 3)), (42, (.getfield 167, 3)), (45, (.getfield 238, 3)), (48, (.if_icmp .ge 84, 3)), (51, (.iload 4, 2)), (53, (.iload_n 1, 1)), (54, (.if_icmp .ne 7, 3)), (57, (.iconst (-1), 1)), (58, (.goto 16, 3)), (61, (.aload_n 0, 1)), (62, (.getfield 12, 3)), (65, (.getfield 167, 3)), (68, (.iload 4, 2)), (70, (.iload_n 3, 1)), (71, (.invokevirtual 163, 3)), (74, (.istore 5, 2)), (76, (.iload 5, 2)), (78, (.iconst (-1), 1))] : List (Nat × (Instr × Nat))), decode cX11_first r.1 = .ok r.2 := by decide +kernel
theorem dX11_first_0 : decode cX11_first 0 = .ok (.aload_n 0, 1) := dgX11_first_0 (0, (.aload_n 0, 1)) (List.mem_of_getElem? (i := 0) rfl)
theorem dX11_first_1 : decode cX11_first 1 = .ok (.getfield 12, 3) := dgX11_first_0 (1, (.getfield 12, 3)) (List.mem_of_getElem? (i := 1) rfl)
theorem dX11_first_4 : decode cX11_first 4 = .ok (.getfield 167, 3) := dgX11_first_0 (4, (.getfield 167, 3)) (List.mem_of_getElem? (i := 2) rfl)
theorem dX11_first_7 : decode cX11_first 7 = .ok (.iload_n 1, 1) := dgX11_first_0 (7, (.iload_n 1, 1)) (List.mem_of_getElem? (i := 3) rfl)
theorem dX11_first_8 : decode cX11_first 8 = .ok (.invokevirtual 160, 3) := dgX11_first_0 (8, (.invokevirtual 160, 3)) (List.mem_of_getElem? (i := 4) rfl)
theorem dX11_first_11 : decode cX11_first 11 = .ok (.ifCond .eq 12, 3) := dgX11_first_0 (11, (.ifCond .eq 12, 3)) (List.mem_of_getElem? (i := 5) rfl)
theorem dX11_first_14 : decode cX11_first 14 = .ok (.iload_n 2, 1) := dgX11_first_0 (14, (.iload_n 2, 1)) (List.mem_of_getElem? (i := 6) rfl)
theorem dX11_first_15 : decode cX11_first 15 = .ok (.ifCond .lt 8, 3) := dgX11_first_0 (15, (.ifCond .lt 8, 3)) (List.mem_of_getElem? (i := 7) rfl)
theorem dX11_first_18 : decode cX11_first 18 = .ok (.iload_n 2, 1) := dgX11_first_0 (18, (.iload_n 2, 1)) (List.mem_of_getElem? (i := 8) rfl)
theorem dX11_first_19 : decode cX11_first 19 = .ok (.iconst 2, 1) := dgX11_first_0 (19, (.iconst 2, 1)) (List.mem_of_getElem? (i := 9) rfl)
theorem dX11_first_20 : decode cX11_first 20 = .ok (.if_icmp .le 5, 3) := dgX11_first_0 (20, (.if_icmp .le 5, 3)) (List.mem_of_getElem? (i := 10) rfl)
theorem dX11_first_23 : decode cX11_first 23 = .ok (.iconst (-1), 1) := dgX11_first_0 (23, (.iconst (-1), 1)) (List.mem_of_getElem? (i := 11) rfl)
theorem dX11_first_24 : decode cX11_first 24 = .ok (.ireturn, 1) := dgX11_first_0 (24, (.ireturn, 1)) (List.mem_of_getElem? (i := 12) rfl)
theorem dX11_first_25 : decode cX11_first 25 = .ok (.iconst 0, 1) := dgX11_first_0 (25, (.iconst 0, 1)) (List.mem_of_getElem? (i := 13) rfl)
theorem dX11_first_26 : decode cX11_first 26 = .ok (.istore_n 3, 1) := dgX11_first_0 (26, (.istore_n 3, 1)) (List.mem_of_getElem? (i := 14) rfl)
theorem dX11_first_27 : decode cX11_first 27 = .ok (.iload_n 3, 1) := dgX11_first_0 (27, (.iload_n 3, 1)) (List.mem_of_getElem? (i := 15) rfl)
theorem dX11_first_28 : decode cX11_first 28 = .ok (.bipush 24, 2) := dgX11_first_0 (28, (.bipush 24, 2)) (List.mem_of_getElem? (i := 16) rfl)
theorem dX11_first_30 : decode cX11_first 30 = .ok (.if_icmp .ge 108, 3) := dgX11_first_0 (30, (.if_icmp .ge 108, 3)) (List.mem_of_getElem? (i := 17) rfl)
theorem dX11_first_33 : decode cX11_first 33 = .ok (.iconst 0, 1) := dgX11_first_0 (33, (.iconst 0, 1)) (List.mem_of_getElem? (i := 18) rfl)
theorem dX11_first_34 : decode cX11_first 34 = .ok (.istore 4, 2) := dgX11_first_0 (34, (.istore 4, 2)) (List.mem_of_getElem? (i := 19) rfl)
theorem dX11_first_36 : decode cX11_first 36 = .ok (.iload 4, 2) := dgX11_first_0 (36, (.iload 4, 2)) (List.mem_of_getElem? (i := 20) rfl)
theorem dX11_first_38 : decode cX11_first 38 = .ok (.aload_n 0, 1) := dgX11_first_0 (38, (.aload_n 0, 1)) (List.mem_of_getElem? (i := 21) rfl)
theorem dX11_first_39 : decode cX11_first 39 = .ok (.getfield 12, 3) := dgX11_first_0 (39, (.getfield 12, 3)) (List.mem_of_getElem? (i := 22) rfl)
theorem dX11_first_42 : decode cX11_first 42 = .ok (.getfield 167, 3) := dgX11_first_0 (42, (.getfield 167, 3)) (List.mem_of_getElem? (i := 23) rfl)
theorem dX11_first_45 : decode cX11_first 45 = .ok (.getfield 238, 3) := dgX11_first_0 (45, (.getfield 238, 3)) (List.mem_of_getElem? (i := 24) rfl)
theorem dX11_first_48 : decode cX11_first 48 = .ok (.if_icmp .ge 84, 3) := dgX11_first_0 (48, (.if_icmp .ge 84, 3)) (List.mem_of_getElem? (i := 25) rfl)
theorem dX11_first_51 : decode cX11_first 51 = .ok (.iload 4, 2) := dgX11_first_0 (51, (.iload 4, 2)) (List.mem_of_getElem? (i := 26) rfl)
theorem dX11_first_53 : decode cX11_first 53 = .ok (.iload_n 1, 1) := dgX11_first_0 (53, (.iload_n 1, 1)) (List.mem_of_getElem? (i := 27) rfl)
theorem dX11_first_54 : decode cX11_first 54 = .ok (.if_icmp .ne 7, 3) := dgX11_first_0 (54, (.if_icmp .ne 7, 3)) (List.mem_of_getElem? (i := 28) rfl)
theorem dX11_first_57 : decode cX11_first 57 = .ok (.iconst (-1), 1) := dgX11_first_0 (57, (.iconst (-1), 1)) (List.mem_of_getElem? (i := 29) rfl)
theorem dX11_first_58 : decode cX11_first 58 = .ok (.goto 16, 3) := dgX11_first_0 (58, (.goto 16, 3)) (List.mem_of_getElem? (i := 30) rfl)
theorem dX11_first_61 : decode cX11_first 61 = .ok (.aload_n 0, 1) := dgX11_first_0 (61, (.aload_n 0, 1)) (List.mem_of_getElem? (i := 31) rfl)
theorem dX11_first_62 : decode cX11_first 62 = .ok (.getfield 12, 3) := dgX11_first_0 (62, (.getfield 12, 3)) (List.mem_of_getElem? (i := 32) rfl)
theorem dX11_first_65 : decode cX11_first 65 = .ok (.getfield 167, 3) := dgX11_first_0 (65, (.getfield 167, 3)) (List.mem_of_getElem? (i := 33) rfl)
theorem dX11_first_68 : decode cX11_first 68 = .ok (.iload 4, 2) := dgX11_first_0 (68, (.iload 4, 2)) (List.mem_of_getElem? (i := 34) rfl)
theorem dX11_first_70 : decode cX11_first 70 = .ok (.iload_n 3, 1) := dgX11_first_0 (70, (.iload_n 3, 1)) (List.mem_of_getElem? (i := 35) rfl)
theorem dX11_first_71 : decode cX11_first 71 = .ok (.invokevirtual 163, 3) := dgX11_first_0 (71, (.invokevirtual 163, 3)) (List.mem_of_getElem? (i := 36) rfl)
theorem dX11_first_74 : decode cX11_first 74 = .ok (.istore 5, 2) := dgX11_first_0 (74, (.istore 5, 2)) (List.mem_of_getElem? (i := 37) rfl)
theorem dX11_first_76 : decode cX11_first 76 = .ok (.iload 5, 2) := dgX11_first_0 (76, (.iload 5, 2)) (List.mem_of_getElem? (i := 38) rfl)
theorem dX11_first_78 : decode cX11_first 78 = .ok (.iconst (-1), 1) := dgX11_first_0 (78, (.iconst (-1), 1)) (List.mem_of_getElem? (i := 39) rfl)
theorem dgX11_first_1 : ∀ r ∈ ([(79, (.if_icmp .ne 7, 3)), (82, (.iconst (-1), 1)), (83, (.goto 14, 3)), (86, (.aload_n 0, 1)), (87, (.getfield 29, 3)), (90, (.iload 5, 2)), (92, (.iload_n 3, 1)), (93, (.iload_n 1, 1)), (94, (.invokevirtual 234, 3)), (97, (.istore 6, 2)), (99, (.iload 6, 2)), (101, (.iconst (-1), 1)), (102, (.if_icmp .eq 24, 3)), (105, (.iload_n 2, 1)), (106, (.ifCond .ne 7, 3)), (109, (.iload_n 3, 1)), (110, (.goto 15, 3)), (113, (.iload_n 2, 1)), (114, (.iconst 1, 1)), (115, (.if_icmp .ne 8, 3)), (118, (.iload 4, 2)), (120, (.goto 5, 3)), (123, (.iload 6, 2)), (125, (.ireturn, 1)), (126, (.iinc 4 1, 3)), (129, (.goto (-93), 3)), (132, (.iinc 3 1, 3)), (135, (.goto (-108), 3)), (138, (.iconst (-1), 1)), (139, (.ireturn, 1))] : List (Nat × (Instr × Nat))), decode cX11_first r.1 = .ok r.2 := by decide +kernel
theorem dX11_first_79 : decode cX11_first 79 = .ok (.if_icmp .ne 7, 3) := dgX11_first_1 (79, (.if_icmp .ne 7, 3)) (List.mem_of_getElem? (i := 0) rfl)
theorem dX11_first_82 : decode cX11_first 82 = .ok (.iconst (-1), 1) := dgX11_first_1 (82, (.iconst (-1), 1)) (List.mem_of_getElem? (i := 1) rfl)
theorem dX11_first_83 : decode cX11_first 83 = .ok (.goto 14, 3) := dgX11_first_1 (83, (.goto 14, 3)) (List.mem_of_getElem? (i := 2) rfl)
theorem dX11_first_86 : decode cX11_first 86 = .ok (.aload_n 0, 1) := dgX11_first_1 (86, (.aload_n 0, 1)) (List.mem_of_getElem? (i := 3) rfl)
theorem dX11_first_87 : decode cX11_first 87 = .ok (.getfield 29, 3) := dgX11_first_1 (87, (.getfield 29, 3)) (List.mem_of_getElem? (i := 4) rfl)
theorem dX11_first_90 : decode cX11_first 90 = .ok (.iload 5, 2) := dgX11_first_1 (90, (.iload 5, 2)) (List.mem_of_getElem? (i := 5) rfl)
theorem dX11_first_92 : decode cX11_first 92 = .ok (.iload_n 3, 1) := dgX11_first_1 (92, (.iload_n 3, 1)) (List.mem_of_getElem? (i := 6) rfl)
theorem dX11_first_93 : decode cX11_first 93 = .ok (.iload_n 1, 1) := dgX11_first_1 (93, (.iload_n 1, 1)) (List.mem_of_getElem? (i := 7) rfl)
theorem dX11_first_94 : decode cX11_first 94 = .ok (.invokevirtual 234, 3) := dgX11_first_1 (94, (.invokevirtual 234, 3)) (List.mem_of_getElem? (i := 8) rfl)
theorem dX11_first_97 : decode cX11_first 97 = .ok (.istore 6, 2) := dgX11_first_1 (97, (.istore 6, 2)) (List.mem_of_getElem? (i := 9) rfl)
theorem dX11_first_99 : decode cX11_first 99 = .ok (.iload 6, 2) := dgX11_first_1 (99, (.iload 6, 2)) (List.mem_of_getElem? (i := 10) rfl)
theorem dX11_first_101 : decode cX11_first 101 = .ok (.iconst (-1), 1) := dgX11_first_1 (101, (.iconst (-1), 1)) (List.mem_of_getElem? (i := 11) rfl)
theorem dX11_first_102 : decode cX11_first 102 = .ok (.if_icmp .eq 24, 3) := dgX11_first_1 (102, (.if_icmp .eq 24, 3)) (List.mem_of_getElem? (i := 12) rfl)
theorem dX11_first_105 : decode cX11_first 105 = .ok (.iload_n 2, 1) := dgX11_first_1 (105, (.iload_n 2, 1)) (List.mem_of_getElem? (i := 13) rfl)
theorem dX11_first_106 : decode cX11_first 106 = .ok (.ifCond .ne 7, 3) := dgX11_first_1 (106, (.ifCond .ne 7, 3)) (List.mem_of_getElem? (i := 14) rfl)
theorem dX11_first_109 : decode cX11_first 109 = .ok (.iload_n 3, 1) := dgX11_first_1 (109, (.iload_n 3, 1)) (List.mem_of_getElem? (i := 15) rfl)
theorem dX11_first_110 : decode cX11_first 110 = .ok (.goto 15, 3) := dgX11_first_1 (110, (.goto 15, 3)) (List.mem_of_getElem? (i := 16) rfl)
theorem dX11_first_113 : decode cX11_first 113 = .ok (.iload_n 2, 1) := dgX11_first_1 (113, (.iload_n 2, 1)) (List.mem_of_getElem? (i := 17) rfl)
theorem dX11_first_114 : decode cX11_first 114 = .ok (.iconst 1, 1) := dgX11_first_1 (114, (.iconst 1, 1)) (List.mem_of_getElem? (i := 18) rfl)
theorem dX11_first_115 : decode cX11_first 115 = .ok (.if_icmp .ne 8, 3) := dgX11_first_1 (115, (.if_icmp .ne 8, 3)) (List.mem_of_getElem? (i := 19) rfl)
theorem dX11_first_118 : decode cX11_first 118 = .ok (.iload 4, 2) := dgX11_first_1 (118, (.iload 4, 2)) (List.mem_of_getElem? (i := 20) rfl)
theorem dX11_first_120 : decode cX11_first 120 = .ok (.goto 5, 3) := dgX11_first_1 (120, (.goto 5, 3)) (List.mem_of_getElem? (i := 21) rfl)
theorem dX11_first_123 : decode cX11_first 123 = .ok (.iload 6, 2) := dgX11_first_1 (123, (.iload 6, 2)) (List.mem_of_getElem? (i := 22) rfl)
theorem dX11_first_125 : decode cX11_first 125 = .ok (.ireturn, 1) := dgX11_first_1 (125, (.ireturn, 1)) (List.mem_of_getElem? (i := 23) rfl)
theorem dX11_first_126 : decode cX11_first 126 = .ok (.iinc 4 1, 3) := dgX11_first_1 (126, (.iinc 4 1, 3)) (List.mem_of_getElem? (i := 24) rfl)
theorem dX11_first_129 : decode cX11_first 129 = .ok (.goto (-93), 3) := dgX11_first_1 (129, (.goto (-93), 3)) (List.mem_of_getElem? (i := 25) rfl)
theorem dX11_first_132 : decode cX11_first 132 = .ok (.iinc 3 1, 3) := dgX11_first_1 (132, (.iinc 3 1, 3)) (List.mem_of_getElem? (i := 26) rfl)
theorem dX11_first_135 : decode cX11_first 135 = .ok (.goto (-108), 3) := dgX11_first_1 (135, (.goto (-108), 3)) (List.mem_of_getElem? (i := 27) rfl)
theorem dX11_first_138 : decode cX11_first 138 = .ok (.iconst (-1), 1) := dgX11_first_1 (138, (.iconst (-1), 1)) (List.mem_of_getElem? (i := 28) rfl)
theorem dX11_first_139 : decode cX11_first 139 = .ok (.ireturn, 1) := dgX11_first_1 (139, (.ireturn, 1)) (List.mem_of_getElem? (i := 29) rfl)
set_option maxHeartbeats 4000000 in
set_option maxRecDepth 100000 in
theorem x_firstN (l : Launch) (G : g5_G) (a_o a_k a_h a_g a_gn a_b a_bn a_p a_pn a_bb a_j a_as a_sk a_l a_pt a_im a_ke a_wa a_th a_ha a_wk a_r a_x a_wd a_rf a_s a_w : Nat) (sz : Nat) (e_tl : Int32) (e_fd : Int32) (e_fpl : Int32) (e_wn : Int32) (e_lr : Int32) (e_le : Int32) (e_st : Int32) (e_fo : Int32) (e_lc : Int32) (e_g : Int32) (e_b : Int32) (e_p : Int32) (e_ln : Int32) (e_se : Int32) (e_lh : Int32) (e_br : Int32) (e_we : Int32) (e_me : Int32) (e_ce : Int32) (e_wy : Int32) (e_ho : Int32) (e_ov : Int32) (p_b : Int32) (p_t : Int32) (e_wa : Int64) (e_gb : Int64) (f_g : Nat → Int32) (f_b : Nat → Int32) (f_p : Nat → Int32) (f_bb : Nat → Int64) (f_as : Nat → Int32) (f_sk : Nat → Int64) (f_l : Nat → Option Nat) (f_pt : Nat → Int32) (h_e_tl : 0 ≤ e_tl.toInt ∧ e_tl.toInt ≤ 400) (h_e_wn : 0 ≤ e_wn.toInt ∧ e_wn.toInt ≤ 1) (h_e_g : 0 ≤ e_g.toInt ∧ e_g.toInt ≤ 6) (h_e_b : 0 ≤ e_b.toInt ∧ e_b.toInt ≤ 5) (h_e_p : 0 ≤ e_p.toInt ∧ e_p.toInt ≤ 8) (h_e_ov : 0 ≤ e_ov.toInt ∧ e_ov.toInt ≤ 1) (e_gk : gOK f_g e_g.toInt) (e_pk : gOK f_p e_p.toInt) (e_gi : inT e_gb f_g e_g.toInt) (e_f : e_fo.toInt < 0 ∨ e_lc.toInt ≤ e_fo.toInt) : Met l yX11_first (wsG yX11_first cX11_first 7 (some .int)) ({ frames := 15, cells := 0, slots := 0, locals := 582 }) (va_Pc [.ref a_o, .int p_b, .int p_t] (g5_P G [(a_o, (oc11 a_h a_im a_ke a_k a_wa a_th a_ha a_wk a_r a_x e_tl e_fd e_fpl a_wd e_wn a_rf e_lr)), (a_k, (oc5 a_h a_j a_pt e_ln e_se e_lh e_br e_we e_me e_ce e_wy e_ho e_ov)), (a_h, (oc1 e_wa e_le e_st e_fo e_lc a_l a_g a_b a_s a_p a_w e_gb a_bb)), (a_g, (oc6 6 5 a_gn e_g)), (a_gn, (arI G 30 f_g)), (a_b, (oc6 5 24 a_bn e_b)), (a_bn, (arI G 120 f_b)), (a_p, (oc6 8 5 a_pn e_p)), (a_pn, (arI G 40 f_p)), (a_bb, (arJ G 24 f_bb)), (a_j, (oc2 a_as a_sk)), (a_as, (arI G 8 f_as)), (a_sk, (arJ G 50 f_sk)), (a_l, (arW G 6 f_l)), (a_pt, (arI G 200 f_pt))] sz)) (va_Qi (fun (r : Int32) (u : va_W) => (∃ (o_r : Int32) (o_ln : Int32) (o_se : Int32) (o_lh : Int32) (o_br : Int32) (o_we : Int32) (o_me : Int32) (o_ce : Int32) (o_wy : Int32) (o_ho : Int32) (o_ov : Int32) (o_pt : Nat → Int32) (o_as : Nat → Int32) (o_sk : Nat → Int64), (0 ≤ o_ov.toInt ∧ o_ov.toInt ≤ 1) ∧ (r = o_r) ∧ (u = [(a_o, (oc11 a_h a_im a_ke a_k a_wa a_th a_ha a_wk a_r a_x e_tl e_fd e_fpl a_wd e_wn a_rf e_lr)), (a_k, (oc5 a_h a_j a_pt o_ln o_se o_lh o_br o_we o_me o_ce o_wy o_ho o_ov)), (a_h, (oc1 e_wa e_le e_st e_fo e_lc a_l a_g a_b a_s a_p a_w e_gb a_bb)), (a_g, (oc6 6 5 a_gn e_g)), (a_gn, (arI G 30 f_g)), (a_b, (oc6 5 24 a_bn e_b)), (a_bn, (arI G 120 f_b)), (a_p, (oc6 8 5 a_pn e_p)), (a_pn, (arI G 40 f_p)), (a_bb, (arJ G 24 f_bb)), (a_j, (oc2 a_as a_sk)), (a_as, (arI G 8 o_as)), (a_sk, (arJ G 50 o_sk)), (a_l, (arW G 6 f_l)), (a_pt, (arI G 200 o_pt))]))) (g5_B G (va_A [(a_o, (oc11 a_h a_im a_ke a_k a_wa a_th a_ha a_wk a_r a_x e_tl e_fd e_fpl a_wd e_wn a_rf e_lr)), (a_k, (oc5 a_h a_j a_pt e_ln e_se e_lh e_br e_we e_me e_ce e_wy e_ho e_ov)), (a_h, (oc1 e_wa e_le e_st e_fo e_lc a_l a_g a_b a_s a_p a_w e_gb a_bb)), (a_g, (oc6 6 5 a_gn e_g)), (a_gn, (arI G 30 f_g)), (a_b, (oc6 5 24 a_bn e_b)), (a_bn, (arI G 120 f_b)), (a_p, (oc6 8 5 a_pn e_p)), (a_pn, (arI G 40 f_p)), (a_bb, (arJ G 24 f_bb)), (a_j, (oc2 a_as a_sk)), (a_as, (arI G 8 f_as)), (a_sk, (arJ G 50 f_sk)), (a_l, (arW G 6 f_l)), (a_pt, (arI G 200 f_pt))] sz)) (va_A [(a_o, (oc11 a_h a_im a_ke a_k a_wa a_th a_ha a_wk a_r a_x e_tl e_fd e_fpl a_wd e_wn a_rf e_lr)), (a_k, (oc5 a_h a_j a_pt e_ln e_se e_lh e_br e_we e_me e_ce e_wy e_ho e_ov)), (a_h, (oc1 e_wa e_le e_st e_fo e_lc a_l a_g a_b a_s a_p a_w e_gb a_bb)), (a_g, (oc6 6 5 a_gn e_g)), (a_gn, (arI G 30 f_g)), (a_b, (oc6 5 24 a_bn e_b)), (a_bn, (arI G 120 f_b)), (a_p, (oc6 8 5 a_pn e_p)), (a_pn, (arI G 40 f_p)), (a_bb, (arJ G 24 f_bb)), (a_j, (oc2 a_as a_sk)), (a_as, (arI G 8 f_as)), (a_sk, (arJ G 50 f_sk)), (a_l, (arW G 6 f_l)), (a_pt, (arI G 200 f_pt))] sz)) 0 0 (va_A [(a_o, (oc11 a_h a_im a_ke a_k a_wa a_th a_ha a_wk a_r a_x e_tl e_fd e_fpl a_wd e_wn a_rf e_lr)), (a_k, (oc5 a_h a_j a_pt e_ln e_se e_lh e_br e_we e_me e_ce e_wy e_ho e_ov)), (a_h, (oc1 e_wa e_le e_st e_fo e_lc a_l a_g a_b a_s a_p a_w e_gb a_bb)), (a_g, (oc6 6 5 a_gn e_g)), (a_gn, (arI G 30 f_g)), (a_b, (oc6 5 24 a_bn e_b)), (a_bn, (arI G 120 f_b)), (a_p, (oc6 8 5 a_pn e_p)), (a_pn, (arI G 40 f_p)), (a_bb, (arJ G 24 f_bb)), (a_j, (oc2 a_as a_sk)), (a_as, (arI G 8 f_as)), (a_sk, (arJ G 50 f_sk)), (a_l, (arW G 6 f_l)), (a_pt, (arI G 200 f_pt))] sz) := by
  refine Met.ofW (cc := cX11_first) (maxL := 7) (ret := (some .int)) (by decide +kernel) rfl ?_
  intro p e s m args below meth c s₁ B hml hv
  obtain ⟨rfl, hsz, hP, hK, hD0, hN, hT⟩ := hv
  have hx := B.exec
  have hb := B.bytes
  have hr := B.returns
  have hts : ∀ w ∈ tblG, w.before _ s = true := fun w h => atoms_spec (ws := (wsG yX11_first cX11_first 7 (some .int))) B.pre w (List.mem_cons_of_mem _ h)
  have hown : s.vm.findClass RX11 = some m.cls := findClass_of_methodNamed B.named
  have hlocks := B.notSynchronized
  subst hsz
  have hD := hD0.self (sz := s.heap.size)
  generalize hAe : va_A [(a_o, (oc11 a_h a_im a_ke a_k a_wa a_th a_ha a_wk a_r a_x e_tl e_fd e_fpl a_wd e_wn a_rf e_lr)), (a_k, (oc5 a_h a_j a_pt e_ln e_se e_lh e_br e_we e_me e_ce e_wy e_ho e_ov)), (a_h, (oc1 e_wa e_le e_st e_fo e_lc a_l a_g a_b a_s a_p a_w e_gb a_bb)), (a_g, (oc6 6 5 a_gn e_g)), (a_gn, (arI G 30 f_g)), (a_b, (oc6 5 24 a_bn e_b)), (a_bn, (arI G 120 f_b)), (a_p, (oc6 8 5 a_pn e_p)), (a_pn, (arI G 40 f_p)), (a_bb, (arJ G 24 f_bb)), (a_j, (oc2 a_as a_sk)), (a_as, (arI G 8 f_as)), (a_sk, (arJ G 50 f_sk)), (a_l, (arW G 6 f_l)), (a_pt, (arI G 200 f_pt))] s.heap.size = A at hD hT ⊢
  have hA : ∀ q : Nat, s.heap.size ≤ q → A q := fun q h => by rw [← hAe]; exact Or.inr h
  have hS : va_S A s.heap s.heap [] := va_S.rf
  replace hP : va_P G.1 vwCl [(a_o, (oc11 a_h a_im a_ke a_k a_wa a_th a_ha a_wk a_r a_x e_tl e_fd e_fpl a_wd e_wn a_rf e_lr)), (a_k, (oc5 a_h a_j a_pt e_ln e_se e_lh e_br e_we e_me e_ce e_wy e_ho e_ov)), (a_h, (oc1 e_wa e_le e_st e_fo e_lc a_l a_g a_b a_s a_p a_w e_gb a_bb)), (a_g, (oc6 6 5 a_gn e_g)), (a_gn, (arI G 30 f_g)), (a_b, (oc6 5 24 a_bn e_b)), (a_bn, (arI G 120 f_b)), (a_p, (oc6 8 5 a_pn e_p)), (a_pn, (arI G 40 f_p)), (a_bb, (arJ G 24 f_bb)), (a_j, (oc2 a_as a_sk)), (a_as, (arI G 8 f_as)), (a_sk, (arJ G 50 f_sk)), (a_l, (arW G 6 f_l)), (a_pt, (arI G 200 f_pt))] s.heap := hP
  have hl := lv_entry ([.ref a_o, .int p_b, .int p_t]) (n := 7) (Nat.le_of_ble_eq_true rfl)
  rw [lg_entry_eq]
  generalize (lg_sl ([.ref a_o, .int p_b, .int p_t]) ++ List.replicate (7 - (lg_sl ([.ref a_o, .int p_b, .int p_t])).length) Slot.unset).toArray = ls at hl ⊢
  replace hl : lv_has ls 7 [(0, .ref a_o), (1, .int p_b), (2, .int p_t)] := hl
  refine lv_aload_n hx hb dX11_first_0 rfl (lv_at hl 0 rfl) ?_
  refine va_get (D := G.1) (ci := 11) (v := .ref a_h) (C := RX11) (T := TX11) (N := 17) hx hb hts inG_X11 hown hK hP 0 rfl rfl 0 (by decide +kernel) (hts _ fl_X11_12) (fun _ h9 => h9) rfl dX11_first_1 ?_
  refine va_get (D := G.1) (ci := 1) (v := .ref a_b) (C := RX1) (T := TX1) (N := 13) hx hb hts inG_X1 hown hK hP 2 rfl rfl 7 (by decide +kernel) (hts _ fl_X11_167) (fun _ h9 => h9) rfl dX11_first_4 ?_
  refine lv_iload_n hx hb dX11_first_7 rfl (lv_at hl 1 rfl) ?_
  refine W.eq (g2 := F0 m 8 ls [.int p_b, .ref a_b]) rfl ?_
  obtain ⟨hPc, hDc, hFc⟩ := g5_sub3 (wc := [(a_b, (oc6 5 24 a_bn e_b))]) hP hD hS hA [5] (by decide +kernel) rfl
  refine va_calli (va_runV (As := [.int p_b]) (rest := []) ⟨hx, hb, hml, hown, hts⟩ (t_has_B l G a_b a_bn s.heap.size e_b p_b h_e_b) (cwV 1 hts gV_X11_160 rfl rfl rfl hv_X6_has ⟨Nat.le_of_ble_eq_true rfl, Nat.le_of_ble_eq_true rfl⟩) (g5_preV hPc hK hDc hN hT hS hFc (ci := 6) (q0 := 0) rfl rfl) rfl rfl hl.1 rfl (lv_room (Nat.le_of_ble_eq_true rfl)) dX11_first_8 ⟨Nat.le_of_ble_eq_true rfl, Nat.le_of_ble_eq_true rfl⟩) hS (fun q _ h => hFc q h) hFc (fun r u t H locs ht hvm hw hB hz1 hk1 hS => ?_)
  obtain ⟨hP1, hD1⟩ := hB
  have hP1 := g5_ht ht hP1
  rcases hw with ⟨(i_1 : 0 ≤ p_b.toInt ∧ p_b.toInt < e_b.toInt), rfl, rfl⟩ | ⟨(i_2 : p_b.toInt < 0 ∨ e_b.toInt ≤ p_b.toInt), rfl, rfl⟩
  ·
    have hJ9 := va_join (wr := [(a_o, (oc11 a_h a_im a_ke a_k a_wa a_th a_ha a_wk a_r a_x e_tl e_fd e_fpl a_wd e_wn a_rf e_lr)), (a_k, (oc5 a_h a_j a_pt e_ln e_se e_lh e_br e_we e_me e_ce e_wy e_ho e_ov)), (a_h, (oc1 e_wa e_le e_st e_fo e_lc a_l a_g a_b a_s a_p a_w e_gb a_bb)), (a_g, (oc6 6 5 a_gn e_g)), (a_gn, (arI G 30 f_g)), (a_bn, (arI G 120 f_b)), (a_p, (oc6 8 5 a_pn e_p)), (a_pn, (arI G 40 f_p)), (a_bb, (arJ G 24 f_bb)), (a_j, (oc2 a_as a_sk)), (a_as, (arI G 8 f_as)), (a_sk, (arJ G 50 f_sk)), (a_l, (arW G 6 f_l)), (a_pt, (arI G 200 f_pt))]) hP hD [5] [0, 1, 2, 3, 4, 6, 7, 8, 9, 10, 11, 12, 13, 14] rfl rfl (by decide +kernel) (by decide +kernel) hk1 hFc hP1 hD1
    clear hP hD hPc hDc hFc ht hvm hz1 hk1 hP1 hD1
    obtain ⟨hP, hD⟩ := hJ9
    refine g5_rs [(a_o, (oc11 a_h a_im a_ke a_k a_wa a_th a_ha a_wk a_r a_x e_tl e_fd e_fpl a_wd e_wn a_rf e_lr)), (a_k, (oc5 a_h a_j a_pt e_ln e_se e_lh e_br e_we e_me e_ce e_wy e_ho e_ov)), (a_h, (oc1 e_wa e_le e_st e_fo e_lc a_l a_g a_b a_s a_p a_w e_gb a_bb)), (a_g, (oc6 6 5 a_gn e_g)), (a_gn, (arI G 30 f_g)), (a_bn, (arI G 120 f_b)), (a_p, (oc6 8 5 a_pn e_p)), (a_pn, (arI G 40 f_p)), (a_bb, (arJ G 24 f_bb)), (a_j, (oc2 a_as a_sk)), (a_as, (arI G 8 f_as)), (a_sk, (arJ G 50 f_sk)), (a_l, (arW G 6 f_l)), (a_pt, (arI G 200 f_pt)), (a_b, (oc6 5 24 a_bn e_b))] hP hD ?_
    clear hP hD
    intro hP hD
    refine lv_if_eq (tgt := 23) hx hb dX11_first_11 (by decide +kernel) (fun c_3 => ?_) (fun c_3 => ?_)
    ·
      exact absurd c_3 (by decide +kernel)
    ·
      refine lv_iload_n hx hb dX11_first_14 rfl (lv_at hl 2 rfl) ?_
      refine lv_if_lt (tgt := 23) hx hb dX11_first_15 (by decide +kernel) (fun c_4 => ?_) (fun c_4 => ?_)
      ·
        have i_4 : p_t.toInt < 0 := g5_lt (a := p_t.toInt) (b := 0) rfl (by decide +kernel) c_4
        refine lv_iconst (v := (-1)) hx hb dX11_first_23 (by decide +kernel) ?_
        exact W.iret (v := (-1)) hx hb hr (fun t ht hW => ⟨⟨(-1), [(a_o, (oc11 a_h a_im a_ke a_k a_wa a_th a_ha a_wk a_r a_x e_tl e_fd e_fpl a_wd e_wn a_rf e_lr)), (a_k, (oc5 a_h a_j a_pt e_ln e_se e_lh e_br e_we e_me e_ce e_wy e_ho e_ov)), (a_h, (oc1 e_wa e_le e_st e_fo e_lc a_l a_g a_b a_s a_p a_w e_gb a_bb)), (a_g, (oc6 6 5 a_gn e_g)), (a_gn, (arI G 30 f_g)), (a_b, (oc6 5 24 a_bn e_b)), (a_bn, (arI G 120 f_b)), (a_p, (oc6 8 5 a_pn e_p)), (a_pn, (arI G 40 f_p)), (a_bb, (arJ G 24 f_bb)), (a_j, (oc2 a_as a_sk)), (a_as, (arI G 8 f_as)), (a_sk, (arJ G 50 f_sk)), (a_l, (arW G 6 f_l)), (a_pt, (arI G 200 f_pt))], rfl, ⟨(-1), e_ln, e_se, e_lh, e_br, e_we, e_me, e_ce, e_wy, e_ho, e_ov, f_pt, f_as, f_sk, h_e_ov, rfl, rfl⟩, by rw [ht]; exact hP.sub [0, 1, 2, 3, 4, 14, 5, 6, 7, 8, 9, 10, 11, 12, 13] rfl, hD.sub [0, 1, 2, 3, 4, 14, 5, 6, 7, 8, 9, 10, 11, 12, 13] (by decide +kernel) rfl⟩, hS.F ht⟩) hS.2.2 dX11_first_24
      ·
        have i_4 : p_t.toInt ≥ 0 := g5_ltN (a := p_t.toInt) (b := 0) rfl (by decide +kernel) c_4
        refine lv_iload_n hx hb dX11_first_18 rfl (lv_at hl 2 rfl) ?_
        refine lv_iconst (v := 2) hx hb dX11_first_19 (by decide +kernel) ?_
        refine lv_icmp_le (tgt := 25) hx hb dX11_first_20 (by decide +kernel) (fun c_5 => ?_) (fun c_5 => ?_)
        ·
          have i_5 : p_t.toInt ≤ 2 := g5_le (a := p_t.toInt) (b := 2) rfl (by decide +kernel) c_5
          refine lv_iconst (v := 0) hx hb dX11_first_25 (by decide +kernel) ?_
          refine lv_istore_n (lv' := [(3, .int 0), (0, .ref a_o), (1, .int p_b), (2, .int p_t)]) hx hb dX11_first_26 rfl hl (by decide +kernel) rfl ?_
          clear hl
          intro ls hl
          refine g5_loop (α := (Int32) × (Int32) × (Int32) × (Int32) × (Int32) × (Int32) × (Int32) × (Int32) × (Int32) × (Int32) × (Nat → Int32) × (Nat → Int32) × (Nat → Int64) × (Int32)) (fun (q : (Int32) × (Int32) × (Int32) × (Int32) × (Int32) × (Int32) × (Int32) × (Int32) × (Int32) × (Int32) × (Nat → Int32) × (Nat → Int32) × (Nat → Int64) × (Int32)) (ls : Array Slot) (H : Heap) (locs : List Loc) => match q with | (k_h, k_se, k_lh, k_br, k_we, k_me, k_ce, k_wy, k_ho, k_ov, k_pt, k_as, k_sk, k_ln) => lv_has ls 7 [(3, .int k_h), (0, .ref a_o), (1, .int p_b), (2, .int p_t)] ∧ va_P G.1 vwCl [(a_o, (oc11 a_h a_im a_ke a_k a_wa a_th a_ha a_wk a_r a_x e_tl e_fd e_fpl a_wd e_wn a_rf e_lr)), (a_k, (oc5 a_h a_j a_pt k_ln k_se k_lh k_br k_we k_me k_ce k_wy k_ho k_ov)), (a_h, (oc1 e_wa e_le e_st e_fo e_lc a_l a_g a_b a_s a_p a_w e_gb a_bb)), (a_g, (oc6 6 5 a_gn e_g)), (a_gn, (arI G 30 f_g)), (a_bn, (arI G 120 f_b)), (a_p, (oc6 8 5 a_pn e_p)), (a_pn, (arI G 40 f_p)), (a_bb, (arJ G 24 f_bb)), (a_j, (oc2 a_as a_sk)), (a_as, (arI G 8 k_as)), (a_sk, (arJ G 50 k_sk)), (a_l, (arW G 6 f_l)), (a_pt, (arI G 200 k_pt)), (a_b, (oc6 5 24 a_bn e_b))] H ∧ va_D A [(a_o, (oc11 a_h a_im a_ke a_k a_wa a_th a_ha a_wk a_r a_x e_tl e_fd e_fpl a_wd e_wn a_rf e_lr)), (a_k, (oc5 a_h a_j a_pt k_ln k_se k_lh k_br k_we k_me k_ce k_wy k_ho k_ov)), (a_h, (oc1 e_wa e_le e_st e_fo e_lc a_l a_g a_b a_s a_p a_w e_gb a_bb)), (a_g, (oc6 6 5 a_gn e_g)), (a_gn, (arI G 30 f_g)), (a_bn, (arI G 120 f_b)), (a_p, (oc6 8 5 a_pn e_p)), (a_pn, (arI G 40 f_p)), (a_bb, (arJ G 24 f_bb)), (a_j, (oc2 a_as a_sk)), (a_as, (arI G 8 k_as)), (a_sk, (arJ G 50 k_sk)), (a_l, (arW G 6 f_l)), (a_pt, (arI G 200 k_pt)), (a_b, (oc6 5 24 a_bn e_b))] ∧ va_S A s.heap H locs ∧ (0 ≤ k_h.toInt ∧ k_h.toInt ≤ 24) ∧ (0 ≤ k_ov.toInt ∧ k_ov.toInt ≤ 1)) (fun (q : (Int32) × (Int32) × (Int32) × (Int32) × (Int32) × (Int32) × (Int32) × (Int32) × (Int32) × (Int32) × (Nat → Int32) × (Nat → Int32) × (Nat → Int64) × (Int32)) => match q with | (k_h, k_se, k_lh, k_br, k_we, k_me, k_ce, k_wy, k_ho, k_ov, k_pt, k_as, k_sk, k_ln) => Int.toNat (24 - k_h.toInt)) (0, e_se, e_lh, e_br, e_we, e_me, e_ce, e_wy, e_ho, e_ov, f_pt, f_as, f_sk, e_ln) ⟨lv_sub hl [0, 1, 2, 3] rfl, hP, hD, hS, ⟨by decide, by decide⟩, h_e_ov⟩ ?_
          rintro ⟨k_h, k_se, k_lh, k_br, k_we, k_me, k_ce, k_wy, k_ho, k_ov, k_pt, k_as, k_sk, k_ln⟩ ls H locs ⟨hl, hP, hD, hS, (i_6 : 0 ≤ k_h.toInt ∧ k_h.toInt ≤ 24), (i_7 : 0 ≤ k_ov.toInt ∧ k_ov.toInt ≤ 1)⟩ ih_27_8
          replace hl : lv_has ls 7 [(3, .int k_h), (0, .ref a_o), (1, .int p_b), (2, .int p_t)] := hl
          refine g5_rs [(a_o, (oc11 a_h a_im a_ke a_k a_wa a_th a_ha a_wk a_r a_x e_tl e_fd e_fpl a_wd e_wn a_rf e_lr)), (a_k, (oc5 a_h a_j a_pt k_ln k_se k_lh k_br k_we k_me k_ce k_wy k_ho k_ov)), (a_h, (oc1 e_wa e_le e_st e_fo e_lc a_l a_g a_b a_s a_p a_w e_gb a_bb)), (a_g, (oc6 6 5 a_gn e_g)), (a_gn, (arI G 30 f_g)), (a_bn, (arI G 120 f_b)), (a_p, (oc6 8 5 a_pn e_p)), (a_pn, (arI G 40 f_p)), (a_bb, (arJ G 24 f_bb)), (a_j, (oc2 a_as a_sk)), (a_as, (arI G 8 k_as)), (a_sk, (arJ G 50 k_sk)), (a_l, (arW G 6 f_l)), (a_pt, (arI G 200 k_pt)), (a_b, (oc6 5 24 a_bn e_b))] hP hD ?_
          clear hP hD
          intro hP hD
          refine lv_iload_n hx hb dX11_first_27 rfl (lv_at hl 0 rfl) ?_
          refine lv_bipush (v := 24) hx hb dX11_first_28 (by decide +kernel) ?_
          refine lv_icmp_ge (tgt := 138) hx hb dX11_first_30 (by decide +kernel) (fun c_9 => ?_) (fun c_9 => ?_)
          ·
            have i_9 : k_h.toInt ≥ 24 := g5_ge (a := k_h.toInt) (b := 24) rfl (by decide +kernel) c_9
            refine lv_iconst (v := (-1)) hx hb dX11_first_138 (by decide +kernel) ?_
            exact W.iret (v := (-1)) hx hb hr (fun t ht hW => ⟨⟨(-1), [(a_o, (oc11 a_h a_im a_ke a_k a_wa a_th a_ha a_wk a_r a_x e_tl e_fd e_fpl a_wd e_wn a_rf e_lr)), (a_k, (oc5 a_h a_j a_pt k_ln k_se k_lh k_br k_we k_me k_ce k_wy k_ho k_ov)), (a_h, (oc1 e_wa e_le e_st e_fo e_lc a_l a_g a_b a_s a_p a_w e_gb a_bb)), (a_g, (oc6 6 5 a_gn e_g)), (a_gn, (arI G 30 f_g)), (a_b, (oc6 5 24 a_bn e_b)), (a_bn, (arI G 120 f_b)), (a_p, (oc6 8 5 a_pn e_p)), (a_pn, (arI G 40 f_p)), (a_bb, (arJ G 24 f_bb)), (a_j, (oc2 a_as a_sk)), (a_as, (arI G 8 k_as)), (a_sk, (arJ G 50 k_sk)), (a_l, (arW G 6 f_l)), (a_pt, (arI G 200 k_pt))], rfl, ⟨(-1), k_ln, k_se, k_lh, k_br, k_we, k_me, k_ce, k_wy, k_ho, k_ov, k_pt, k_as, k_sk, i_7, rfl, rfl⟩, by rw [ht]; exact hP.sub [0, 1, 2, 3, 4, 14, 5, 6, 7, 8, 9, 10, 11, 12, 13] rfl, hD.sub [0, 1, 2, 3, 4, 14, 5, 6, 7, 8, 9, 10, 11, 12, 13] (by decide +kernel) rfl⟩, hS.F ht⟩) hS.2.2 dX11_first_139
          ·
            have i_9 : k_h.toInt < 24 := g5_geN (a := k_h.toInt) (b := 24) rfl (by decide +kernel) c_9
            refine lv_iconst (v := 0) hx hb dX11_first_33 (by decide +kernel) ?_
            refine lv_istore (lv' := [(4, .int 0), (3, .int k_h), (0, .ref a_o), (1, .int p_b), (2, .int p_t)]) hx hb dX11_first_34 hl (by decide +kernel) rfl ?_
            clear hl
            intro ls hl
            refine g5_loop (α := (Int32) × (Int32) × (Int32) × (Int32) × (Int32) × (Int32) × (Int32) × (Int32) × (Int32) × (Int32) × (Nat → Int32) × (Nat → Int32) × (Nat → Int64) × (Int32)) (fun (q : (Int32) × (Int32) × (Int32) × (Int32) × (Int32) × (Int32) × (Int32) × (Int32) × (Int32) × (Int32) × (Nat → Int32) × (Nat → Int32) × (Nat → Int64) × (Int32)) (ls : Array Slot) (H : Heap) (locs : List Loc) => match q with | (m_b, m_se, m_lh, m_br, m_we, m_me, m_ce, m_wy, m_ho, m_ov, m_pt, m_as, m_sk, m_ln) => lv_has ls 7 [(4, .int m_b), (3, .int k_h), (0, .ref a_o), (1, .int p_b), (2, .int p_t)] ∧ va_P G.1 vwCl [(a_o, (oc11 a_h a_im a_ke a_k a_wa a_th a_ha a_wk a_r a_x e_tl e_fd e_fpl a_wd e_wn a_rf e_lr)), (a_k, (oc5 a_h a_j a_pt m_ln m_se m_lh m_br m_we m_me m_ce m_wy m_ho m_ov)), (a_h, (oc1 e_wa e_le e_st e_fo e_lc a_l a_g a_b a_s a_p a_w e_gb a_bb)), (a_g, (oc6 6 5 a_gn e_g)), (a_gn, (arI G 30 f_g)), (a_bn, (arI G 120 f_b)), (a_p, (oc6 8 5 a_pn e_p)), (a_pn, (arI G 40 f_p)), (a_bb, (arJ G 24 f_bb)), (a_j, (oc2 a_as a_sk)), (a_as, (arI G 8 m_as)), (a_sk, (arJ G 50 m_sk)), (a_l, (arW G 6 f_l)), (a_pt, (arI G 200 m_pt)), (a_b, (oc6 5 24 a_bn e_b))] H ∧ va_D A [(a_o, (oc11 a_h a_im a_ke a_k a_wa a_th a_ha a_wk a_r a_x e_tl e_fd e_fpl a_wd e_wn a_rf e_lr)), (a_k, (oc5 a_h a_j a_pt m_ln m_se m_lh m_br m_we m_me m_ce m_wy m_ho m_ov)), (a_h, (oc1 e_wa e_le e_st e_fo e_lc a_l a_g a_b a_s a_p a_w e_gb a_bb)), (a_g, (oc6 6 5 a_gn e_g)), (a_gn, (arI G 30 f_g)), (a_bn, (arI G 120 f_b)), (a_p, (oc6 8 5 a_pn e_p)), (a_pn, (arI G 40 f_p)), (a_bb, (arJ G 24 f_bb)), (a_j, (oc2 a_as a_sk)), (a_as, (arI G 8 m_as)), (a_sk, (arJ G 50 m_sk)), (a_l, (arW G 6 f_l)), (a_pt, (arI G 200 m_pt)), (a_b, (oc6 5 24 a_bn e_b))] ∧ va_S A s.heap H locs ∧ (0 ≤ m_b.toInt ∧ m_b.toInt ≤ 5) ∧ (0 ≤ m_ov.toInt ∧ m_ov.toInt ≤ 1)) (fun (q : (Int32) × (Int32) × (Int32) × (Int32) × (Int32) × (Int32) × (Int32) × (Int32) × (Int32) × (Int32) × (Nat → Int32) × (Nat → Int32) × (Nat → Int64) × (Int32)) => match q with | (m_b, m_se, m_lh, m_br, m_we, m_me, m_ce, m_wy, m_ho, m_ov, m_pt, m_as, m_sk, m_ln) => Int.toNat (5 - m_b.toInt)) (0, k_se, k_lh, k_br, k_we, k_me, k_ce, k_wy, k_ho, k_ov, k_pt, k_as, k_sk, k_ln) ⟨lv_sub hl [0, 1, 2, 3, 4] rfl, hP, hD, hS, ⟨by decide, by decide⟩, i_7⟩ ?_
            rintro ⟨m_b, m_se, m_lh, m_br, m_we, m_me, m_ce, m_wy, m_ho, m_ov, m_pt, m_as, m_sk, m_ln⟩ ls H locs ⟨hl, hP, hD, hS, (i_10 : 0 ≤ m_b.toInt ∧ m_b.toInt ≤ 5), (i_11 : 0 ≤ m_ov.toInt ∧ m_ov.toInt ≤ 1)⟩ ih_36_12
            replace hl : lv_has ls 7 [(4, .int m_b), (3, .int k_h), (0, .ref a_o), (1, .int p_b), (2, .int p_t)] := hl
            refine g5_rs [(a_o, (oc11 a_h a_im a_ke a_k a_wa a_th a_ha a_wk a_r a_x e_tl e_fd e_fpl a_wd e_wn a_rf e_lr)), (a_k, (oc5 a_h a_j a_pt m_ln m_se m_lh m_br m_we m_me m_ce m_wy m_ho m_ov)), (a_h, (oc1 e_wa e_le e_st e_fo e_lc a_l a_g a_b a_s a_p a_w e_gb a_bb)), (a_g, (oc6 6 5 a_gn e_g)), (a_gn, (arI G 30 f_g)), (a_bn, (arI G 120 f_b)), (a_p, (oc6 8 5 a_pn e_p)), (a_pn, (arI G 40 f_p)), (a_bb, (arJ G 24 f_bb)), (a_j, (oc2 a_as a_sk)), (a_as, (arI G 8 m_as)), (a_sk, (arJ G 50 m_sk)), (a_l, (arW G 6 f_l)), (a_pt, (arI G 200 m_pt)), (a_b, (oc6 5 24 a_bn e_b))] hP hD ?_
            clear hP hD
            intro hP hD
            refine lv_iload hx hb dX11_first_36 (lv_at hl 0 rfl) ?_
            refine lv_aload_n hx hb dX11_first_38 rfl (lv_at hl 2 rfl) ?_
            refine va_get (D := G.1) (ci := 11) (v := .ref a_h) (C := RX11) (T := TX11) (N := 17) hx hb hts inG_X11 hown hK hP 0 rfl rfl 0 (by decide +kernel) (hts _ fl_X11_12) (fun _ h9 => h9) rfl dX11_first_39 ?_
            refine va_get (D := G.1) (ci := 1) (v := .ref a_b) (C := RX1) (T := TX1) (N := 13) hx hb hts inG_X1 hown hK hP 2 rfl rfl 7 (by decide +kernel) (hts _ fl_X11_167) (fun _ h9 => h9) rfl dX11_first_42 ?_
            refine W.eq (g2 := F0 m 45 ls [.ref a_b, .int m_b]) rfl ?_
            refine va_get (D := G.1) (ci := 6) (v := .int e_b) (C := RX6) (T := TX6) (N := 4) hx hb hts inG_X6 hown hK hP 14 rfl rfl 3 (by decide +kernel) (hts _ fl_X11_238) (fun _ h9 => h9) rfl dX11_first_45 ?_
            refine lv_icmp_ge (tgt := 132) hx hb dX11_first_48 (by decide +kernel) (fun c_13 => ?_) (fun c_13 => ?_)
            ·
              have i_13 : m_b.toInt ≥ e_b.toInt := g5_ge (a := m_b.toInt) (b := e_b.toInt) rfl rfl c_13
              refine lv_iinc (v := (k_h + 1)) (lv' := [(3, .int (k_h + 1)), (4, .int m_b), (0, .ref a_o), (1, .int p_b), (2, .int p_t)]) hx hb dX11_first_132 hl (k := 1) rfl rfl (by decide +kernel) rfl ?_
              clear hl
              intro ls hl
              have t_14 : (k_h + 1).toInt = k_h.toInt + 1 := g5_iadd (a := k_h.toInt) (b := 1) rfl (by decide +kernel) (by omega) (by omega)
              refine lv_goto (tgt := 27) hx hb dX11_first_135 (by decide +kernel) ?_
              exact ih_27_8 ((k_h + 1), m_se, m_lh, m_br, m_we, m_me, m_ce, m_wy, m_ho, m_ov, m_pt, m_as, m_sk, m_ln) ls H locs (show Int.toNat (24 - (k_h + 1).toInt) < Int.toNat (24 - k_h.toInt) from g_up (show k_h.toInt < (k_h + 1).toInt by omega) (show k_h.toInt < 24 by omega)) ⟨lv_sub hl [0, 2, 3, 4] rfl, hP, hD, hS, ⟨by omega, by omega⟩, i_11⟩
            ·
              have i_13 : m_b.toInt < e_b.toInt := g5_geN (a := m_b.toInt) (b := e_b.toInt) rfl rfl c_13
              refine lv_iload hx hb dX11_first_51 (lv_at hl 0 rfl) ?_
              refine lv_iload_n hx hb dX11_first_53 rfl (lv_at hl 3 rfl) ?_
              refine lv_icmp_ne (tgt := 61) hx hb dX11_first_54 (by decide +kernel) (fun c_15 => ?_) (fun c_15 => ?_)
              ·
                have n_15 : gNe (m_b.toInt) (p_b.toInt) := g5_ne (a := m_b.toInt) (b := p_b.toInt) rfl rfl c_15
                refine lv_aload_n hx hb dX11_first_61 rfl (lv_at hl 2 rfl) ?_
                refine va_get (D := G.1) (ci := 11) (v := .ref a_h) (C := RX11) (T := TX11) (N := 17) hx hb hts inG_X11 hown hK hP 0 rfl rfl 0 (by decide +kernel) (hts _ fl_X11_12) (fun _ h9 => h9) rfl dX11_first_62 ?_
                refine va_get (D := G.1) (ci := 1) (v := .ref a_b) (C := RX1) (T := TX1) (N := 13) hx hb hts inG_X1 hown hK hP 2 rfl rfl 7 (by decide +kernel) (hts _ fl_X11_167) (fun _ h9 => h9) rfl dX11_first_65 ?_
                refine lv_iload hx hb dX11_first_68 (lv_at hl 0 rfl) ?_
                refine W.eq (g2 := F0 m 70 ls [.int m_b, .ref a_b]) rfl ?_
                refine lv_iload_n hx hb dX11_first_70 rfl (lv_at hl 1 rfl) ?_
                obtain ⟨hPc, hDc, hFc⟩ := g5_sub3 (wc := [(a_b, (oc6 5 24 a_bn e_b)), (a_bn, (arI G 120 f_b))]) hP hD hS hA [14, 5] (by decide +kernel) rfl
                refine va_calli (va_runV (As := [.int m_b, .int k_h]) (rest := []) ⟨hx, hb, hml, hown, hts⟩ (t_get_B l G a_b a_bn H.size e_b m_b k_h f_b h_e_b) (cwV 2 hts gV_X11_163 rfl rfl rfl hv_X6_get ⟨Nat.le_of_ble_eq_true rfl, Nat.le_of_ble_eq_true rfl⟩) (g5_preV hPc hK hDc hN hT hS hFc (ci := 6) (q0 := 0) rfl rfl) rfl rfl hl.1 rfl (lv_room (Nat.le_of_ble_eq_true rfl)) dX11_first_71 ⟨Nat.le_of_ble_eq_true rfl, Nat.le_of_ble_eq_true rfl⟩) hS (fun q _ h => hFc q h) hFc (fun r u t H locs ht hvm hw hB hz1 hk1 hS => ?_)
                obtain ⟨hP1, hD1⟩ := hB
                have hP1 := g5_ht ht hP1
                obtain ⟨z17, (i_16 : z17 = tget f_b e_b.toInt 24 m_b.toInt k_h.toInt), y18, rfl⟩ := hw
                have hJ9 := va_join (wr := [(a_o, (oc11 a_h a_im a_ke a_k a_wa a_th a_ha a_wk a_r a_x e_tl e_fd e_fpl a_wd e_wn a_rf e_lr)), (a_k, (oc5 a_h a_j a_pt m_ln m_se m_lh m_br m_we m_me m_ce m_wy m_ho m_ov)), (a_h, (oc1 e_wa e_le e_st e_fo e_lc a_l a_g a_b a_s a_p a_w e_gb a_bb)), (a_g, (oc6 6 5 a_gn e_g)), (a_gn, (arI G 30 f_g)), (a_p, (oc6 8 5 a_pn e_p)), (a_pn, (arI G 40 f_p)), (a_bb, (arJ G 24 f_bb)), (a_j, (oc2 a_as a_sk)), (a_as, (arI G 8 m_as)), (a_sk, (arJ G 50 m_sk)), (a_l, (arW G 6 f_l)), (a_pt, (arI G 200 m_pt))]) hP hD [14, 5] [0, 1, 2, 3, 4, 6, 7, 8, 9, 10, 11, 12, 13] rfl rfl (by decide +kernel) (by decide +kernel) hk1 hFc hP1 hD1
                clear hP hD hPc hDc hFc ht hvm hz1 hk1 hP1 hD1
                obtain ⟨hP, hD⟩ := hJ9
                refine g5_rs [(a_o, (oc11 a_h a_im a_ke a_k a_wa a_th a_ha a_wk a_r a_x e_tl e_fd e_fpl a_wd e_wn a_rf e_lr)), (a_k, (oc5 a_h a_j a_pt m_ln m_se m_lh m_br m_we m_me m_ce m_wy m_ho m_ov)), (a_h, (oc1 e_wa e_le e_st e_fo e_lc a_l a_g a_b a_s a_p a_w e_gb a_bb)), (a_g, (oc6 6 5 a_gn e_g)), (a_gn, (arI G 30 f_g)), (a_p, (oc6 8 5 a_pn e_p)), (a_pn, (arI G 40 f_p)), (a_bb, (arJ G 24 f_bb)), (a_j, (oc2 a_as a_sk)), (a_as, (arI G 8 m_as)), (a_sk, (arJ G 50 m_sk)), (a_l, (arW G 6 f_l)), (a_pt, (arI G 200 m_pt)), (a_b, (oc6 5 24 a_bn e_b)), (a_bn, (arI G 120 f_b))] hP hD ?_
                clear hP hD
                intro hP hD
                refine g5_ti (v := z17) y18 ?_
                refine lv_istore (lv' := [(5, .int z17), (4, .int m_b), (3, .int k_h), (0, .ref a_o), (1, .int p_b), (2, .int p_t)]) hx hb dX11_first_74 hl (by decide +kernel) rfl ?_
                clear hl
                intro ls hl
                refine lv_iload hx hb dX11_first_76 (lv_at hl 0 rfl) ?_
                refine lv_iconst (v := (-1)) hx hb dX11_first_78 (by decide +kernel) ?_
                refine W.eq (g2 := F0 m 79 ls [.int (-1), .int z17]) rfl ?_
                refine lv_icmp_ne (tgt := 86) hx hb dX11_first_79 (by decide +kernel) (fun c_19 => ?_) (fun c_19 => ?_)
                ·
                  have n_19 : gNe (z17.toInt) ((-1)) := g5_ne (a := z17.toInt) (b := (-1)) rfl (by decide +kernel) c_19
                  refine lv_aload_n hx hb dX11_first_86 rfl (lv_at hl 3 rfl) ?_
                  refine va_get (D := G.1) (ci := 11) (v := .ref a_k) (C := RX11) (T := TX11) (N := 17) hx hb hts inG_X11 hown hK hP 0 rfl rfl 3 (by decide +kernel) (hts _ fl_X11_29) (fun _ h9 => h9) rfl dX11_first_87 ?_
                  refine lv_iload hx hb dX11_first_90 (lv_at hl 0 rfl) ?_
                  refine lv_iload_n hx hb dX11_first_92 rfl (lv_at hl 2 rfl) ?_
                  refine W.eq (g2 := F0 m 93 ls [.int k_h, .int z17, .ref a_k]) rfl ?_
                  refine lv_iload_n hx hb dX11_first_93 rfl (lv_at hl 4 rfl) ?_
                  obtain ⟨hPc, hDc, hFc⟩ := g5_sub3 (wc := [(a_k, (oc5 a_h a_j a_pt m_ln m_se m_lh m_br m_we m_me m_ce m_wy m_ho m_ov)), (a_h, (oc1 e_wa e_le e_st e_fo e_lc a_l a_g a_b a_s a_p a_w e_gb a_bb)), (a_g, (oc6 6 5 a_gn e_g)), (a_gn, (arI G 30 f_g)), (a_b, (oc6 5 24 a_bn e_b)), (a_bn, (arI G 120 f_b)), (a_p, (oc6 8 5 a_pn e_p)), (a_pn, (arI G 40 f_p)), (a_bb, (arJ G 24 f_bb)), (a_j, (oc2 a_as a_sk)), (a_as, (arI G 8 m_as)), (a_sk, (arJ G 50 m_sk)), (a_l, (arW G 6 f_l)), (a_pt, (arI G 200 m_pt))]) hP hD hS hA [1, 2, 3, 4, 13, 14, 5, 6, 7, 8, 9, 10, 11, 12] (by decide +kernel) rfl
                  refine va_calli (va_runV (As := [.int z17, .int k_h, .int p_b]) (rest := []) ⟨hx, hb, hml, hown, hts⟩ (s_latenessN l G a_k a_h a_g a_gn a_b a_bn a_p a_pn a_bb a_j a_as a_sk a_l a_pt a_s a_w H.size e_le e_st e_fo e_lc e_g e_b e_p m_ln m_se m_lh m_br m_we m_me m_ce m_wy m_ho m_ov z17 k_h p_b e_wa e_gb f_g f_b f_p f_bb m_as m_sk f_l m_pt h_e_g h_e_b h_e_p i_11 (e_gk) (e_pk) (e_gi) (e_f)) (cwV 3 hts gV_X11_234 rfl rfl rfl hv_X5_lateness ⟨Nat.le_of_ble_eq_true rfl, Nat.le_of_ble_eq_true rfl⟩) (g5_preV hPc hK hDc hN hT hS hFc (ci := 5) (q0 := 0) rfl rfl) rfl rfl hl.1 rfl (lv_room (Nat.le_of_ble_eq_true rfl)) dX11_first_94 ⟨Nat.le_of_ble_eq_true rfl, Nat.le_of_ble_eq_true rfl⟩) hS (fun q _ h => hFc q h) hFc (fun r u t H locs ht hvm hw hB hz1 hk1 hS => ?_)
                  obtain ⟨hP1, hD1⟩ := hB
                  have hP1 := g5_ht ht hP1
                  obtain ⟨z21, z22, z23, z24, z25, z26, z27, z28, z29, z30, z31, z32, z33, z34, (i_20 : 0 ≤ z31.toInt ∧ z31.toInt ≤ 1), y35, rfl⟩ := hw
                  have hJ9 := va_join (wr := [(a_o, (oc11 a_h a_im a_ke a_k a_wa a_th a_ha a_wk a_r a_x e_tl e_fd e_fpl a_wd e_wn a_rf e_lr))]) hP hD [1, 2, 3, 4, 13, 14, 5, 6, 7, 8, 9, 10, 11, 12] [0] rfl rfl (by decide +kernel) (by decide +kernel) hk1 hFc hP1 hD1
                  clear hP hD hPc hDc hFc ht hvm hz1 hk1 hP1 hD1
                  obtain ⟨hP, hD⟩ := hJ9
                  refine g5_rs [(a_o, (oc11 a_h a_im a_ke a_k a_wa a_th a_ha a_wk a_r a_x e_tl e_fd e_fpl a_wd e_wn a_rf e_lr)), (a_k, (oc5 a_h a_j a_pt z22 z23 z24 z25 z26 z27 z28 z29 z30 z31)), (a_h, (oc1 e_wa e_le e_st e_fo e_lc a_l a_g a_b a_s a_p a_w e_gb a_bb)), (a_g, (oc6 6 5 a_gn e_g)), (a_gn, (arI G 30 f_g)), (a_b, (oc6 5 24 a_bn e_b)), (a_bn, (arI G 120 f_b)), (a_p, (oc6 8 5 a_pn e_p)), (a_pn, (arI G 40 f_p)), (a_bb, (arJ G 24 f_bb)), (a_j, (oc2 a_as a_sk)), (a_as, (arI G 8 z33)), (a_sk, (arJ G 50 z34)), (a_l, (arW G 6 f_l)), (a_pt, (arI G 200 z32))] hP hD ?_
                  clear hP hD
                  intro hP hD
                  refine g5_ti (v := z21) y35 ?_
                  refine lv_istore (lv' := [(6, .int z21), (5, .int z17), (4, .int m_b), (3, .int k_h), (0, .ref a_o), (1, .int p_b), (2, .int p_t)]) hx hb dX11_first_97 hl (by decide +kernel) rfl ?_
                  clear hl
                  intro ls hl
                  refine lv_iload hx hb dX11_first_99 (lv_at hl 0 rfl) ?_
                  refine lv_iconst (v := (-1)) hx hb dX11_first_101 (by decide +kernel) ?_
                  refine W.eq (g2 := F0 m 102 ls [.int (-1), .int z21]) rfl ?_
                  refine lv_icmp_eq (tgt := 126) hx hb dX11_first_102 (by decide +kernel) (fun c_36 => ?_) (fun c_36 => ?_)
                  ·
                    have i_36 : z21.toInt = (-1) := g5_eq (a := z21.toInt) (b := (-1)) rfl (by decide +kernel) c_36
                    refine lv_iinc (v := (m_b + 1)) (lv' := [(4, .int (m_b + 1)), (6, .int z21), (5, .int z17), (3, .int k_h), (0, .ref a_o), (1, .int p_b), (2, .int p_t)]) hx hb dX11_first_126 hl (k := 2) rfl rfl (by decide +kernel) rfl ?_
                    clear hl
                    intro ls hl
                    have t_37 : (m_b + 1).toInt = m_b.toInt + 1 := g5_iadd (a := m_b.toInt) (b := 1) rfl (by decide +kernel) (by omega) (by omega)
                    refine lv_goto (tgt := 36) hx hb dX11_first_129 (by decide +kernel) ?_
                    exact ih_36_12 ((m_b + 1), z23, z24, z25, z26, z27, z28, z29, z30, z31, z32, z33, z34, z22) ls H locs (show Int.toNat (5 - (m_b + 1).toInt) < Int.toNat (5 - m_b.toInt) from g_up (show m_b.toInt < (m_b + 1).toInt by omega) (show m_b.toInt < 5 by omega)) ⟨lv_sub hl [0, 3, 4, 5, 6] rfl, hP.sub [0, 1, 2, 3, 4, 6, 7, 8, 9, 10, 11, 12, 13, 14, 5] rfl, hD.sub [0, 1, 2, 3, 4, 6, 7, 8, 9, 10, 11, 12, 13, 14, 5] (by decide +kernel) rfl, hS, ⟨by omega, by omega⟩, i_20⟩
                  ·
                    have n_36 : gNe (z21.toInt) ((-1)) := g5_eqN (a := z21.toInt) (b := (-1)) rfl (by decide +kernel) c_36
                    refine lv_iload_n hx hb dX11_first_105 rfl (lv_at hl 6 rfl) ?_
                    refine lv_if_ne (tgt := 113) hx hb dX11_first_106 (by decide +kernel) (fun c_38 => ?_) (fun c_38 => ?_)
                    ·
                      have n_38 : gNe (p_t.toInt) (0) := g5_ne (a := p_t.toInt) (b := 0) rfl (by decide +kernel) c_38
                      have i_38 : p_t.toInt ≥ 1 := by have z := g5_ne (a := p_t.toInt) (b := 0) (by rfl) (by decide +kernel) c_38; omega
                      refine lv_iload_n hx hb dX11_first_113 rfl (lv_at hl 6 rfl) ?_
                      refine lv_iconst (v := 1) hx hb dX11_first_114 (by decide +kernel) ?_
                      refine lv_icmp_ne (tgt := 123) hx hb dX11_first_115 (by decide +kernel) (fun c_39 => ?_) (fun c_39 => ?_)
                      ·
                        have n_39 : gNe (p_t.toInt) (1) := g5_ne (a := p_t.toInt) (b := 1) rfl (by decide +kernel) c_39
                        have i_39 : p_t.toInt ≥ 2 := by have z := g5_ne (a := p_t.toInt) (b := 1) (by rfl) (by decide +kernel) c_39; omega
                        refine lv_iload hx hb dX11_first_123 (lv_at hl 0 rfl) ?_
                        exact W.iret (v := z21) hx hb hr (fun t ht hW => ⟨⟨z21, [(a_o, (oc11 a_h a_im a_ke a_k a_wa a_th a_ha a_wk a_r a_x e_tl e_fd e_fpl a_wd e_wn a_rf e_lr)), (a_k, (oc5 a_h a_j a_pt z22 z23 z24 z25 z26 z27 z28 z29 z30 z31)), (a_h, (oc1 e_wa e_le e_st e_fo e_lc a_l a_g a_b a_s a_p a_w e_gb a_bb)), (a_g, (oc6 6 5 a_gn e_g)), (a_gn, (arI G 30 f_g)), (a_b, (oc6 5 24 a_bn e_b)), (a_bn, (arI G 120 f_b)), (a_p, (oc6 8 5 a_pn e_p)), (a_pn, (arI G 40 f_p)), (a_bb, (arJ G 24 f_bb)), (a_j, (oc2 a_as a_sk)), (a_as, (arI G 8 z33)), (a_sk, (arJ G 50 z34)), (a_l, (arW G 6 f_l)), (a_pt, (arI G 200 z32))], rfl, ⟨z21, z22, z23, z24, z25, z26, z27, z28, z29, z30, z31, z32, z33, z34, i_20, rfl, rfl⟩, by rw [ht]; exact hP.sub [0, 1, 2, 3, 4, 5, 6, 7, 8, 9, 10, 11, 12, 13, 14] rfl, hD.sub [0, 1, 2, 3, 4, 5, 6, 7, 8, 9, 10, 11, 12, 13, 14] (by decide +kernel) rfl⟩, hS.F ht⟩) hS.2.2 dX11_first_125
                      ·
                        have i_39 : p_t.toInt = 1 := g5_neN (a := p_t.toInt) (b := 1) rfl (by decide +kernel) c_39
                        refine lv_iload hx hb dX11_first_118 (lv_at hl 2 rfl) ?_
                        refine lv_goto (tgt := 125) hx hb dX11_first_120 (by decide +kernel) ?_
                        exact W.iret (v := m_b) hx hb hr (fun t ht hW => ⟨⟨m_b, [(a_o, (oc11 a_h a_im a_ke a_k a_wa a_th a_ha a_wk a_r a_x e_tl e_fd e_fpl a_wd e_wn a_rf e_lr)), (a_k, (oc5 a_h a_j a_pt z22 z23 z24 z25 z26 z27 z28 z29 z30 z31)), (a_h, (oc1 e_wa e_le e_st e_fo e_lc a_l a_g a_b a_s a_p a_w e_gb a_bb)), (a_g, (oc6 6 5 a_gn e_g)), (a_gn, (arI G 30 f_g)), (a_b, (oc6 5 24 a_bn e_b)), (a_bn, (arI G 120 f_b)), (a_p, (oc6 8 5 a_pn e_p)), (a_pn, (arI G 40 f_p)), (a_bb, (arJ G 24 f_bb)), (a_j, (oc2 a_as a_sk)), (a_as, (arI G 8 z33)), (a_sk, (arJ G 50 z34)), (a_l, (arW G 6 f_l)), (a_pt, (arI G 200 z32))], rfl, ⟨m_b, z22, z23, z24, z25, z26, z27, z28, z29, z30, z31, z32, z33, z34, i_20, rfl, rfl⟩, by rw [ht]; exact hP.sub [0, 1, 2, 3, 4, 5, 6, 7, 8, 9, 10, 11, 12, 13, 14] rfl, hD.sub [0, 1, 2, 3, 4, 5, 6, 7, 8, 9, 10, 11, 12, 13, 14] (by decide +kernel) rfl⟩, hS.F ht⟩) hS.2.2 dX11_first_125
                    ·
                      have i_38 : p_t.toInt = 0 := g5_neN (a := p_t.toInt) (b := 0) rfl (by decide +kernel) c_38
                      refine lv_iload_n hx hb dX11_first_109 rfl (lv_at hl 3 rfl) ?_
                      refine lv_goto (tgt := 125) hx hb dX11_first_110 (by decide +kernel) ?_
                      exact W.iret (v := k_h) hx hb hr (fun t ht hW => ⟨⟨k_h, [(a_o, (oc11 a_h a_im a_ke a_k a_wa a_th a_ha a_wk a_r a_x e_tl e_fd e_fpl a_wd e_wn a_rf e_lr)), (a_k, (oc5 a_h a_j a_pt z22 z23 z24 z25 z26 z27 z28 z29 z30 z31)), (a_h, (oc1 e_wa e_le e_st e_fo e_lc a_l a_g a_b a_s a_p a_w e_gb a_bb)), (a_g, (oc6 6 5 a_gn e_g)), (a_gn, (arI G 30 f_g)), (a_b, (oc6 5 24 a_bn e_b)), (a_bn, (arI G 120 f_b)), (a_p, (oc6 8 5 a_pn e_p)), (a_pn, (arI G 40 f_p)), (a_bb, (arJ G 24 f_bb)), (a_j, (oc2 a_as a_sk)), (a_as, (arI G 8 z33)), (a_sk, (arJ G 50 z34)), (a_l, (arW G 6 f_l)), (a_pt, (arI G 200 z32))], rfl, ⟨k_h, z22, z23, z24, z25, z26, z27, z28, z29, z30, z31, z32, z33, z34, i_20, rfl, rfl⟩, by rw [ht]; exact hP.sub [0, 1, 2, 3, 4, 5, 6, 7, 8, 9, 10, 11, 12, 13, 14] rfl, hD.sub [0, 1, 2, 3, 4, 5, 6, 7, 8, 9, 10, 11, 12, 13, 14] (by decide +kernel) rfl⟩, hS.F ht⟩) hS.2.2 dX11_first_125
                ·
                  have i_19 : z17.toInt = (-1) := g5_neN (a := z17.toInt) (b := (-1)) rfl (by decide +kernel) c_19
                  refine lv_iconst (v := (-1)) hx hb dX11_first_82 (by decide +kernel) ?_
                  refine lv_goto (tgt := 97) hx hb dX11_first_83 (by decide +kernel) ?_
                  refine lv_istore (lv' := [(6, .int (-1)), (5, .int z17), (4, .int m_b), (3, .int k_h), (0, .ref a_o), (1, .int p_b), (2, .int p_t)]) hx hb dX11_first_97 hl (by decide +kernel) rfl ?_
                  clear hl
                  intro ls hl
                  refine lv_iload hx hb dX11_first_99 (lv_at hl 0 rfl) ?_
                  refine W.eq (g2 := F0 m 101 ls [.int (-1)]) rfl ?_
                  refine lv_iconst (v := (-1)) hx hb dX11_first_101 (by decide +kernel) ?_
                  refine lv_icmp_eq (tgt := 126) hx hb dX11_first_102 (by decide +kernel) (fun c_40 => ?_) (fun c_40 => ?_)
                  ·
                    refine lv_iinc (v := (m_b + 1)) (lv' := [(4, .int (m_b + 1)), (6, .int (-1)), (5, .int z17), (3, .int k_h), (0, .ref a_o), (1, .int p_b), (2, .int p_t)]) hx hb dX11_first_126 hl (k := 2) rfl rfl (by decide +kernel) rfl ?_
                    clear hl
                    intro ls hl
                    have t_41 : (m_b + 1).toInt = m_b.toInt + 1 := g5_iadd (a := m_b.toInt) (b := 1) rfl (by decide +kernel) (by omega) (by omega)
                    refine lv_goto (tgt := 36) hx hb dX11_first_129 (by decide +kernel) ?_
                    exact ih_36_12 ((m_b + 1), m_se, m_lh, m_br, m_we, m_me, m_ce, m_wy, m_ho, m_ov, m_pt, m_as, m_sk, m_ln) ls H locs (show Int.toNat (5 - (m_b + 1).toInt) < Int.toNat (5 - m_b.toInt) from g_up (show m_b.toInt < (m_b + 1).toInt by omega) (show m_b.toInt < 5 by omega)) ⟨lv_sub hl [0, 3, 4, 5, 6] rfl, hP.sub [0, 1, 2, 3, 4, 14, 5, 6, 7, 8, 9, 10, 11, 12, 13] rfl, hD.sub [0, 1, 2, 3, 4, 14, 5, 6, 7, 8, 9, 10, 11, 12, 13] (by decide +kernel) rfl, hS, ⟨by omega, by omega⟩, i_11⟩
                  ·
                    exact absurd c_40 (by decide +kernel)
              ·
                have i_15 : m_b.toInt = p_b.toInt := g5_neN (a := m_b.toInt) (b := p_b.toInt) rfl rfl c_15
                refine lv_iconst (v := (-1)) hx hb dX11_first_57 (by decide +kernel) ?_
                refine lv_goto (tgt := 74) hx hb dX11_first_58 (by decide +kernel) ?_
                refine lv_istore (lv' := [(5, .int (-1)), (4, .int m_b), (3, .int k_h), (0, .ref a_o), (1, .int p_b), (2, .int p_t)]) hx hb dX11_first_74 hl (by decide +kernel) rfl ?_
                clear hl
                intro ls hl
                refine lv_iload hx hb dX11_first_76 (lv_at hl 0 rfl) ?_
                refine W.eq (g2 := F0 m 78 ls [.int (-1)]) rfl ?_
                refine lv_iconst (v := (-1)) hx hb dX11_first_78 (by decide +kernel) ?_
                refine lv_icmp_ne (tgt := 86) hx hb dX11_first_79 (by decide +kernel) (fun c_42 => ?_) (fun c_42 => ?_)
                ·
                  exact absurd c_42 (by decide +kernel)
                ·
                  refine lv_iconst (v := (-1)) hx hb dX11_first_82 (by decide +kernel) ?_
                  refine lv_goto (tgt := 97) hx hb dX11_first_83 (by decide +kernel) ?_
                  refine lv_istore (lv' := [(6, .int (-1)), (5, .int (-1)), (4, .int m_b), (3, .int k_h), (0, .ref a_o), (1, .int p_b), (2, .int p_t)]) hx hb dX11_first_97 hl (by decide +kernel) rfl ?_
                  clear hl
                  intro ls hl
                  refine lv_iload hx hb dX11_first_99 (lv_at hl 0 rfl) ?_
                  refine W.eq (g2 := F0 m 101 ls [.int (-1)]) rfl ?_
                  refine lv_iconst (v := (-1)) hx hb dX11_first_101 (by decide +kernel) ?_
                  refine lv_icmp_eq (tgt := 126) hx hb dX11_first_102 (by decide +kernel) (fun c_43 => ?_) (fun c_43 => ?_)
                  ·
                    refine lv_iinc (v := (m_b + 1)) (lv' := [(4, .int (m_b + 1)), (6, .int (-1)), (5, .int (-1)), (3, .int k_h), (0, .ref a_o), (1, .int p_b), (2, .int p_t)]) hx hb dX11_first_126 hl (k := 2) rfl rfl (by decide +kernel) rfl ?_
                    clear hl
                    intro ls hl
                    have t_44 : (m_b + 1).toInt = m_b.toInt + 1 := g5_iadd (a := m_b.toInt) (b := 1) rfl (by decide +kernel) (by omega) (by omega)
                    refine lv_goto (tgt := 36) hx hb dX11_first_129 (by decide +kernel) ?_
                    exact ih_36_12 ((m_b + 1), m_se, m_lh, m_br, m_we, m_me, m_ce, m_wy, m_ho, m_ov, m_pt, m_as, m_sk, m_ln) ls H locs (show Int.toNat (5 - (m_b + 1).toInt) < Int.toNat (5 - m_b.toInt) from g_up (show m_b.toInt < (m_b + 1).toInt by omega) (show m_b.toInt < 5 by omega)) ⟨lv_sub hl [0, 3, 4, 5, 6] rfl, hP, hD, hS, ⟨by omega, by omega⟩, i_11⟩
                  ·
                    exact absurd c_43 (by decide +kernel)
        ·
          have i_5 : p_t.toInt > 2 := g5_leN (a := p_t.toInt) (b := 2) rfl (by decide +kernel) c_5
          refine lv_iconst (v := (-1)) hx hb dX11_first_23 (by decide +kernel) ?_
          exact W.iret (v := (-1)) hx hb hr (fun t ht hW => ⟨⟨(-1), [(a_o, (oc11 a_h a_im a_ke a_k a_wa a_th a_ha a_wk a_r a_x e_tl e_fd e_fpl a_wd e_wn a_rf e_lr)), (a_k, (oc5 a_h a_j a_pt e_ln e_se e_lh e_br e_we e_me e_ce e_wy e_ho e_ov)), (a_h, (oc1 e_wa e_le e_st e_fo e_lc a_l a_g a_b a_s a_p a_w e_gb a_bb)), (a_g, (oc6 6 5 a_gn e_g)), (a_gn, (arI G 30 f_g)), (a_b, (oc6 5 24 a_bn e_b)), (a_bn, (arI G 120 f_b)), (a_p, (oc6 8 5 a_pn e_p)), (a_pn, (arI G 40 f_p)), (a_bb, (arJ G 24 f_bb)), (a_j, (oc2 a_as a_sk)), (a_as, (arI G 8 f_as)), (a_sk, (arJ G 50 f_sk)), (a_l, (arW G 6 f_l)), (a_pt, (arI G 200 f_pt))], rfl, ⟨(-1), e_ln, e_se, e_lh, e_br, e_we, e_me, e_ce, e_wy, e_ho, e_ov, f_pt, f_as, f_sk, h_e_ov, rfl, rfl⟩, by rw [ht]; exact hP.sub [0, 1, 2, 3, 4, 14, 5, 6, 7, 8, 9, 10, 11, 12, 13] rfl, hD.sub [0, 1, 2, 3, 4, 14, 5, 6, 7, 8, 9, 10, 11, 12, 13] (by decide +kernel) rfl⟩, hS.F ht⟩) hS.2.2 dX11_first_24
  ·
    have hJ9 := va_join (wr := [(a_o, (oc11 a_h a_im a_ke a_k a_wa a_th a_ha a_wk a_r a_x e_tl e_fd e_fpl a_wd e_wn a_rf e_lr)), (a_k, (oc5 a_h a_j a_pt e_ln e_se e_lh e_br e_we e_me e_ce e_wy e_ho e_ov)), (a_h, (oc1 e_wa e_le e_st e_fo e_lc a_l a_g a_b a_s a_p a_w e_gb a_bb)), (a_g, (oc6 6 5 a_gn e_g)), (a_gn, (arI G 30 f_g)), (a_bn, (arI G 120 f_b)), (a_p, (oc6 8 5 a_pn e_p)), (a_pn, (arI G 40 f_p)), (a_bb, (arJ G 24 f_bb)), (a_j, (oc2 a_as a_sk)), (a_as, (arI G 8 f_as)), (a_sk, (arJ G 50 f_sk)), (a_l, (arW G 6 f_l)), (a_pt, (arI G 200 f_pt))]) hP hD [5] [0, 1, 2, 3, 4, 6, 7, 8, 9, 10, 11, 12, 13, 14] rfl rfl (by decide +kernel) (by decide +kernel) hk1 hFc hP1 hD1
    clear hP hD hPc hDc hFc ht hvm hz1 hk1 hP1 hD1
    obtain ⟨hP, hD⟩ := hJ9
    refine g5_rs [(a_o, (oc11 a_h a_im a_ke a_k a_wa a_th a_ha a_wk a_r a_x e_tl e_fd e_fpl a_wd e_wn a_rf e_lr)), (a_k, (oc5 a_h a_j a_pt e_ln e_se e_lh e_br e_we e_me e_ce e_wy e_ho e_ov)), (a_h, (oc1 e_wa e_le e_st e_fo e_lc a_l a_g a_b a_s a_p a_w e_gb a_bb)), (a_g, (oc6 6 5 a_gn e_g)), (a_gn, (arI G 30 f_g)), (a_bn, (arI G 120 f_b)), (a_p, (oc6 8 5 a_pn e_p)), (a_pn, (arI G 40 f_p)), (a_bb, (arJ G 24 f_bb)), (a_j, (oc2 a_as a_sk)), (a_as, (arI G 8 f_as)), (a_sk, (arJ G 50 f_sk)), (a_l, (arW G 6 f_l)), (a_pt, (arI G 200 f_pt)), (a_b, (oc6 5 24 a_bn e_b))] hP hD ?_
    clear hP hD
    intro hP hD
    refine lv_if_eq (tgt := 23) hx hb dX11_first_11 (by decide +kernel) (fun c_45 => ?_) (fun c_45 => ?_)
    ·
      refine lv_iconst (v := (-1)) hx hb dX11_first_23 (by decide +kernel) ?_
      exact W.iret (v := (-1)) hx hb hr (fun t ht hW => ⟨⟨(-1), [(a_o, (oc11 a_h a_im a_ke a_k a_wa a_th a_ha a_wk a_r a_x e_tl e_fd e_fpl a_wd e_wn a_rf e_lr)), (a_k, (oc5 a_h a_j a_pt e_ln e_se e_lh e_br e_we e_me e_ce e_wy e_ho e_ov)), (a_h, (oc1 e_wa e_le e_st e_fo e_lc a_l a_g a_b a_s a_p a_w e_gb a_bb)), (a_g, (oc6 6 5 a_gn e_g)), (a_gn, (arI G 30 f_g)), (a_b, (oc6 5 24 a_bn e_b)), (a_bn, (arI G 120 f_b)), (a_p, (oc6 8 5 a_pn e_p)), (a_pn, (arI G 40 f_p)), (a_bb, (arJ G 24 f_bb)), (a_j, (oc2 a_as a_sk)), (a_as, (arI G 8 f_as)), (a_sk, (arJ G 50 f_sk)), (a_l, (arW G 6 f_l)), (a_pt, (arI G 200 f_pt))], rfl, ⟨(-1), e_ln, e_se, e_lh, e_br, e_we, e_me, e_ce, e_wy, e_ho, e_ov, f_pt, f_as, f_sk, h_e_ov, rfl, rfl⟩, by rw [ht]; exact hP.sub [0, 1, 2, 3, 4, 14, 5, 6, 7, 8, 9, 10, 11, 12, 13] rfl, hD.sub [0, 1, 2, 3, 4, 14, 5, 6, 7, 8, 9, 10, 11, 12, 13] (by decide +kernel) rfl⟩, hS.F ht⟩) hS.2.2 dX11_first_24
    ·
      exact absurd c_45 (by decide +kernel)
theorem dgX11_lit_0 : ∀ r ∈ ([(0, (.iload_n 1, 1)), (1, (.invokestatic 97, 3)), (4, (.ifCond .eq 17, 3)), (7, (.iload_n 2, 1)), (8, (.invokestatic 127, 3)), (11, (.ifCond .eq 10, 3)), (14, (.iload_n 3, 1)), (15, (.invokestatic 241, 3)), (18, (.ifCond .ne 5, 3)), (21, (.iconst (-1), 1)), (22, (.ireturn, 1)), (23, (.aload_n 0, 1)), (24, (.getfield 29, 3)), (27, (.iload_n 1, 1)), (28, (.iload_n 2, 1)), (29, (.invokevirtual 244, 3)), (32, (.lstore 4, 2)), (34, (.iload_n 3, 1)), (35, (.iconst (-1), 1)), (36, (.if_icmp .ne 9, 3)), (39, (.lload 4, 2)), (41, (.invokestatic 248, 3)), (44, (.ireturn, 1)), (45, (.lload 4, 2)), (47, (.iload_n 3, 1)), (48, (.invokestatic 115, 3)), (51, (.ifCond .eq 7, 3)), (54, (.iconst 1, 1)), (55, (.goto 4, 3)), (58, (.iconst 0, 1)), (59, (.ireturn, 1))] : List (Nat × (Instr × Nat))), decode cX11_lit r.1 = .ok r.2 := by decide +kernel
theorem dX11_lit_0 : decode cX11_lit 0 = .ok (.iload_n 1, 1) := dgX11_lit_0 (0, (.iload_n 1, 1)) (List.mem_of_getElem? (i := 0) rfl)
theorem dX11_lit_1 : decode cX11_lit 1 = .ok (.invokestatic 97, 3) := dgX11_lit_0 (1, (.invokestatic 97, 3)) (List.mem_of_getElem? (i := 1) rfl)
theorem dX11_lit_4 : decode cX11_lit 4 = .ok (.ifCond .eq 17, 3) := dgX11_lit_0 (4, (.ifCond .eq 17, 3)) (List.mem_of_getElem? (i := 2) rfl)
theorem dX11_lit_7 : decode cX11_lit 7 = .ok (.iload_n 2, 1) := dgX11_lit_0 (7, (.iload_n 2, 1)) (List.mem_of_getElem? (i := 3) rfl)
theorem dX11_lit_8 : decode cX11_lit 8 = .ok (.invokestatic 127, 3) := dgX11_lit_0 (8, (.invokestatic 127, 3)) (List.mem_of_getElem? (i := 4) rfl)
theorem dX11_lit_11 : decode cX11_lit 11 = .ok (.ifCond .eq 10, 3) := dgX11_lit_0 (11, (.ifCond .eq 10, 3)) (List.mem_of_getElem? (i := 5) rfl)
theorem dX11_lit_14 : decode cX11_lit 14 = .ok (.iload_n 3, 1) := dgX11_lit_0 (14, (.iload_n 3, 1)) (List.mem_of_getElem? (i := 6) rfl)
theorem dX11_lit_15 : decode cX11_lit 15 = .ok (.invokestatic 241, 3) := dgX11_lit_0 (15, (.invokestatic 241, 3)) (List.mem_of_getElem? (i := 7) rfl)
theorem dX11_lit_18 : decode cX11_lit 18 = .ok (.ifCond .ne 5, 3) := dgX11_lit_0 (18, (.ifCond .ne 5, 3)) (List.mem_of_getElem? (i := 8) rfl)
theorem dX11_lit_21 : decode cX11_lit 21 = .ok (.iconst (-1), 1) := dgX11_lit_0 (21, (.iconst (-1), 1)) (List.mem_of_getElem? (i := 9) rfl)
theorem dX11_lit_22 : decode cX11_lit 22 = .ok (.ireturn, 1) := dgX11_lit_0 (22, (.ireturn, 1)) (List.mem_of_getElem? (i := 10) rfl)
theorem dX11_lit_23 : decode cX11_lit 23 = .ok (.aload_n 0, 1) := dgX11_lit_0 (23, (.aload_n 0, 1)) (List.mem_of_getElem? (i := 11) rfl)
theorem dX11_lit_24 : decode cX11_lit 24 = .ok (.getfield 29, 3) := dgX11_lit_0 (24, (.getfield 29, 3)) (List.mem_of_getElem? (i := 12) rfl)
theorem dX11_lit_27 : decode cX11_lit 27 = .ok (.iload_n 1, 1) := dgX11_lit_0 (27, (.iload_n 1, 1)) (List.mem_of_getElem? (i := 13) rfl)
theorem dX11_lit_28 : decode cX11_lit 28 = .ok (.iload_n 2, 1) := dgX11_lit_0 (28, (.iload_n 2, 1)) (List.mem_of_getElem? (i := 14) rfl)
theorem dX11_lit_29 : decode cX11_lit 29 = .ok (.invokevirtual 244, 3) := dgX11_lit_0 (29, (.invokevirtual 244, 3)) (List.mem_of_getElem? (i := 15) rfl)
theorem dX11_lit_32 : decode cX11_lit 32 = .ok (.lstore 4, 2) := dgX11_lit_0 (32, (.lstore 4, 2)) (List.mem_of_getElem? (i := 16) rfl)
theorem dX11_lit_34 : decode cX11_lit 34 = .ok (.iload_n 3, 1) := dgX11_lit_0 (34, (.iload_n 3, 1)) (List.mem_of_getElem? (i := 17) rfl)
theorem dX11_lit_35 : decode cX11_lit 35 = .ok (.iconst (-1), 1) := dgX11_lit_0 (35, (.iconst (-1), 1)) (List.mem_of_getElem? (i := 18) rfl)
theorem dX11_lit_36 : decode cX11_lit 36 = .ok (.if_icmp .ne 9, 3) := dgX11_lit_0 (36, (.if_icmp .ne 9, 3)) (List.mem_of_getElem? (i := 19) rfl)
theorem dX11_lit_39 : decode cX11_lit 39 = .ok (.lload 4, 2) := dgX11_lit_0 (39, (.lload 4, 2)) (List.mem_of_getElem? (i := 20) rfl)
theorem dX11_lit_41 : decode cX11_lit 41 = .ok (.invokestatic 248, 3) := dgX11_lit_0 (41, (.invokestatic 248, 3)) (List.mem_of_getElem? (i := 21) rfl)
theorem dX11_lit_44 : decode cX11_lit 44 = .ok (.ireturn, 1) := dgX11_lit_0 (44, (.ireturn, 1)) (List.mem_of_getElem? (i := 22) rfl)
theorem dX11_lit_45 : decode cX11_lit 45 = .ok (.lload 4, 2) := dgX11_lit_0 (45, (.lload 4, 2)) (List.mem_of_getElem? (i := 23) rfl)
theorem dX11_lit_47 : decode cX11_lit 47 = .ok (.iload_n 3, 1) := dgX11_lit_0 (47, (.iload_n 3, 1)) (List.mem_of_getElem? (i := 24) rfl)
theorem dX11_lit_48 : decode cX11_lit 48 = .ok (.invokestatic 115, 3) := dgX11_lit_0 (48, (.invokestatic 115, 3)) (List.mem_of_getElem? (i := 25) rfl)
theorem dX11_lit_51 : decode cX11_lit 51 = .ok (.ifCond .eq 7, 3) := dgX11_lit_0 (51, (.ifCond .eq 7, 3)) (List.mem_of_getElem? (i := 26) rfl)
theorem dX11_lit_54 : decode cX11_lit 54 = .ok (.iconst 1, 1) := dgX11_lit_0 (54, (.iconst 1, 1)) (List.mem_of_getElem? (i := 27) rfl)
theorem dX11_lit_55 : decode cX11_lit 55 = .ok (.goto 4, 3) := dgX11_lit_0 (55, (.goto 4, 3)) (List.mem_of_getElem? (i := 28) rfl)
theorem dX11_lit_58 : decode cX11_lit 58 = .ok (.iconst 0, 1) := dgX11_lit_0 (58, (.iconst 0, 1)) (List.mem_of_getElem? (i := 29) rfl)
theorem dX11_lit_59 : decode cX11_lit 59 = .ok (.ireturn, 1) := dgX11_lit_0 (59, (.ireturn, 1)) (List.mem_of_getElem? (i := 30) rfl)
theorem ml_X11_244 : Cond.methodLink RX11 244 yX5_cellsFrom ∈ tblG := tg 899 (by decide +kernel) (by decide +kernel)
theorem im_X5_cellsFrom : Cond.instanceMethod yX5_cellsFrom ∈ tblG := tg 900 (by decide +kernel) (by decide +kernel)
theorem se_X5_cellsFrom : Cond.selects RX5 yX5_cellsFrom yX5_cellsFrom ∈ tblG := tg 901 (by decide +kernel) (by decide +kernel)
theorem cd_X5_cellsFrom : Cond.code yX5_cellsFrom cX5_cellsFrom 7 (some .long) ∈ tblG := tg 902 (by decide +kernel) (by decide +kernel)
theorem gW_X5_cellsFrom : GoodIn tblG (wsG yX5_cellsFrom cX5_cellsFrom 7 (some .long)) := tgi cd_X5_cellsFrom
theorem gV_X11_244 : GoodIn tblG (wsV RX11 244 RX5 yX5_cellsFrom (wsG yX5_cellsFrom cX5_cellsFrom 7 (some .long))) := tgV ml_X11_244 im_X5_cellsFrom se_X5_cellsFrom ini_X5 gW_X5_cellsFrom
theorem hv_X5_cellsFrom : yX5_cellsFrom.cls = RX5 ∧ yX5_cellsFrom.cls ≠ "java/lang/invoke/MethodHandle" ∧ yX5_cellsFrom.cls ≠ "java/lang/invoke/VarHandle" ∧ (parseMethodDescriptor yX5_cellsFrom.desc).map (fun d => d.parameters.length) = some 2 := by decide +kernel
set_option maxHeartbeats 4000000 in
set_option maxRecDepth 100000 in
theorem x_litN (l : Launch) (G : g5_G) (a_o a_k a_h a_g a_gn a_b a_bn a_p a_pn a_bb a_j a_as a_sk a_l a_pt a_im a_ke a_wa a_th a_ha a_wk a_r a_x a_wd a_rf a_s a_w : Nat) (sz : Nat) (e_tl : Int32) (e_fd : Int32) (e_fpl : Int32) (e_wn : Int32) (e_lr : Int32) (e_le : Int32) (e_st : Int32) (e_fo : Int32) (e_lc : Int32) (e_g : Int32) (e_b : Int32) (e_p : Int32) (e_ln : Int32) (e_se : Int32) (e_lh : Int32) (e_br : Int32) (e_we : Int32) (e_me : Int32) (e_ce : Int32) (e_wy : Int32) (e_ho : Int32) (e_ov : Int32) (p_c : Int32) (p_h : Int32) (p_t : Int32) (e_wa : Int64) (e_gb : Int64) (f_g : Nat → Int32) (f_b : Nat → Int32) (f_p : Nat → Int32) (f_bb : Nat → Int64) (f_as : Nat → Int32) (f_sk : Nat → Int64) (f_l : Nat → Option Nat) (f_pt : Nat → Int32) (h_e_tl : 0 ≤ e_tl.toInt ∧ e_tl.toInt ≤ 400) (h_e_wn : 0 ≤ e_wn.toInt ∧ e_wn.toInt ≤ 1) (h_e_g : 0 ≤ e_g.toInt ∧ e_g.toInt ≤ 6) (h_e_b : 0 ≤ e_b.toInt ∧ e_b.toInt ≤ 5) (h_e_p : 0 ≤ e_p.toInt ∧ e_p.toInt ≤ 8) (h_e_ov : 0 ≤ e_ov.toInt ∧ e_ov.toInt ≤ 1) (e_gk : gOK f_g e_g.toInt) (e_pk : gOK f_p e_p.toInt) (e_gi : inT e_gb f_g e_g.toInt) (e_f : e_fo.toInt < 0 ∨ e_lc.toInt ≤ e_fo.toInt) : Met l yX11_lit (wsG yX11_lit cX11_lit 6 (some .int)) ({ frames := 15, cells := 0, slots := 0, locals := 582 }) (va_Pc [.ref a_o, .int p_c, .int p_h, .int p_t] (g5_P G [(a_o, (oc11 a_h a_im a_ke a_k a_wa a_th a_ha a_wk a_r a_x e_tl e_fd e_fpl a_wd e_wn a_rf e_lr)), (a_k, (oc5 a_h a_j a_pt e_ln e_se e_lh e_br e_we e_me e_ce e_wy e_ho e_ov)), (a_h, (oc1 e_wa e_le e_st e_fo e_lc a_l a_g a_b a_s a_p a_w e_gb a_bb)), (a_g, (oc6 6 5 a_gn e_g)), (a_gn, (arI G 30 f_g)), (a_b, (oc6 5 24 a_bn e_b)), (a_bn, (arI G 120 f_b)), (a_p, (oc6 8 5 a_pn e_p)), (a_pn, (arI G 40 f_p)), (a_bb, (arJ G 24 f_bb)), (a_j, (oc2 a_as a_sk)), (a_as, (arI G 8 f_as)), (a_sk, (arJ G 50 f_sk)), (a_l, (arW G 6 f_l)), (a_pt, (arI G 200 f_pt))] sz)) (va_Qi (fun (r : Int32) (u : va_W) => (∃ (o_r : Int32) (o_ln : Int32) (o_se : Int32) (o_lh : Int32) (o_br : Int32) (o_we : Int32) (o_me : Int32) (o_ce : Int32) (o_wy : Int32) (o_ho : Int32) (o_ov : Int32) (o_pt : Nat → Int32) (o_as : Nat → Int32) (o_sk : Nat → Int64), (0 ≤ o_ov.toInt ∧ o_ov.toInt ≤ 1) ∧ (r = o_r) ∧ (u = [(a_o, (oc11 a_h a_im a_ke a_k a_wa a_th a_ha a_wk a_r a_x e_tl e_fd e_fpl a_wd e_wn a_rf e_lr)), (a_k, (oc5 a_h a_j a_pt o_ln o_se o_lh o_br o_we o_me o_ce o_wy o_ho o_ov)), (a_h, (oc1 e_wa e_le e_st e_fo e_lc a_l a_g a_b a_s a_p a_w e_gb a_bb)), (a_g, (oc6 6 5 a_gn e_g)), (a_gn, (arI G 30 f_g)), (a_b, (oc6 5 24 a_bn e_b)), (a_bn, (arI G 120 f_b)), (a_p, (oc6 8 5 a_pn e_p)), (a_pn, (arI G 40 f_p)), (a_bb, (arJ G 24 f_bb)), (a_j, (oc2 a_as a_sk)), (a_as, (arI G 8 o_as)), (a_sk, (arJ G 50 o_sk)), (a_l, (arW G 6 f_l)), (a_pt, (arI G 200 o_pt))]))) (g5_B G (va_A [(a_o, (oc11 a_h a_im a_ke a_k a_wa a_th a_ha a_wk a_r a_x e_tl e_fd e_fpl a_wd e_wn a_rf e_lr)), (a_k, (oc5 a_h a_j a_pt e_ln e_se e_lh e_br e_we e_me e_ce e_wy e_ho e_ov)), (a_h, (oc1 e_wa e_le e_st e_fo e_lc a_l a_g a_b a_s a_p a_w e_gb a_bb)), (a_g, (oc6 6 5 a_gn e_g)), (a_gn, (arI G 30 f_g)), (a_b, (oc6 5 24 a_bn e_b)), (a_bn, (arI G 120 f_b)), (a_p, (oc6 8 5 a_pn e_p)), (a_pn, (arI G 40 f_p)), (a_bb, (arJ G 24 f_bb)), (a_j, (oc2 a_as a_sk)), (a_as, (arI G 8 f_as)), (a_sk, (arJ G 50 f_sk)), (a_l, (arW G 6 f_l)), (a_pt, (arI G 200 f_pt))] sz)) (va_A [(a_o, (oc11 a_h a_im a_ke a_k a_wa a_th a_ha a_wk a_r a_x e_tl e_fd e_fpl a_wd e_wn a_rf e_lr)), (a_k, (oc5 a_h a_j a_pt e_ln e_se e_lh e_br e_we e_me e_ce e_wy e_ho e_ov)), (a_h, (oc1 e_wa e_le e_st e_fo e_lc a_l a_g a_b a_s a_p a_w e_gb a_bb)), (a_g, (oc6 6 5 a_gn e_g)), (a_gn, (arI G 30 f_g)), (a_b, (oc6 5 24 a_bn e_b)), (a_bn, (arI G 120 f_b)), (a_p, (oc6 8 5 a_pn e_p)), (a_pn, (arI G 40 f_p)), (a_bb, (arJ G 24 f_bb)), (a_j, (oc2 a_as a_sk)), (a_as, (arI G 8 f_as)), (a_sk, (arJ G 50 f_sk)), (a_l, (arW G 6 f_l)), (a_pt, (arI G 200 f_pt))] sz)) 0 0 (va_A [(a_o, (oc11 a_h a_im a_ke a_k a_wa a_th a_ha a_wk a_r a_x e_tl e_fd e_fpl a_wd e_wn a_rf e_lr)), (a_k, (oc5 a_h a_j a_pt e_ln e_se e_lh e_br e_we e_me e_ce e_wy e_ho e_ov)), (a_h, (oc1 e_wa e_le e_st e_fo e_lc a_l a_g a_b a_s a_p a_w e_gb a_bb)), (a_g, (oc6 6 5 a_gn e_g)), (a_gn, (arI G 30 f_g)), (a_b, (oc6 5 24 a_bn e_b)), (a_bn, (arI G 120 f_b)), (a_p, (oc6 8 5 a_pn e_p)), (a_pn, (arI G 40 f_p)), (a_bb, (arJ G 24 f_bb)), (a_j, (oc2 a_as a_sk)), (a_as, (arI G 8 f_as)), (a_sk, (arJ G 50 f_sk)), (a_l, (arW G 6 f_l)), (a_pt, (arI G 200 f_pt))] sz) := by
  refine Met.ofW (cc := cX11_lit) (maxL := 6) (ret := (some .int)) (by decide +kernel) rfl ?_
  intro p e s m args below meth c s₁ B hml hv
  obtain ⟨rfl, hsz, hP, hK, hD0, hN, hT⟩ := hv
  have hx := B.exec
  have hb := B.bytes
  have hr := B.returns
  have hts : ∀ w ∈ tblG, w.before _ s = true := fun w h => atoms_spec (ws := (wsG yX11_lit cX11_lit 6 (some .int))) B.pre w (List.mem_cons_of_mem _ h)
  have hown : s.vm.findClass RX11 = some m.cls := findClass_of_methodNamed B.named
  have hlocks := B.notSynchronized
  subst hsz
  have hD := hD0.self (sz := s.heap.size)
  generalize hAe : va_A [(a_o, (oc11 a_h a_im a_ke a_k a_wa a_th a_ha a_wk a_r a_x e_tl e_fd e_fpl a_wd e_wn a_rf e_lr)), (a_k, (oc5 a_h a_j a_pt e_ln e_se e_lh e_br e_we e_me e_ce e_wy e_ho e_ov)), (a_h, (oc1 e_wa e_le e_st e_fo e_lc a_l a_g a_b a_s a_p a_w e_gb a_bb)), (a_g, (oc6 6 5 a_gn e_g)), (a_gn, (arI G 30 f_g)), (a_b, (oc6 5 24 a_bn e_b)), (a_bn, (arI G 120 f_b)), (a_p, (oc6 8 5 a_pn e_p)), (a_pn, (arI G 40 f_p)), (a_bb, (arJ G 24 f_bb)), (a_j, (oc2 a_as a_sk)), (a_as, (arI G 8 f_as)), (a_sk, (arJ G 50 f_sk)), (a_l, (arW G 6 f_l)), (a_pt, (arI G 200 f_pt))] s.heap.size = A at hD hT ⊢
  have hA : ∀ q : Nat, s.heap.size ≤ q → A q := fun q h => by rw [← hAe]; exact Or.inr h
  have hS : va_S A s.heap s.heap [] := va_S.rf
  replace hP : va_P G.1 vwCl [(a_o, (oc11 a_h a_im a_ke a_k a_wa a_th a_ha a_wk a_r a_x e_tl e_fd e_fpl a_wd e_wn a_rf e_lr)), (a_k, (oc5 a_h a_j a_pt e_ln e_se e_lh e_br e_we e_me e_ce e_wy e_ho e_ov)), (a_h, (oc1 e_wa e_le e_st e_fo e_lc a_l a_g a_b a_s a_p a_w e_gb a_bb)), (a_g, (oc6 6 5 a_gn e_g)), (a_gn, (arI G 30 f_g)), (a_b, (oc6 5 24 a_bn e_b)), (a_bn, (arI G 120 f_b)), (a_p, (oc6 8 5 a_pn e_p)), (a_pn, (arI G 40 f_p)), (a_bb, (arJ G 24 f_bb)), (a_j, (oc2 a_as a_sk)), (a_as, (arI G 8 f_as)), (a_sk, (arJ G 50 f_sk)), (a_l, (arW G 6 f_l)), (a_pt, (arI G 200 f_pt))] s.heap := hP
  have hl := lv_entry ([.ref a_o, .int p_c, .int p_h, .int p_t]) (n := 6) (Nat.le_of_ble_eq_true rfl)
  rw [lg_entry_eq]
  generalize (lg_sl ([.ref a_o, .int p_c, .int p_h, .int p_t]) ++ List.replicate (6 - (lg_sl ([.ref a_o, .int p_c, .int p_h, .int p_t])).length) Slot.unset).toArray = ls at hl ⊢
  replace hl : lv_has ls 6 [(0, .ref a_o), (1, .int p_c), (2, .int p_h), (3, .int p_t)] := hl
  refine lv_iload_n hx hb dX11_lit_0 rfl (lv_at hl 1 rfl) ?_
  obtain ⟨hPc, hDc, hFc⟩ := g5_sub3 (wc := []) hP hD hS hA [] (by decide +kernel) rfl
  refine va_calli (va_runS (As := [.int p_c]) (rest := []) ⟨hx, hb, hml, hown, hts⟩ (x_isCell l G s.heap.size p_c) (va_cwS 1 hts gS_X11_97 rfl rfl rfl hs_X11_isCell ⟨Nat.le_of_ble_eq_true rfl, Nat.le_of_ble_eq_true rfl⟩) (g5_preS hPc hK hDc hN hT hS hFc) rfl rfl hl.1 rfl (lv_room (Nat.le_of_ble_eq_true rfl)) dX11_lit_1 ⟨Nat.le_of_ble_eq_true rfl, Nat.le_of_ble_eq_true rfl⟩) hS (fun q _ h => hFc q h) hFc (fun r u t H locs ht hvm hw hB hz1 hk1 hS => ?_)
  obtain ⟨hP1, hD1⟩ := hB
  have hP1 := g5_ht ht hP1
  rcases hw with ⟨(i_1 : 0 ≤ p_c.toInt ∧ p_c.toInt ≤ 63), rfl, rfl⟩ | ⟨rfl, rfl⟩
  ·
    have hJ9 := g5_same hP hk1
    clear hP hPc hDc hFc ht hvm hz1 hk1 hP1 hD1
    have hP := hJ9
    clear hJ9
    refine lv_if_eq (tgt := 21) hx hb dX11_lit_4 (by decide +kernel) (fun c_2 => ?_) (fun c_2 => ?_)
    ·
      exact absurd c_2 (by decide +kernel)
    ·
      refine lv_iload_n hx hb dX11_lit_7 rfl (lv_at hl 2 rfl) ?_
      obtain ⟨hPc, hDc, hFc⟩ := g5_sub3 (wc := []) hP hD hS hA [] (by decide +kernel) rfl
      refine va_calli (va_runS (As := [.int p_h]) (rest := []) ⟨hx, hb, hml, hown, hts⟩ (x_isHour l G H.size p_h) (va_cwS 1 hts gS_X11_127 rfl rfl rfl hs_X11_isHour ⟨Nat.le_of_ble_eq_true rfl, Nat.le_of_ble_eq_true rfl⟩) (g5_preS hPc hK hDc hN hT hS hFc) rfl rfl hl.1 rfl (lv_room (Nat.le_of_ble_eq_true rfl)) dX11_lit_8 ⟨Nat.le_of_ble_eq_true rfl, Nat.le_of_ble_eq_true rfl⟩) hS (fun q _ h => hFc q h) hFc (fun r u t H locs ht hvm hw hB hz1 hk1 hS => ?_)
      obtain ⟨hP1, hD1⟩ := hB
      have hP1 := g5_ht ht hP1
      rcases hw with ⟨(i_3 : 0 ≤ p_h.toInt ∧ p_h.toInt ≤ 23), rfl, rfl⟩ | ⟨rfl, rfl⟩
      ·
        have hJ9 := g5_same hP hk1
        clear hP hPc hDc hFc ht hvm hz1 hk1 hP1 hD1
        have hP := hJ9
        clear hJ9
        refine lv_if_eq (tgt := 21) hx hb dX11_lit_11 (by decide +kernel) (fun c_4 => ?_) (fun c_4 => ?_)
        ·
          exact absurd c_4 (by decide +kernel)
        ·
          refine lv_iload_n hx hb dX11_lit_14 rfl (lv_at hl 3 rfl) ?_
          obtain ⟨hPc, hDc, hFc⟩ := g5_sub3 (wc := []) hP hD hS hA [] (by decide +kernel) rfl
          refine va_calli (va_runS (As := [.int p_t]) (rest := []) ⟨hx, hb, hml, hown, hts⟩ (x_isCellOrNone l G H.size p_t) (va_cwS 1 hts gS_X11_241 rfl rfl rfl hs_X11_isCellOrNone ⟨Nat.le_of_ble_eq_true rfl, Nat.le_of_ble_eq_true rfl⟩) (g5_preS hPc hK hDc hN hT hS hFc) rfl rfl hl.1 rfl (lv_room (Nat.le_of_ble_eq_true rfl)) dX11_lit_15 ⟨Nat.le_of_ble_eq_true rfl, Nat.le_of_ble_eq_true rfl⟩) hS (fun q _ h => hFc q h) hFc (fun r u t H locs ht hvm hw hB hz1 hk1 hS => ?_)
          obtain ⟨hP1, hD1⟩ := hB
          have hP1 := g5_ht ht hP1
          rcases hw with ⟨(i_5 : (-1) ≤ p_t.toInt ∧ p_t.toInt ≤ 63), rfl, rfl⟩ | ⟨rfl, rfl⟩
          ·
            have hJ9 := g5_same hP hk1
            clear hP hPc hDc hFc ht hvm hz1 hk1 hP1 hD1
            have hP := hJ9
            clear hJ9
            refine lv_if_ne (tgt := 23) hx hb dX11_lit_18 (by decide +kernel) (fun c_6 => ?_) (fun c_6 => ?_)
            ·
              refine lv_aload_n hx hb dX11_lit_23 rfl (lv_at hl 0 rfl) ?_
              refine va_get (D := G.1) (ci := 11) (v := .ref a_k) (C := RX11) (T := TX11) (N := 17) hx hb hts inG_X11 hown hK hP 0 rfl rfl 3 (by decide +kernel) (hts _ fl_X11_29) (fun _ h9 => h9) rfl dX11_lit_24 ?_
              refine lv_iload_n hx hb dX11_lit_27 rfl (lv_at hl 1 rfl) ?_
              refine lv_iload_n hx hb dX11_lit_28 rfl (lv_at hl 2 rfl) ?_
              refine W.eq (g2 := F0 m 29 ls [.int p_h, .int p_c, .ref a_k]) rfl ?_
              obtain ⟨hPc, hDc, hFc⟩ := g5_sub3 (wc := [(a_k, (oc5 a_h a_j a_pt e_ln e_se e_lh e_br e_we e_me e_ce e_wy e_ho e_ov)), (a_h, (oc1 e_wa e_le e_st e_fo e_lc a_l a_g a_b a_s a_p a_w e_gb a_bb)), (a_g, (oc6 6 5 a_gn e_g)), (a_gn, (arI G 30 f_g)), (a_b, (oc6 5 24 a_bn e_b)), (a_bn, (arI G 120 f_b)), (a_p, (oc6 8 5 a_pn e_p)), (a_pn, (arI G 40 f_p)), (a_bb, (arJ G 24 f_bb)), (a_j, (oc2 a_as a_sk)), (a_as, (arI G 8 f_as)), (a_sk, (arJ G 50 f_sk)), (a_l, (arW G 6 f_l)), (a_pt, (arI G 200 f_pt))]) hP hD hS hA [1, 2, 3, 4, 5, 6, 7, 8, 9, 10, 11, 12, 13, 14] (by decide +kernel) rfl
              refine va_calll (va_runV (As := [.int p_c, .int p_h]) (rest := []) ⟨hx, hb, hml, hown, hts⟩ (s_cellsFromN l G a_k a_h a_g a_gn a_b a_bn a_p a_pn a_bb a_j a_as a_sk a_l a_pt a_s a_w H.size e_le e_st e_fo e_lc e_g e_b e_p e_ln e_se e_lh e_br e_we e_me e_ce e_wy e_ho e_ov p_c p_h e_wa e_gb f_g f_b f_p f_bb f_as f_sk f_l f_pt h_e_g h_e_b h_e_p h_e_ov (e_gk) (e_pk) (e_gi) (e_f)) (cwV 2 hts gV_X11_244 rfl rfl rfl hv_X5_cellsFrom ⟨Nat.le_of_ble_eq_true rfl, Nat.le_of_ble_eq_true rfl⟩) (g5_preV hPc hK hDc hN hT hS hFc (ci := 5) (q0 := 0) rfl rfl) rfl rfl hl.1 rfl (lv_room (Nat.le_of_ble_eq_true rfl)) dX11_lit_29 ⟨Nat.le_of_ble_eq_true rfl, Nat.le_of_ble_eq_true rfl⟩) hS (fun q _ h => hFc q h) hFc (fun r u t H locs ht hvm hw hB hz1 hk1 hS => ?_)
              obtain ⟨hP1, hD1⟩ := hB
              have hP1 := g5_ht ht hP1
              obtain ⟨z8, z9, z10, z11, z12, z13, z14, z15, z16, z17, z18, z19, z20, z21, (i_7 : 0 ≤ z18.toInt ∧ z18.toInt ≤ 1), y22, rfl⟩ := hw
              have hJ9 := va_join (wr := [(a_o, (oc11 a_h a_im a_ke a_k a_wa a_th a_ha a_wk a_r a_x e_tl e_fd e_fpl a_wd e_wn a_rf e_lr))]) hP hD [1, 2, 3, 4, 5, 6, 7, 8, 9, 10, 11, 12, 13, 14] [0] rfl rfl (by decide +kernel) (by decide +kernel) hk1 hFc hP1 hD1
              clear hP hD hPc hDc hFc ht hvm hz1 hk1 hP1 hD1
              obtain ⟨hP, hD⟩ := hJ9
              refine g5_rs [(a_o, (oc11 a_h a_im a_ke a_k a_wa a_th a_ha a_wk a_r a_x e_tl e_fd e_fpl a_wd e_wn a_rf e_lr)), (a_k, (oc5 a_h a_j a_pt z9 z10 z11 z12 z13 z14 z15 z16 z17 z18)), (a_h, (oc1 e_wa e_le e_st e_fo e_lc a_l a_g a_b a_s a_p a_w e_gb a_bb)), (a_g, (oc6 6 5 a_gn e_g)), (a_gn, (arI G 30 f_g)), (a_b, (oc6 5 24 a_bn e_b)), (a_bn, (arI G 120 f_b)), (a_p, (oc6 8 5 a_pn e_p)), (a_pn, (arI G 40 f_p)), (a_bb, (arJ G 24 f_bb)), (a_j, (oc2 a_as a_sk)), (a_as, (arI G 8 z20)), (a_sk, (arJ G 50 z21)), (a_l, (arW G 6 f_l)), (a_pt, (arI G 200 z19))] hP hD ?_
              clear hP hD
              intro hP hD
              refine g5_tl (v := z8) y22 ?_
              refine lv_lstore (lv' := [(4, .long z8), (0, .ref a_o), (1, .int p_c), (2, .int p_h), (3, .int p_t)]) hx hb dX11_lit_32 hl (by decide +kernel) rfl ?_
              clear hl
              intro ls hl
              refine lv_iload_n hx hb dX11_lit_34 rfl (lv_at hl 4 rfl) ?_
              refine lv_iconst (v := (-1)) hx hb dX11_lit_35 (by decide +kernel) ?_
              refine lv_icmp_ne (tgt := 45) hx hb dX11_lit_36 (by decide +kernel) (fun c_23 => ?_) (fun c_23 => ?_)
              ·
                have n_23 : gNe (p_t.toInt) ((-1)) := g5_ne (a := p_t.toInt) (b := (-1)) rfl (by decide +kernel) c_23
                have i_23 : p_t.toInt ≥ 0 := by have z := g5_ne (a := p_t.toInt) (b := (-1)) (by rfl) (by decide +kernel) c_23; omega
                refine lv_lload hx hb dX11_lit_45 (lv_at hl 0 rfl) ?_
                refine lv_iload_n hx hb dX11_lit_47 rfl (lv_at hl 4 rfl) ?_
                obtain ⟨hPc, hDc, hFc⟩ := g5_sub3 (wc := []) hP hD hS hA [] (by decide +kernel) rfl
                refine va_calli (va_runS (As := [.long z8, .int p_t]) (rest := []) ⟨hx, hb, hml, hown, hts⟩ (k_isOn l G H.size p_t z8 ⟨by omega, by omega⟩) (va_cwS 2 hts gS_X11_115 rfl rfl rfl hs_X11_isOn ⟨Nat.le_of_ble_eq_true rfl, Nat.le_of_ble_eq_true rfl⟩) (g5_preS hPc hK hDc hN hT hS hFc) rfl rfl hl.1 rfl (lv_room (Nat.le_of_ble_eq_true rfl)) dX11_lit_48 ⟨Nat.le_of_ble_eq_true rfl, Nat.le_of_ble_eq_true rfl⟩) hS (fun q _ h => hFc q h) hFc (fun r u t H locs ht hvm hw hB hz1 hk1 hS => ?_)
                obtain ⟨hP1, hD1⟩ := hB
                have hP1 := g5_ht ht hP1
                rcases hw with ⟨(i_24 : onB z8 p_t.toInt = false), rfl, rfl⟩ | ⟨(i_25 : onB z8 p_t.toInt = true), rfl, rfl⟩
                ·
                  have hJ9 := g5_same hP hk1
                  clear hP hPc hDc hFc ht hvm hz1 hk1 hP1 hD1
                  have hP := hJ9
                  clear hJ9
                  refine lv_if_eq (tgt := 58) hx hb dX11_lit_51 (by decide +kernel) (fun c_26 => ?_) (fun c_26 => ?_)
                  ·
                    refine lv_iconst (v := 0) hx hb dX11_lit_58 (by decide +kernel) ?_
                    exact W.iret (v := 0) hx hb hr (fun t ht hW => ⟨⟨0, [(a_o, (oc11 a_h a_im a_ke a_k a_wa a_th a_ha a_wk a_r a_x e_tl e_fd e_fpl a_wd e_wn a_rf e_lr)), (a_k, (oc5 a_h a_j a_pt z9 z10 z11 z12 z13 z14 z15 z16 z17 z18)), (a_h, (oc1 e_wa e_le e_st e_fo e_lc a_l a_g a_b a_s a_p a_w e_gb a_bb)), (a_g, (oc6 6 5 a_gn e_g)), (a_gn, (arI G 30 f_g)), (a_b, (oc6 5 24 a_bn e_b)), (a_bn, (arI G 120 f_b)), (a_p, (oc6 8 5 a_pn e_p)), (a_pn, (arI G 40 f_p)), (a_bb, (arJ G 24 f_bb)), (a_j, (oc2 a_as a_sk)), (a_as, (arI G 8 z20)), (a_sk, (arJ G 50 z21)), (a_l, (arW G 6 f_l)), (a_pt, (arI G 200 z19))], rfl, ⟨0, z9, z10, z11, z12, z13, z14, z15, z16, z17, z18, z19, z20, z21, i_7, rfl, rfl⟩, by rw [ht]; exact hP.sub [0, 1, 2, 3, 4, 5, 6, 7, 8, 9, 10, 11, 12, 13, 14] rfl, hD.sub [0, 1, 2, 3, 4, 5, 6, 7, 8, 9, 10, 11, 12, 13, 14] (by decide +kernel) rfl⟩, hS.F ht⟩) hS.2.2 dX11_lit_59
                  ·
                    exact absurd c_26 (by decide +kernel)
                ·
                  have hJ9 := g5_same hP hk1
                  clear hP hPc hDc hFc ht hvm hz1 hk1 hP1 hD1
                  have hP := hJ9
                  clear hJ9
                  refine lv_if_eq (tgt := 58) hx hb dX11_lit_51 (by decide +kernel) (fun c_27 => ?_) (fun c_27 => ?_)
                  ·
                    exact absurd c_27 (by decide +kernel)
                  ·
                    refine lv_iconst (v := 1) hx hb dX11_lit_54 (by decide +kernel) ?_
                    refine lv_goto (tgt := 59) hx hb dX11_lit_55 (by decide +kernel) ?_
                    exact W.iret (v := 1) hx hb hr (fun t ht hW => ⟨⟨1, [(a_o, (oc11 a_h a_im a_ke a_k a_wa a_th a_ha a_wk a_r a_x e_tl e_fd e_fpl a_wd e_wn a_rf e_lr)), (a_k, (oc5 a_h a_j a_pt z9 z10 z11 z12 z13 z14 z15 z16 z17 z18)), (a_h, (oc1 e_wa e_le e_st e_fo e_lc a_l a_g a_b a_s a_p a_w e_gb a_bb)), (a_g, (oc6 6 5 a_gn e_g)), (a_gn, (arI G 30 f_g)), (a_b, (oc6 5 24 a_bn e_b)), (a_bn, (arI G 120 f_b)), (a_p, (oc6 8 5 a_pn e_p)), (a_pn, (arI G 40 f_p)), (a_bb, (arJ G 24 f_bb)), (a_j, (oc2 a_as a_sk)), (a_as, (arI G 8 z20)), (a_sk, (arJ G 50 z21)), (a_l, (arW G 6 f_l)), (a_pt, (arI G 200 z19))], rfl, ⟨1, z9, z10, z11, z12, z13, z14, z15, z16, z17, z18, z19, z20, z21, i_7, rfl, rfl⟩, by rw [ht]; exact hP.sub [0, 1, 2, 3, 4, 5, 6, 7, 8, 9, 10, 11, 12, 13, 14] rfl, hD.sub [0, 1, 2, 3, 4, 5, 6, 7, 8, 9, 10, 11, 12, 13, 14] (by decide +kernel) rfl⟩, hS.F ht⟩) hS.2.2 dX11_lit_59
              ·
                have i_23 : p_t.toInt = (-1) := g5_neN (a := p_t.toInt) (b := (-1)) rfl (by decide +kernel) c_23
                refine lv_lload hx hb dX11_lit_39 (lv_at hl 0 rfl) ?_
                obtain ⟨hPc, hDc, hFc⟩ := g5_sub3 (wc := []) hP hD hS hA [] (by decide +kernel) rfl
                refine va_calli (va_runS (As := [.long z8]) (rest := []) ⟨hx, hb, hml, hown, hts⟩ (j_bitCountL l G H.size z8) (va_cwS 1 hts gS_X11_248 rfl rfl rfl hs_J13_bitCount_95d88 ⟨Nat.le_of_ble_eq_true rfl, Nat.le_of_ble_eq_true rfl⟩) (g5_preS hPc hK hDc hN hT hS hFc) rfl rfl hl.1 rfl (lv_room (Nat.le_of_ble_eq_true rfl)) dX11_lit_41 ⟨Nat.le_of_ble_eq_true rfl, Nat.le_of_ble_eq_true rfl⟩) hS (fun q _ h => hFc q h) hFc (fun r u t H locs ht hvm hw hB hz1 hk1 hS => ?_)
                obtain ⟨hP1, hD1⟩ := hB
                have hP1 := g5_ht ht hP1
                obtain ⟨z28, y29, rfl⟩ := hw
                have hJ9 := g5_same hP hk1
                clear hP hPc hDc hFc ht hvm hz1 hk1 hP1 hD1
                have hP := hJ9
                clear hJ9
                refine g5_ti (v := z28) y29 ?_
                exact W.iret (v := z28) hx hb hr (fun t ht hW => ⟨⟨z28, [(a_o, (oc11 a_h a_im a_ke a_k a_wa a_th a_ha a_wk a_r a_x e_tl e_fd e_fpl a_wd e_wn a_rf e_lr)), (a_k, (oc5 a_h a_j a_pt z9 z10 z11 z12 z13 z14 z15 z16 z17 z18)), (a_h, (oc1 e_wa e_le e_st e_fo e_lc a_l a_g a_b a_s a_p a_w e_gb a_bb)), (a_g, (oc6 6 5 a_gn e_g)), (a_gn, (arI G 30 f_g)), (a_b, (oc6 5 24 a_bn e_b)), (a_bn, (arI G 120 f_b)), (a_p, (oc6 8 5 a_pn e_p)), (a_pn, (arI G 40 f_p)), (a_bb, (arJ G 24 f_bb)), (a_j, (oc2 a_as a_sk)), (a_as, (arI G 8 z20)), (a_sk, (arJ G 50 z21)), (a_l, (arW G 6 f_l)), (a_pt, (arI G 200 z19))], rfl, ⟨z28, z9, z10, z11, z12, z13, z14, z15, z16, z17, z18, z19, z20, z21, i_7, rfl, rfl⟩, by rw [ht]; exact hP.sub [0, 1, 2, 3, 4, 5, 6, 7, 8, 9, 10, 11, 12, 13, 14] rfl, hD.sub [0, 1, 2, 3, 4, 5, 6, 7, 8, 9, 10, 11, 12, 13, 14] (by decide +kernel) rfl⟩, hS.F ht⟩) hS.2.2 dX11_lit_44
            ·
              exact absurd c_6 (by decide +kernel)
          ·
            have hJ9 := g5_same hP hk1
            clear hP hPc hDc hFc ht hvm hz1 hk1 hP1 hD1
            have hP := hJ9
            clear hJ9
            refine lv_if_ne (tgt := 23) hx hb dX11_lit_18 (by decide +kernel) (fun c_30 => ?_) (fun c_30 => ?_)
            ·
              exact absurd c_30 (by decide +kernel)
            ·
              refine lv_iconst (v := (-1)) hx hb dX11_lit_21 (by decide +kernel) ?_
              exact W.iret (v := (-1)) hx hb hr (fun t ht hW => ⟨⟨(-1), [(a_o, (oc11 a_h a_im a_ke a_k a_wa a_th a_ha a_wk a_r a_x e_tl e_fd e_fpl a_wd e_wn a_rf e_lr)), (a_k, (oc5 a_h a_j a_pt e_ln e_se e_lh e_br e_we e_me e_ce e_wy e_ho e_ov)), (a_h, (oc1 e_wa e_le e_st e_fo e_lc a_l a_g a_b a_s a_p a_w e_gb a_bb)), (a_g, (oc6 6 5 a_gn e_g)), (a_gn, (arI G 30 f_g)), (a_b, (oc6 5 24 a_bn e_b)), (a_bn, (arI G 120 f_b)), (a_p, (oc6 8 5 a_pn e_p)), (a_pn, (arI G 40 f_p)), (a_bb, (arJ G 24 f_bb)), (a_j, (oc2 a_as a_sk)), (a_as, (arI G 8 f_as)), (a_sk, (arJ G 50 f_sk)), (a_l, (arW G 6 f_l)), (a_pt, (arI G 200 f_pt))], rfl, ⟨(-1), e_ln, e_se, e_lh, e_br, e_we, e_me, e_ce, e_wy, e_ho, e_ov, f_pt, f_as, f_sk, h_e_ov, rfl, rfl⟩, by rw [ht]; exact hP.sub [0, 1, 2, 3, 4, 5, 6, 7, 8, 9, 10, 11, 12, 13, 14] rfl, hD.sub [0, 1, 2, 3, 4, 5, 6, 7, 8, 9, 10, 11, 12, 13, 14] (by decide +kernel) rfl⟩, hS.F ht⟩) hS.2.2 dX11_lit_22
      ·
        have hJ9 := g5_same hP hk1
        clear hP hPc hDc hFc ht hvm hz1 hk1 hP1 hD1
        have hP := hJ9
        clear hJ9
        refine lv_if_eq (tgt := 21) hx hb dX11_lit_11 (by decide +kernel) (fun c_31 => ?_) (fun c_31 => ?_)
        ·
          refine lv_iconst (v := (-1)) hx hb dX11_lit_21 (by decide +kernel) ?_
          exact W.iret (v := (-1)) hx hb hr (fun t ht hW => ⟨⟨(-1), [(a_o, (oc11 a_h a_im a_ke a_k a_wa a_th a_ha a_wk a_r a_x e_tl e_fd e_fpl a_wd e_wn a_rf e_lr)), (a_k, (oc5 a_h a_j a_pt e_ln e_se e_lh e_br e_we e_me e_ce e_wy e_ho e_ov)), (a_h, (oc1 e_wa e_le e_st e_fo e_lc a_l a_g a_b a_s a_p a_w e_gb a_bb)), (a_g, (oc6 6 5 a_gn e_g)), (a_gn, (arI G 30 f_g)), (a_b, (oc6 5 24 a_bn e_b)), (a_bn, (arI G 120 f_b)), (a_p, (oc6 8 5 a_pn e_p)), (a_pn, (arI G 40 f_p)), (a_bb, (arJ G 24 f_bb)), (a_j, (oc2 a_as a_sk)), (a_as, (arI G 8 f_as)), (a_sk, (arJ G 50 f_sk)), (a_l, (arW G 6 f_l)), (a_pt, (arI G 200 f_pt))], rfl, ⟨(-1), e_ln, e_se, e_lh, e_br, e_we, e_me, e_ce, e_wy, e_ho, e_ov, f_pt, f_as, f_sk, h_e_ov, rfl, rfl⟩, by rw [ht]; exact hP.sub [0, 1, 2, 3, 4, 5, 6, 7, 8, 9, 10, 11, 12, 13, 14] rfl, hD.sub [0, 1, 2, 3, 4, 5, 6, 7, 8, 9, 10, 11, 12, 13, 14] (by decide +kernel) rfl⟩, hS.F ht⟩) hS.2.2 dX11_lit_22
        ·
          exact absurd c_31 (by decide +kernel)
  ·
    have hJ9 := g5_same hP hk1
    clear hP hPc hDc hFc ht hvm hz1 hk1 hP1 hD1
    have hP := hJ9
    clear hJ9
    refine lv_if_eq (tgt := 21) hx hb dX11_lit_4 (by decide +kernel) (fun c_32 => ?_) (fun c_32 => ?_)
    ·
      refine lv_iconst (v := (-1)) hx hb dX11_lit_21 (by decide +kernel) ?_
      exact W.iret (v := (-1)) hx hb hr (fun t ht hW => ⟨⟨(-1), [(a_o, (oc11 a_h a_im a_ke a_k a_wa a_th a_ha a_wk a_r a_x e_tl e_fd e_fpl a_wd e_wn a_rf e_lr)), (a_k, (oc5 a_h a_j a_pt e_ln e_se e_lh e_br e_we e_me e_ce e_wy e_ho e_ov)), (a_h, (oc1 e_wa e_le e_st e_fo e_lc a_l a_g a_b a_s a_p a_w e_gb a_bb)), (a_g, (oc6 6 5 a_gn e_g)), (a_gn, (arI G 30 f_g)), (a_b, (oc6 5 24 a_bn e_b)), (a_bn, (arI G 120 f_b)), (a_p, (oc6 8 5 a_pn e_p)), (a_pn, (arI G 40 f_p)), (a_bb, (arJ G 24 f_bb)), (a_j, (oc2 a_as a_sk)), (a_as, (arI G 8 f_as)), (a_sk, (arJ G 50 f_sk)), (a_l, (arW G 6 f_l)), (a_pt, (arI G 200 f_pt))], rfl, ⟨(-1), e_ln, e_se, e_lh, e_br, e_we, e_me, e_ce, e_wy, e_ho, e_ov, f_pt, f_as, f_sk, h_e_ov, rfl, rfl⟩, by rw [ht]; exact hP.sub [0, 1, 2, 3, 4, 5, 6, 7, 8, 9, 10, 11, 12, 13, 14] rfl, hD.sub [0, 1, 2, 3, 4, 5, 6, 7, 8, 9, 10, 11, 12, 13, 14] (by decide +kernel) rfl⟩, hS.F ht⟩) hS.2.2 dX11_lit_22
    ·
      exact absurd c_32 (by decide +kernel)
theorem dgX11_unseen_0 : ∀ r ∈ ([(0, (.iload_n 1, 1)), (1, (.invokestatic 97, 3)), (4, (.ifCond .ne 5, 3)), (7, (.iconst (-1), 1)), (8, (.ireturn, 1)), (9, (.aload_n 0, 1)), (10, (.getfield 38, 3)), (13, (.invokevirtual 254, 3)), (16, (.iconst 0, 1)), (17, (.istore_n 2, 1)), (18, (.iconst 0, 1)), (19, (.istore_n 3, 1)), (20, (.iload_n 3, 1)), (21, (.bipush 24, 2)), (23, (.if_icmp .ge 28, 3)), (26, (.aload_n 0, 1)), (27, (.getfield 38, 3)), (30, (.getfield 257, 3)), (33, (.iload_n 3, 1)), (34, (.laload, 1)), (35, (.iload_n 1, 1)), (36, (.invokestatic 115, 3)), (39, (.ifCond .ne 6, 3)), (42, (.iinc 2 1, 3)), (45, (.iinc 3 1, 3)), (48, (.goto (-28), 3)), (51, (.iload_n 2, 1)), (52, (.ireturn, 1))] : List (Nat × (Instr × Nat))), decode cX11_unseen r.1 = .ok r.2 := by decide +kernel
theorem dX11_unseen_0 : decode cX11_unseen 0 = .ok (.iload_n 1, 1) := dgX11_unseen_0 (0, (.iload_n 1, 1)) (List.mem_of_getElem? (i := 0) rfl)
theorem dX11_unseen_1 : decode cX11_unseen 1 = .ok (.invokestatic 97, 3) := dgX11_unseen_0 (1, (.invokestatic 97, 3)) (List.mem_of_getElem? (i := 1) rfl)
theorem dX11_unseen_4 : decode cX11_unseen 4 = .ok (.ifCond .ne 5, 3) := dgX11_unseen_0 (4, (.ifCond .ne 5, 3)) (List.mem_of_getElem? (i := 2) rfl)
theorem dX11_unseen_7 : decode cX11_unseen 7 = .ok (.iconst (-1), 1) := dgX11_unseen_0 (7, (.iconst (-1), 1)) (List.mem_of_getElem? (i := 3) rfl)
theorem dX11_unseen_8 : decode cX11_unseen 8 = .ok (.ireturn, 1) := dgX11_unseen_0 (8, (.ireturn, 1)) (List.mem_of_getElem? (i := 4) rfl)
theorem dX11_unseen_9 : decode cX11_unseen 9 = .ok (.aload_n 0, 1) := dgX11_unseen_0 (9, (.aload_n 0, 1)) (List.mem_of_getElem? (i := 5) rfl)
theorem dX11_unseen_10 : decode cX11_unseen 10 = .ok (.getfield 38, 3) := dgX11_unseen_0 (10, (.getfield 38, 3)) (List.mem_of_getElem? (i := 6) rfl)
theorem dX11_unseen_13 : decode cX11_unseen 13 = .ok (.invokevirtual 254, 3) := dgX11_unseen_0 (13, (.invokevirtual 254, 3)) (List.mem_of_getElem? (i := 7) rfl)
theorem dX11_unseen_16 : decode cX11_unseen 16 = .ok (.iconst 0, 1) := dgX11_unseen_0 (16, (.iconst 0, 1)) (List.mem_of_getElem? (i := 8) rfl)
theorem dX11_unseen_17 : decode cX11_unseen 17 = .ok (.istore_n 2, 1) := dgX11_unseen_0 (17, (.istore_n 2, 1)) (List.mem_of_getElem? (i := 9) rfl)
theorem dX11_unseen_18 : decode cX11_unseen 18 = .ok (.iconst 0, 1) := dgX11_unseen_0 (18, (.iconst 0, 1)) (List.mem_of_getElem? (i := 10) rfl)
theorem dX11_unseen_19 : decode cX11_unseen 19 = .ok (.istore_n 3, 1) := dgX11_unseen_0 (19, (.istore_n 3, 1)) (List.mem_of_getElem? (i := 11) rfl)
theorem dX11_unseen_20 : decode cX11_unseen 20 = .ok (.iload_n 3, 1) := dgX11_unseen_0 (20, (.iload_n 3, 1)) (List.mem_of_getElem? (i := 12) rfl)
theorem dX11_unseen_21 : decode cX11_unseen 21 = .ok (.bipush 24, 2) := dgX11_unseen_0 (21, (.bipush 24, 2)) (List.mem_of_getElem? (i := 13) rfl)
theorem dX11_unseen_23 : decode cX11_unseen 23 = .ok (.if_icmp .ge 28, 3) := dgX11_unseen_0 (23, (.if_icmp .ge 28, 3)) (List.mem_of_getElem? (i := 14) rfl)
theorem dX11_unseen_26 : decode cX11_unseen 26 = .ok (.aload_n 0, 1) := dgX11_unseen_0 (26, (.aload_n 0, 1)) (List.mem_of_getElem? (i := 15) rfl)
theorem dX11_unseen_27 : decode cX11_unseen 27 = .ok (.getfield 38, 3) := dgX11_unseen_0 (27, (.getfield 38, 3)) (List.mem_of_getElem? (i := 16) rfl)
theorem dX11_unseen_30 : decode cX11_unseen 30 = .ok (.getfield 257, 3) := dgX11_unseen_0 (30, (.getfield 257, 3)) (List.mem_of_getElem? (i := 17) rfl)
theorem dX11_unseen_33 : decode cX11_unseen 33 = .ok (.iload_n 3, 1) := dgX11_unseen_0 (33, (.iload_n 3, 1)) (List.mem_of_getElem? (i := 18) rfl)
theorem dX11_unseen_34 : decode cX11_unseen 34 = .ok (.laload, 1) := dgX11_unseen_0 (34, (.laload, 1)) (List.mem_of_getElem? (i := 19) rfl)
theorem dX11_unseen_35 : decode cX11_unseen 35 = .ok (.iload_n 1, 1) := dgX11_unseen_0 (35, (.iload_n 1, 1)) (List.mem_of_getElem? (i := 20) rfl)
theorem dX11_unseen_36 : decode cX11_unseen 36 = .ok (.invokestatic 115, 3) := dgX11_unseen_0 (36, (.invokestatic 115, 3)) (List.mem_of_getElem? (i := 21) rfl)
theorem dX11_unseen_39 : decode cX11_unseen 39 = .ok (.ifCond .ne 6, 3) := dgX11_unseen_0 (39, (.ifCond .ne 6, 3)) (List.mem_of_getElem? (i := 22) rfl)
theorem dX11_unseen_42 : decode cX11_unseen 42 = .ok (.iinc 2 1, 3) := dgX11_unseen_0 (42, (.iinc 2 1, 3)) (List.mem_of_getElem? (i := 23) rfl)
theorem dX11_unseen_45 : decode cX11_unseen 45 = .ok (.iinc 3 1, 3) := dgX11_unseen_0 (45, (.iinc 3 1, 3)) (List.mem_of_getElem? (i := 24) rfl)
theorem dX11_unseen_48 : decode cX11_unseen 48 = .ok (.goto (-28), 3) := dgX11_unseen_0 (48, (.goto (-28), 3)) (List.mem_of_getElem? (i := 25) rfl)
theorem dX11_unseen_51 : decode cX11_unseen 51 = .ok (.iload_n 2, 1) := dgX11_unseen_0 (51, (.iload_n 2, 1)) (List.mem_of_getElem? (i := 26) rfl)
theorem dX11_unseen_52 : decode cX11_unseen 52 = .ok (.ireturn, 1) := dgX11_unseen_0 (52, (.ireturn, 1)) (List.mem_of_getElem? (i := 27) rfl)
theorem fl_X11_38 : Cond.fieldLink RX11 38 "LateGlass" "watch" "LLateGlass$Watch;" ∈ tblG := tg 448 (by decide +kernel) (by decide +kernel)
theorem ml_X11_254 : Cond.methodLink RX11 254 yX10_lookAround ∈ tblG := tg 913 (by decide +kernel) (by decide +kernel)
theorem im_X10_lookAround : Cond.instanceMethod yX10_lookAround ∈ tblG := tg 914 (by decide +kernel) (by decide +kernel)
theorem se_X10_lookAround : Cond.selects RX10 yX10_lookAround yX10_lookAround ∈ tblG := tg 915 (by decide +kernel) (by decide +kernel)
theorem cd_X10_lookAround : Cond.code yX10_lookAround cX10_lookAround 5 none ∈ tblG := tg 916 (by decide +kernel) (by decide +kernel)
theorem gW_X10_lookAround : GoodIn tblG (wsG yX10_lookAround cX10_lookAround 5 none) := tgi cd_X10_lookAround
theorem gV_X11_254 : GoodIn tblG (wsV RX11 254 RX10 yX10_lookAround (wsG yX10_lookAround cX10_lookAround 5 none)) := tgV ml_X11_254 im_X10_lookAround se_X10_lookAround ini_X10 gW_X10_lookAround
theorem hv_X10_lookAround : yX10_lookAround.cls = RX10 ∧ yX10_lookAround.cls ≠ "java/lang/invoke/MethodHandle" ∧ yX10_lookAround.cls ≠ "java/lang/invoke/VarHandle" ∧ (parseMethodDescriptor yX10_lookAround.desc).map (fun d => d.parameters.length) = some 0 := by decide +kernel
theorem fl_X11_257 : Cond.fieldLink RX11 257 "LateGlass$Watch" "boards" "[J" ∈ tblG := tg 303 (by decide +kernel) (by decide +kernel)
set_option maxHeartbeats 4000000 in
set_option maxRecDepth 100000 in
theorem x_unseenN (l : Launch) (G : g5_G) (a_o a_k a_h a_g a_gn a_b a_bn a_p a_pn a_bb a_j a_as a_sk a_l a_pt a_wa a_bo a_im a_ke a_th a_ha a_wk a_r a_x a_wd a_rf a_s a_w : Nat) (sz : Nat) (e_tl : Int32) (e_fd : Int32) (e_fpl : Int32) (e_wn : Int32) (e_lr : Int32) (e_le : Int32) (e_st : Int32) (e_fo : Int32) (e_lc : Int32) (e_g : Int32) (e_b : Int32) (e_p : Int32) (e_ln : Int32) (e_se : Int32) (e_lh : Int32) (e_br : Int32) (e_we : Int32) (e_me : Int32) (e_ce : Int32) (e_wy : Int32) (e_ho : Int32) (e_ov : Int32) (p_c : Int32) (e_wa : Int64) (e_gb : Int64) (f_g : Nat → Int32) (f_b : Nat → Int32) (f_p : Nat → Int32) (f_bb : Nat → Int64) (f_as : Nat → Int32) (f_sk : Nat → Int64) (f_l : Nat → Option Nat) (f_pt : Nat → Int32) (f_bo : Nat → Int64) (h_e_tl : 0 ≤ e_tl.toInt ∧ e_tl.toInt ≤ 400) (h_e_wn : 0 ≤ e_wn.toInt ∧ e_wn.toInt ≤ 1) (h_e_g : 0 ≤ e_g.toInt ∧ e_g.toInt ≤ 6) (h_e_b : 0 ≤ e_b.toInt ∧ e_b.toInt ≤ 5) (h_e_p : 0 ≤ e_p.toInt ∧ e_p.toInt ≤ 8) (h_e_ov : 0 ≤ e_ov.toInt ∧ e_ov.toInt ≤ 1) (e_gk : gOK f_g e_g.toInt) (e_pk : gOK f_p e_p.toInt) (e_gi : inT e_gb f_g e_g.toInt) (e_f : e_fo.toInt < 0 ∨ e_lc.toInt ≤ e_fo.toInt) : Met l yX11_unseen (wsG yX11_unseen cX11_unseen 4 (some .int)) ({ frames := 15, cells := 0, slots := 0, locals := 580 }) (va_Pc [.ref a_o, .int p_c] (g5_P G [(a_o, (oc11 a_h a_im a_ke a_k a_wa a_th a_ha a_wk a_r a_x e_tl e_fd e_fpl a_wd e_wn a_rf e_lr)), (a_k, (oc5 a_h a_j a_pt e_ln e_se e_lh e_br e_we e_me e_ce e_wy e_ho e_ov)), (a_h, (oc1 e_wa e_le e_st e_fo e_lc a_l a_g a_b a_s a_p a_w e_gb a_bb)), (a_g, (oc6 6 5 a_gn e_g)), (a_gn, (arI G 30 f_g)), (a_b, (oc6 5 24 a_bn e_b)), (a_bn, (arI G 120 f_b)), (a_p, (oc6 8 5 a_pn e_p)), (a_pn, (arI G 40 f_p)), (a_bb, (arJ G 24 f_bb)), (a_j, (oc2 a_as a_sk)), (a_as, (arI G 8 f_as)), (a_sk, (arJ G 50 f_sk)), (a_l, (arW G 6 f_l)), (a_pt, (arI G 200 f_pt)), (a_wa, (oc10 a_h a_k a_bo)), (a_bo, (arJ G 24 f_bo))] sz)) (va_Qi (fun (r : Int32) (u : va_W) => (∃ (o_r : Int32) (o_ln : Int32) (o_se : Int32) (o_lh : Int32) (o_br : Int32) (o_we : Int32) (o_me : Int32) (o_ce : Int32) (o_wy : Int32) (o_ho : Int32) (o_ov : Int32) (o_pt : Nat → Int32) (o_as : Nat → Int32) (o_sk : Nat → Int64) (o_bo : Nat → Int64), (0 ≤ o_ov.toInt ∧ o_ov.toInt ≤ 1) ∧ (r = o_r) ∧ (u = [(a_o, (oc11 a_h a_im a_ke a_k a_wa a_th a_ha a_wk a_r a_x e_tl e_fd e_fpl a_wd e_wn a_rf e_lr)), (a_k, (oc5 a_h a_j a_pt o_ln o_se o_lh o_br o_we o_me o_ce o_wy o_ho o_ov)), (a_h, (oc1 e_wa e_le e_st e_fo e_lc a_l a_g a_b a_s a_p a_w e_gb a_bb)), (a_g, (oc6 6 5 a_gn e_g)), (a_gn, (arI G 30 f_g)), (a_b, (oc6 5 24 a_bn e_b)), (a_bn, (arI G 120 f_b)), (a_p, (oc6 8 5 a_pn e_p)), (a_pn, (arI G 40 f_p)), (a_bb, (arJ G 24 f_bb)), (a_j, (oc2 a_as a_sk)), (a_as, (arI G 8 o_as)), (a_sk, (arJ G 50 o_sk)), (a_l, (arW G 6 f_l)), (a_pt, (arI G 200 o_pt)), (a_wa, (oc10 a_h a_k a_bo)), (a_bo, (arJ G 24 o_bo))]))) (g5_B G (va_A [(a_o, (oc11 a_h a_im a_ke a_k a_wa a_th a_ha a_wk a_r a_x e_tl e_fd e_fpl a_wd e_wn a_rf e_lr)), (a_k, (oc5 a_h a_j a_pt e_ln e_se e_lh e_br e_we e_me e_ce e_wy e_ho e_ov)), (a_h, (oc1 e_wa e_le e_st e_fo e_lc a_l a_g a_b a_s a_p a_w e_gb a_bb)), (a_g, (oc6 6 5 a_gn e_g)), (a_gn, (arI G 30 f_g)), (a_b, (oc6 5 24 a_bn e_b)), (a_bn, (arI G 120 f_b)), (a_p, (oc6 8 5 a_pn e_p)), (a_pn, (arI G 40 f_p)), (a_bb, (arJ G 24 f_bb)), (a_j, (oc2 a_as a_sk)), (a_as, (arI G 8 f_as)), (a_sk, (arJ G 50 f_sk)), (a_l, (arW G 6 f_l)), (a_pt, (arI G 200 f_pt)), (a_wa, (oc10 a_h a_k a_bo)), (a_bo, (arJ G 24 f_bo))] sz)) (va_A [(a_o, (oc11 a_h a_im a_ke a_k a_wa a_th a_ha a_wk a_r a_x e_tl e_fd e_fpl a_wd e_wn a_rf e_lr)), (a_k, (oc5 a_h a_j a_pt e_ln e_se e_lh e_br e_we e_me e_ce e_wy e_ho e_ov)), (a_h, (oc1 e_wa e_le e_st e_fo e_lc a_l a_g a_b a_s a_p a_w e_gb a_bb)), (a_g, (oc6 6 5 a_gn e_g)), (a_gn, (arI G 30 f_g)), (a_b, (oc6 5 24 a_bn e_b)), (a_bn, (arI G 120 f_b)), (a_p, (oc6 8 5 a_pn e_p)), (a_pn, (arI G 40 f_p)), (a_bb, (arJ G 24 f_bb)), (a_j, (oc2 a_as a_sk)), (a_as, (arI G 8 f_as)), (a_sk, (arJ G 50 f_sk)), (a_l, (arW G 6 f_l)), (a_pt, (arI G 200 f_pt)), (a_wa, (oc10 a_h a_k a_bo)), (a_bo, (arJ G 24 f_bo))] sz)) 0 0 (va_A [(a_o, (oc11 a_h a_im a_ke a_k a_wa a_th a_ha a_wk a_r a_x e_tl e_fd e_fpl a_wd e_wn a_rf e_lr)), (a_k, (oc5 a_h a_j a_pt e_ln e_se e_lh e_br e_we e_me e_ce e_wy e_ho e_ov)), (a_h, (oc1 e_wa e_le e_st e_fo e_lc a_l a_g a_b a_s a_p a_w e_gb a_bb)), (a_g, (oc6 6 5 a_gn e_g)), (a_gn, (arI G 30 f_g)), (a_b, (oc6 5 24 a_bn e_b)), (a_bn, (arI G 120 f_b)), (a_p, (oc6 8 5 a_pn e_p)), (a_pn, (arI G 40 f_p)), (a_bb, (arJ G 24 f_bb)), (a_j, (oc2 a_as a_sk)), (a_as, (arI G 8 f_as)), (a_sk, (arJ G 50 f_sk)), (a_l, (arW G 6 f_l)), (a_pt, (arI G 200 f_pt)), (a_wa, (oc10 a_h a_k a_bo)), (a_bo, (arJ G 24 f_bo))] sz) := by
  refine Met.ofW (cc := cX11_unseen) (maxL := 4) (ret := (some .int)) (by decide +kernel) rfl ?_
  intro p e s m args below meth c s₁ B hml hv
  obtain ⟨rfl, hsz, hP, hK, hD0, hN, hT⟩ := hv
  have hx := B.exec
  have hb := B.bytes
  have hr := B.returns
  have hts : ∀ w ∈ tblG, w.before _ s = true := fun w h => atoms_spec (ws := (wsG yX11_unseen cX11_unseen 4 (some .int))) B.pre w (List.mem_cons_of_mem _ h)
  have hown : s.vm.findClass RX11 = some m.cls := findClass_of_methodNamed B.named
  have hlocks := B.notSynchronized
  subst hsz
  have hD := hD0.self (sz := s.heap.size)
  generalize hAe : va_A [(a_o, (oc11 a_h a_im a_ke a_k a_wa a_th a_ha a_wk a_r a_x e_tl e_fd e_fpl a_wd e_wn a_rf e_lr)), (a_k, (oc5 a_h a_j a_pt e_ln e_se e_lh e_br e_we e_me e_ce e_wy e_ho e_ov)), (a_h, (oc1 e_wa e_le e_st e_fo e_lc a_l a_g a_b a_s a_p a_w e_gb a_bb)), (a_g, (oc6 6 5 a_gn e_g)), (a_gn, (arI G 30 f_g)), (a_b, (oc6 5 24 a_bn e_b)), (a_bn, (arI G 120 f_b)), (a_p, (oc6 8 5 a_pn e_p)), (a_pn, (arI G 40 f_p)), (a_bb, (arJ G 24 f_bb)), (a_j, (oc2 a_as a_sk)), (a_as, (arI G 8 f_as)), (a_sk, (arJ G 50 f_sk)), (a_l, (arW G 6 f_l)), (a_pt, (arI G 200 f_pt)), (a_wa, (oc10 a_h a_k a_bo)), (a_bo, (arJ G 24 f_bo))] s.heap.size = A at hD hT ⊢
  have hA : ∀ q : Nat, s.heap.size ≤ q → A q := fun q h => by rw [← hAe]; exact Or.inr h
  have hS : va_S A s.heap s.heap [] := va_S.rf
  replace hP : va_P G.1 vwCl [(a_o, (oc11 a_h a_im a_ke a_k a_wa a_th a_ha a_wk a_r a_x e_tl e_fd e_fpl a_wd e_wn a_rf e_lr)), (a_k, (oc5 a_h a_j a_pt e_ln e_se e_lh e_br e_we e_me e_ce e_wy e_ho e_ov)), (a_h, (oc1 e_wa e_le e_st e_fo e_lc a_l a_g a_b a_s a_p a_w e_gb a_bb)), (a_g, (oc6 6 5 a_gn e_g)), (a_gn, (arI G 30 f_g)), (a_b, (oc6 5 24 a_bn e_b)), (a_bn, (arI G 120 f_b)), (a_p, (oc6 8 5 a_pn e_p)), (a_pn, (arI G 40 f_p)), (a_bb, (arJ G 24 f_bb)), (a_j, (oc2 a_as a_sk)), (a_as, (arI G 8 f_as)), (a_sk, (arJ G 50 f_sk)), (a_l, (arW G 6 f_l)), (a_pt, (arI G 200 f_pt)), (a_wa, (oc10 a_h a_k a_bo)), (a_bo, (arJ G 24 f_bo))] s.heap := hP
  have hl := lv_entry ([.ref a_o, .int p_c]) (n := 4) (Nat.le_of_ble_eq_true rfl)
  rw [lg_entry_eq]
  generalize (lg_sl ([.ref a_o, .int p_c]) ++ List.replicate (4 - (lg_sl ([.ref a_o, .int p_c])).length) Slot.unset).toArray = ls at hl ⊢
  replace hl : lv_has ls 4 [(0, .ref a_o), (1, .int p_c)] := hl
  refine lv_iload_n hx hb dX11_unseen_0 rfl (lv_at hl 1 rfl) ?_
  obtain ⟨hPc, hDc, hFc⟩ := g5_sub3 (wc := []) hP hD hS hA [] (by decide +kernel) rfl
  refine va_calli (va_runS (As := [.int p_c]) (rest := []) ⟨hx, hb, hml, hown, hts⟩ (x_isCell l G s.heap.size p_c) (va_cwS 1 hts gS_X11_97 rfl rfl rfl hs_X11_isCell ⟨Nat.le_of_ble_eq_true rfl, Nat.le_of_ble_eq_true rfl⟩) (g5_preS hPc hK hDc hN hT hS hFc) rfl rfl hl.1 rfl (lv_room (Nat.le_of_ble_eq_true rfl)) dX11_unseen_1 ⟨Nat.le_of_ble_eq_true rfl, Nat.le_of_ble_eq_true rfl⟩) hS (fun q _ h => hFc q h) hFc (fun r u t H locs ht hvm hw hB hz1 hk1 hS => ?_)
  obtain ⟨hP1, hD1⟩ := hB
  have hP1 := g5_ht ht hP1
  rcases hw with ⟨(i_1 : 0 ≤ p_c.toInt ∧ p_c.toInt ≤ 63), rfl, rfl⟩ | ⟨rfl, rfl⟩
  ·
    have hJ9 := g5_same hP hk1
    clear hP hPc hDc hFc ht hvm hz1 hk1 hP1 hD1
    have hP := hJ9
    clear hJ9
    refine lv_if_ne (tgt := 9) hx hb dX11_unseen_4 (by decide +kernel) (fun c_2 => ?_) (fun c_2 => ?_)
    ·
      refine lv_aload_n hx hb dX11_unseen_9 rfl (lv_at hl 0 rfl) ?_
      refine va_get (D := G.1) (ci := 11) (v := .ref a_wa) (C := RX11) (T := TX11) (N := 17) hx hb hts inG_X11 hown hK hP 0 rfl rfl 4 (by decide +kernel) (hts _ fl_X11_38) (fun _ h9 => h9) rfl dX11_unseen_10 ?_
      obtain ⟨hPc, hDc, hFc⟩ := g5_sub3 (wc := [(a_k, (oc5 a_h a_j a_pt e_ln e_se e_lh e_br e_we e_me e_ce e_wy e_ho e_ov)), (a_h, (oc1 e_wa e_le e_st e_fo e_lc a_l a_g a_b a_s a_p a_w e_gb a_bb)), (a_g, (oc6 6 5 a_gn e_g)), (a_gn, (arI G 30 f_g)), (a_b, (oc6 5 24 a_bn e_b)), (a_bn, (arI G 120 f_b)), (a_p, (oc6 8 5 a_pn e_p)), (a_pn, (arI G 40 f_p)), (a_bb, (arJ G 24 f_bb)), (a_j, (oc2 a_as a_sk)), (a_as, (arI G 8 f_as)), (a_sk, (arJ G 50 f_sk)), (a_l, (arW G 6 f_l)), (a_pt, (arI G 200 f_pt)), (a_wa, (oc10 a_h a_k a_bo)), (a_bo, (arJ G 24 f_bo))]) hP hD hS hA [1, 2, 3, 4, 5, 6, 7, 8, 9, 10, 11, 12, 13, 14, 15, 16] (by decide +kernel) rfl
      refine va_callv (va_runV (As := []) (rest := []) ⟨hx, hb, hml, hown, hts⟩ (w_lookAroundN l G a_k a_h a_g a_gn a_b a_bn a_p a_pn a_bb a_j a_as a_sk a_l a_pt a_wa a_bo a_s a_w H.size e_le e_st e_fo e_lc e_g e_b e_p e_ln e_se e_lh e_br e_we e_me e_ce e_wy e_ho e_ov e_wa e_gb f_g f_b f_p f_bb f_as f_sk f_l f_pt f_bo h_e_g h_e_b h_e_p h_e_ov (e_gk) (e_pk) (e_gi) (e_f)) (cwV 0 hts gV_X11_254 rfl rfl rfl hv_X10_lookAround ⟨Nat.le_of_ble_eq_true rfl, Nat.le_of_ble_eq_true rfl⟩) (g5_preV hPc hK hDc hN hT hS hFc (ci := 10) (q0 := 14) rfl rfl) rfl rfl hl.1 rfl (lv_room (Nat.le_of_ble_eq_true rfl)) dX11_unseen_13 ⟨Nat.le_of_ble_eq_true rfl, Nat.le_of_ble_eq_true rfl⟩) hS (fun q _ h => hFc q h) hFc (fun u t H locs ht hvm hw hB hz1 hk1 hS => ?_)
      obtain ⟨hP1, hD1⟩ := hB
      have hP1 := g5_ht ht hP1
      obtain ⟨z4, z5, z6, z7, z8, z9, z10, z11, z12, z13, z14, z15, z16, z17, (i_3 : 0 ≤ z13.toInt ∧ z13.toInt ≤ 1), rfl⟩ := hw
      have hJ9 := va_join (wr := [(a_o, (oc11 a_h a_im a_ke a_k a_wa a_th a_ha a_wk a_r a_x e_tl e_fd e_fpl a_wd e_wn a_rf e_lr))]) hP hD [1, 2, 3, 4, 5, 6, 7, 8, 9, 10, 11, 12, 13, 14, 15, 16] [0] rfl rfl (by decide +kernel) (by decide +kernel) hk1 hFc hP1 hD1
      clear hP hD hPc hDc hFc ht hvm hz1 hk1 hP1 hD1
      obtain ⟨hP, hD⟩ := hJ9
      refine g5_rs [(a_o, (oc11 a_h a_im a_ke a_k a_wa a_th a_ha a_wk a_r a_x e_tl e_fd e_fpl a_wd e_wn a_rf e_lr)), (a_k, (oc5 a_h a_j a_pt z4 z5 z6 z7 z8 z9 z10 z11 z12 z13)), (a_h, (oc1 e_wa e_le e_st e_fo e_lc a_l a_g a_b a_s a_p a_w e_gb a_bb)), (a_g, (oc6 6 5 a_gn e_g)), (a_gn, (arI G 30 f_g)), (a_b, (oc6 5 24 a_bn e_b)), (a_bn, (arI G 120 f_b)), (a_p, (oc6 8 5 a_pn e_p)), (a_pn, (arI G 40 f_p)), (a_bb, (arJ G 24 f_bb)), (a_j, (oc2 a_as a_sk)), (a_as, (arI G 8 z15)), (a_sk, (arJ G 50 z16)), (a_l, (arW G 6 f_l)), (a_pt, (arI G 200 z14)), (a_wa, (oc10 a_h a_k a_bo)), (a_bo, (arJ G 24 z17))] hP hD ?_
      clear hP hD
      intro hP hD
      refine lv_iconst (v := 0) hx hb dX11_unseen_16 (by decide +kernel) ?_
      refine W.eq (g2 := F0 m 17 ls [.int 0]) rfl ?_
      refine lv_istore_n (lv' := [(2, .int 0), (0, .ref a_o), (1, .int p_c)]) hx hb dX11_unseen_17 rfl hl (by decide +kernel) rfl ?_
      clear hl
      intro ls hl
      refine lv_iconst (v := 0) hx hb dX11_unseen_18 (by decide +kernel) ?_
      refine lv_istore_n (lv' := [(3, .int 0), (2, .int 0), (0, .ref a_o), (1, .int p_c)]) hx hb dX11_unseen_19 rfl hl (by decide +kernel) rfl ?_
      clear hl
      intro ls hl
      refine g5_loop (α := (Int32) × (Int32)) (fun (q : (Int32) × (Int32)) (ls : Array Slot) (H : Heap) (locs : List Loc) => match q with | (k_i, k_n) => lv_has ls 4 [(2, .int k_n), (3, .int k_i), (0, .ref a_o), (1, .int p_c)] ∧ va_P G.1 vwCl [(a_o, (oc11 a_h a_im a_ke a_k a_wa a_th a_ha a_wk a_r a_x e_tl e_fd e_fpl a_wd e_wn a_rf e_lr)), (a_k, (oc5 a_h a_j a_pt z4 z5 z6 z7 z8 z9 z10 z11 z12 z13)), (a_h, (oc1 e_wa e_le e_st e_fo e_lc a_l a_g a_b a_s a_p a_w e_gb a_bb)), (a_g, (oc6 6 5 a_gn e_g)), (a_gn, (arI G 30 f_g)), (a_b, (oc6 5 24 a_bn e_b)), (a_bn, (arI G 120 f_b)), (a_p, (oc6 8 5 a_pn e_p)), (a_pn, (arI G 40 f_p)), (a_bb, (arJ G 24 f_bb)), (a_j, (oc2 a_as a_sk)), (a_as, (arI G 8 z15)), (a_sk, (arJ G 50 z16)), (a_l, (arW G 6 f_l)), (a_pt, (arI G 200 z14)), (a_wa, (oc10 a_h a_k a_bo)), (a_bo, (arJ G 24 z17))] H ∧ va_D A [(a_o, (oc11 a_h a_im a_ke a_k a_wa a_th a_ha a_wk a_r a_x e_tl e_fd e_fpl a_wd e_wn a_rf e_lr)), (a_k, (oc5 a_h a_j a_pt z4 z5 z6 z7 z8 z9 z10 z11 z12 z13)), (a_h, (oc1 e_wa e_le e_st e_fo e_lc a_l a_g a_b a_s a_p a_w e_gb a_bb)), (a_g, (oc6 6 5 a_gn e_g)), (a_gn, (arI G 30 f_g)), (a_b, (oc6 5 24 a_bn e_b)), (a_bn, (arI G 120 f_b)), (a_p, (oc6 8 5 a_pn e_p)), (a_pn, (arI G 40 f_p)), (a_bb, (arJ G 24 f_bb)), (a_j, (oc2 a_as a_sk)), (a_as, (arI G 8 z15)), (a_sk, (arJ G 50 z16)), (a_l, (arW G 6 f_l)), (a_pt, (arI G 200 z14)), (a_wa, (oc10 a_h a_k a_bo)), (a_bo, (arJ G 24 z17))] ∧ va_S A s.heap H locs ∧ (0 ≤ k_i.toInt ∧ k_i.toInt ≤ 24)) (fun (q : (Int32) × (Int32)) => match q with | (k_i, k_n) => Int.toNat (24 - k_i.toInt)) (0, 0) ⟨lv_sub hl [1, 0, 2, 3] rfl, hP, hD, hS, ⟨by decide, by decide⟩⟩ ?_
      rintro ⟨k_i, k_n⟩ ls H locs ⟨hl, hP, hD, hS, (i_18 : 0 ≤ k_i.toInt ∧ k_i.toInt ≤ 24)⟩ ih_20_19
      replace hl : lv_has ls 4 [(2, .int k_n), (3, .int k_i), (0, .ref a_o), (1, .int p_c)] := hl
      refine g5_rs [(a_o, (oc11 a_h a_im a_ke a_k a_wa a_th a_ha a_wk a_r a_x e_tl e_fd e_fpl a_wd e_wn a_rf e_lr)), (a_k, (oc5 a_h a_j a_pt z4 z5 z6 z7 z8 z9 z10 z11 z12 z13)), (a_h, (oc1 e_wa e_le e_st e_fo e_lc a_l a_g a_b a_s a_p a_w e_gb a_bb)), (a_g, (oc6 6 5 a_gn e_g)), (a_gn, (arI G 30 f_g)), (a_b, (oc6 5 24 a_bn e_b)), (a_bn, (arI G 120 f_b)), (a_p, (oc6 8 5 a_pn e_p)), (a_pn, (arI G 40 f_p)), (a_bb, (arJ G 24 f_bb)), (a_j, (oc2 a_as a_sk)), (a_as, (arI G 8 z15)), (a_sk, (arJ G 50 z16)), (a_l, (arW G 6 f_l)), (a_pt, (arI G 200 z14)), (a_wa, (oc10 a_h a_k a_bo)), (a_bo, (arJ G 24 z17))] hP hD ?_
      clear hP hD
      intro hP hD
      refine lv_iload_n hx hb dX11_unseen_20 rfl (lv_at hl 1 rfl) ?_
      refine lv_bipush (v := 24) hx hb dX11_unseen_21 (by decide +kernel) ?_
      refine lv_icmp_ge (tgt := 51) hx hb dX11_unseen_23 (by decide +kernel) (fun c_20 => ?_) (fun c_20 => ?_)
      ·
        have i_20 : k_i.toInt ≥ 24 := g5_ge (a := k_i.toInt) (b := 24) rfl (by decide +kernel) c_20
        refine lv_iload_n hx hb dX11_unseen_51 rfl (lv_at hl 0 rfl) ?_
        exact W.iret (v := k_n) hx hb hr (fun t ht hW => ⟨⟨k_n, [(a_o, (oc11 a_h a_im a_ke a_k a_wa a_th a_ha a_wk a_r a_x e_tl e_fd e_fpl a_wd e_wn a_rf e_lr)), (a_k, (oc5 a_h a_j a_pt z4 z5 z6 z7 z8 z9 z10 z11 z12 z13)), (a_h, (oc1 e_wa e_le e_st e_fo e_lc a_l a_g a_b a_s a_p a_w e_gb a_bb)), (a_g, (oc6 6 5 a_gn e_g)), (a_gn, (arI G 30 f_g)), (a_b, (oc6 5 24 a_bn e_b)), (a_bn, (arI G 120 f_b)), (a_p, (oc6 8 5 a_pn e_p)), (a_pn, (arI G 40 f_p)), (a_bb, (arJ G 24 f_bb)), (a_j, (oc2 a_as a_sk)), (a_as, (arI G 8 z15)), (a_sk, (arJ G 50 z16)), (a_l, (arW G 6 f_l)), (a_pt, (arI G 200 z14)), (a_wa, (oc10 a_h a_k a_bo)), (a_bo, (arJ G 24 z17))], rfl, ⟨k_n, z4, z5, z6, z7, z8, z9, z10, z11, z12, z13, z14, z15, z16, z17, i_3, rfl, rfl⟩, by rw [ht]; exact hP.sub [0, 1, 2, 3, 4, 5, 6, 7, 8, 9, 10, 11, 12, 13, 14, 15, 16] rfl, hD.sub [0, 1, 2, 3, 4, 5, 6, 7, 8, 9, 10, 11, 12, 13, 14, 15, 16] (by decide +kernel) rfl⟩, hS.F ht⟩) hS.2.2 dX11_unseen_52
      ·
        have i_20 : k_i.toInt < 24 := g5_geN (a := k_i.toInt) (b := 24) rfl (by decide +kernel) c_20
        refine lv_aload_n hx hb dX11_unseen_26 rfl (lv_at hl 2 rfl) ?_
        refine va_get (D := G.1) (ci := 11) (v := .ref a_wa) (C := RX11) (T := TX11) (N := 17) hx hb hts inG_X11 hown hK hP 0 rfl rfl 4 (by decide +kernel) (hts _ fl_X11_38) (fun _ h9 => h9) rfl dX11_unseen_27 ?_
        refine va_get (D := G.1) (ci := 10) (v := .ref a_bo) (C := RX10) (T := TX10) (N := 3) hx hb hts inG_X10 hown hK hP 15 rfl rfl 2 (by decide +kernel) (hts _ fl_X11_257) (fun _ h9 => h9) rfl dX11_unseen_30 ?_
        refine lv_iload_n hx hb dX11_unseen_33 rfl (lv_at hl 1 rfl) ?_
        refine W.eq (g2 := F0 m 34 ls [.int k_i, .ref a_bo]) rfl ?_
        refine va_lald hx hb hK hP 16 1 rfl rfl (i := k_i) (vp_in_iff.mpr ⟨by omega, by omega⟩) dX11_unseen_34 ?_
        refine lv_iload_n hx hb dX11_unseen_35 rfl (lv_at hl 3 rfl) ?_
        obtain ⟨hPc, hDc, hFc⟩ := g5_sub3 (wc := []) hP hD hS hA [] (by decide +kernel) rfl
        refine va_calli (va_runS (As := [.long (z17 k_i.toNatClampNeg), .int p_c]) (rest := []) ⟨hx, hb, hml, hown, hts⟩ (k_isOn l G H.size p_c (z17 k_i.toNatClampNeg) i_1) (va_cwS 2 hts gS_X11_115 rfl rfl rfl hs_X11_isOn ⟨Nat.le_of_ble_eq_true rfl, Nat.le_of_ble_eq_true rfl⟩) (g5_preS hPc hK hDc hN hT hS hFc) rfl rfl hl.1 rfl (lv_room (Nat.le_of_ble_eq_true rfl)) dX11_unseen_36 ⟨Nat.le_of_ble_eq_true rfl, Nat.le_of_ble_eq_true rfl⟩) hS (fun q _ h => hFc q h) hFc (fun r u t H locs ht hvm hw hB hz1 hk1 hS => ?_)
        obtain ⟨hP1, hD1⟩ := hB
        have hP1 := g5_ht ht hP1
        rcases hw with ⟨(i_21 : onB (z17 k_i.toNatClampNeg) p_c.toInt = false), rfl, rfl⟩ | ⟨(i_22 : onB (z17 k_i.toNatClampNeg) p_c.toInt = true), rfl, rfl⟩
        ·
          have hJ9 := g5_same hP hk1
          clear hP hPc hDc hFc ht hvm hz1 hk1 hP1 hD1
          have hP := hJ9
          clear hJ9
          refine lv_if_ne (tgt := 45) hx hb dX11_unseen_39 (by decide +kernel) (fun c_23 => ?_) (fun c_23 => ?_)
          ·
            exact absurd c_23 (by decide +kernel)
          ·
            refine lv_iinc (v := (k_n + 1)) (lv' := [(2, .int (k_n + 1)), (3, .int k_i), (0, .ref a_o), (1, .int p_c)]) hx hb dX11_unseen_42 hl (k := 0) rfl rfl (by decide +kernel) rfl ?_
            clear hl
            intro ls hl
            refine lv_iinc (v := (k_i + 1)) (lv' := [(3, .int (k_i + 1)), (2, .int (k_n + 1)), (0, .ref a_o), (1, .int p_c)]) hx hb dX11_unseen_45 hl (k := 1) rfl rfl (by decide +kernel) rfl ?_
            clear hl
            intro ls hl
            have t_24 : (k_i + 1).toInt = k_i.toInt + 1 := g5_iadd (a := k_i.toInt) (b := 1) rfl (by decide +kernel) (by omega) (by omega)
            refine lv_goto (tgt := 20) hx hb dX11_unseen_48 (by decide +kernel) ?_
            exact ih_20_19 ((k_i + 1), (k_n + 1)) ls H locs (show Int.toNat (24 - (k_i + 1).toInt) < Int.toNat (24 - k_i.toInt) from g_up (show k_i.toInt < (k_i + 1).toInt by omega) (show k_i.toInt < 24 by omega)) ⟨lv_sub hl [1, 0, 2, 3] rfl, hP, hD, hS, ⟨by omega, by omega⟩⟩
        ·
          have hJ9 := g5_same hP hk1
          clear hP hPc hDc hFc ht hvm hz1 hk1 hP1 hD1
          have hP := hJ9
          clear hJ9
          refine lv_if_ne (tgt := 45) hx hb dX11_unseen_39 (by decide +kernel) (fun c_25 => ?_) (fun c_25 => ?_)
          ·
            refine lv_iinc (v := (k_i + 1)) (lv' := [(3, .int (k_i + 1)), (2, .int k_n), (0, .ref a_o), (1, .int p_c)]) hx hb dX11_unseen_45 hl (k := 1) rfl rfl (by decide +kernel) rfl ?_
            clear hl
            intro ls hl
            have t_26 : (k_i + 1).toInt = k_i.toInt + 1 := g5_iadd (a := k_i.toInt) (b := 1) rfl (by decide +kernel) (by omega) (by omega)
            refine lv_goto (tgt := 20) hx hb dX11_unseen_48 (by decide +kernel) ?_
            exact ih_20_19 ((k_i + 1), k_n) ls H locs (show Int.toNat (24 - (k_i + 1).toInt) < Int.toNat (24 - k_i.toInt) from g_up (show k_i.toInt < (k_i + 1).toInt by omega) (show k_i.toInt < 24 by omega)) ⟨lv_sub hl [1, 0, 2, 3] rfl, hP, hD, hS, ⟨by omega, by omega⟩⟩
          ·
            exact absurd c_25 (by decide +kernel)
    ·
      exact absurd c_2 (by decide +kernel)
  ·
    have hJ9 := g5_same hP hk1
    clear hP hPc hDc hFc ht hvm hz1 hk1 hP1 hD1
    have hP := hJ9
    clear hJ9
    refine lv_if_ne (tgt := 9) hx hb dX11_unseen_4 (by decide +kernel) (fun c_27 => ?_) (fun c_27 => ?_)
    ·
      exact absurd c_27 (by decide +kernel)
    ·
      refine lv_iconst (v := (-1)) hx hb dX11_unseen_7 (by decide +kernel) ?_
      exact W.iret (v := (-1)) hx hb hr (fun t ht hW => ⟨⟨(-1), [(a_o, (oc11 a_h a_im a_ke a_k a_wa a_th a_ha a_wk a_r a_x e_tl e_fd e_fpl a_wd e_wn a_rf e_lr)), (a_k, (oc5 a_h a_j a_pt e_ln e_se e_lh e_br e_we e_me e_ce e_wy e_ho e_ov)), (a_h, (oc1 e_wa e_le e_st e_fo e_lc a_l a_g a_b a_s a_p a_w e_gb a_bb)), (a_g, (oc6 6 5 a_gn e_g)), (a_gn, (arI G 30 f_g)), (a_b, (oc6 5 24 a_bn e_b)), (a_bn, (arI G 120 f_b)), (a_p, (oc6 8 5 a_pn e_p)), (a_pn, (arI G 40 f_p)), (a_bb, (arJ G 24 f_bb)), (a_j, (oc2 a_as a_sk)), (a_as, (arI G 8 f_as)), (a_sk, (arJ G 50 f_sk)), (a_l, (arW G 6 f_l)), (a_pt, (arI G 200 f_pt)), (a_wa, (oc10 a_h a_k a_bo)), (a_bo, (arJ G 24 f_bo))], rfl, ⟨(-1), e_ln, e_se, e_lh, e_br, e_we, e_me, e_ce, e_wy, e_ho, e_ov, f_pt, f_as, f_sk, f_bo, h_e_ov, rfl, rfl⟩, by rw [ht]; exact hP.sub [0, 1, 2, 3, 4, 5, 6, 7, 8, 9, 10, 11, 12, 13, 14, 15, 16] rfl, hD.sub [0, 1, 2, 3, 4, 5, 6, 7, 8, 9, 10, 11, 12, 13, 14, 15, 16] (by decide +kernel) rfl⟩, hS.F ht⟩) hS.2.2 dX11_unseen_8
theorem dgX11_wander_0 : ∀ r ∈ ([(0, (.iload_n 1, 1)), (1, (.ifCond .lt 16, 3)), (4, (.iload_n 1, 1)), (5, (.ldc 181, 2)), (7, (.if_icmp .gt 10, 3)), (10, (.iload_n 2, 1)), (11, (.invokestatic 97, 3)), (14, (.ifCond .ne 9, 3)), (17, (.aload_n 0, 1)), (18, (.iconst (-1), 1)), (19, (.invokevirtual 104, 3)), (22, (.ireturn, 1)), (23, (.aload_n 0, 1)), (24, (.getfield 12, 3)), (27, (.getfield 111, 3)), (30, (.iload_n 2, 1)), (31, (.invokestatic 115, 3)), (34, (.ifCond .eq 10, 3)), (37, (.aload_n 0, 1)), (38, (.bipush (-3), 2)), (40, (.invokevirtual 104, 3)), (43, (.ireturn, 1)), (44, (.aload_n 0, 1)), (45, (.getfield 38, 3)), (48, (.invokevirtual 254, 3)), (51, (.aload_n 0, 1)), (52, (.iconst 1, 1)), (53, (.putfield 87, 3)), (56, (.iload_n 1, 1)), (57, (.i2l, 1)), (58, (.lstore_n 3, 1)), (59, (.iload_n 2, 1)), (60, (.istore 5, 2)), (62, (.iconst 0, 1)), (63, (.istore 6, 2)), (65, (.iconst 0, 1)), (66, (.istore 7, 2)), (68, (.iload 7, 2)), (70, (.bipush 24, 2)), (72, (.if_icmp .ge 101, 3))] : List (Nat × (Instr × Nat))), decode cX11_wander r.1 = .ok r.2 := by decide +kernel
theorem dX11_wander_0 : decode cX11_wander 0 = .ok (.iload_n 1, 1) := dgX11_wander_0 (0, (.iload_n 1, 1)) (List.mem_of_getElem? (i := 0) rfl)
theorem dX11_wander_1 : decode cX11_wander 1 = .ok (.ifCond .lt 16, 3) := dgX11_wander_0 (1, (.ifCond .lt 16, 3)) (List.mem_of_getElem? (i := 1) rfl)
theorem dX11_wander_4 : decode cX11_wander 4 = .ok (.iload_n 1, 1) := dgX11_wander_0 (4, (.iload_n 1, 1)) (List.mem_of_getElem? (i := 2) rfl)
theorem dX11_wander_5 : decode cX11_wander 5 = .ok (.ldc 181, 2) := dgX11_wander_0 (5, (.ldc 181, 2)) (List.mem_of_getElem? (i := 3) rfl)
theorem dX11_wander_7 : decode cX11_wander 7 = .ok (.if_icmp .gt 10, 3) := dgX11_wander_0 (7, (.if_icmp .gt 10, 3)) (List.mem_of_getElem? (i := 4) rfl)
theorem dX11_wander_10 : decode cX11_wander 10 = .ok (.iload_n 2, 1) := dgX11_wander_0 (10, (.iload_n 2, 1)) (List.mem_of_getElem? (i := 5) rfl)
theorem dX11_wander_11 : decode cX11_wander 11 = .ok (.invokestatic 97, 3) := dgX11_wander_0 (11, (.invokestatic 97, 3)) (List.mem_of_getElem? (i := 6) rfl)
theorem dX11_wander_14 : decode cX11_wander 14 = .ok (.ifCond .ne 9, 3) := dgX11_wander_0 (14, (.ifCond .ne 9, 3)) (List.mem_of_getElem? (i := 7) rfl)
theorem dX11_wander_17 : decode cX11_wander 17 = .ok (.aload_n 0, 1) := dgX11_wander_0 (17, (.aload_n 0, 1)) (List.mem_of_getElem? (i := 8) rfl)
theorem dX11_wander_18 : decode cX11_wander 18 = .ok (.iconst (-1), 1) := dgX11_wander_0 (18, (.iconst (-1), 1)) (List.mem_of_getElem? (i := 9) rfl)
theorem dX11_wander_19 : decode cX11_wander 19 = .ok (.invokevirtual 104, 3) := dgX11_wander_0 (19, (.invokevirtual 104, 3)) (List.mem_of_getElem? (i := 10) rfl)
theorem dX11_wander_22 : decode cX11_wander 22 = .ok (.ireturn, 1) := dgX11_wander_0 (22, (.ireturn, 1)) (List.mem_of_getElem? (i := 11) rfl)
theorem dX11_wander_23 : decode cX11_wander 23 = .ok (.aload_n 0, 1) := dgX11_wander_0 (23, (.aload_n 0, 1)) (List.mem_of_getElem? (i := 12) rfl)
theorem dX11_wander_24 : decode cX11_wander 24 = .ok (.getfield 12, 3) := dgX11_wander_0 (24, (.getfield 12, 3)) (List.mem_of_getElem? (i := 13) rfl)
theorem dX11_wander_27 : decode cX11_wander 27 = .ok (.getfield 111, 3) := dgX11_wander_0 (27, (.getfield 111, 3)) (List.mem_of_getElem? (i := 14) rfl)
theorem dX11_wander_30 : decode cX11_wander 30 = .ok (.iload_n 2, 1) := dgX11_wander_0 (30, (.iload_n 2, 1)) (List.mem_of_getElem? (i := 15) rfl)
theorem dX11_wander_31 : decode cX11_wander 31 = .ok (.invokestatic 115, 3) := dgX11_wander_0 (31, (.invokestatic 115, 3)) (List.mem_of_getElem? (i := 16) rfl)
theorem dX11_wander_34 : decode cX11_wander 34 = .ok (.ifCond .eq 10, 3) := dgX11_wander_0 (34, (.ifCond .eq 10, 3)) (List.mem_of_getElem? (i := 17) rfl)
theorem dX11_wander_37 : decode cX11_wander 37 = .ok (.aload_n 0, 1) := dgX11_wander_0 (37, (.aload_n 0, 1)) (List.mem_of_getElem? (i := 18) rfl)
theorem dX11_wander_38 : decode cX11_wander 38 = .ok (.bipush (-3), 2) := dgX11_wander_0 (38, (.bipush (-3), 2)) (List.mem_of_getElem? (i := 19) rfl)
theorem dX11_wander_40 : decode cX11_wander 40 = .ok (.invokevirtual 104, 3) := dgX11_wander_0 (40, (.invokevirtual 104, 3)) (List.mem_of_getElem? (i := 20) rfl)
theorem dX11_wander_43 : decode cX11_wander 43 = .ok (.ireturn, 1) := dgX11_wander_0 (43, (.ireturn, 1)) (List.mem_of_getElem? (i := 21) rfl)
theorem dX11_wander_44 : decode cX11_wander 44 = .ok (.aload_n 0, 1) := dgX11_wander_0 (44, (.aload_n 0, 1)) (List.mem_of_getElem? (i := 22) rfl)
theorem dX11_wander_45 : decode cX11_wander 45 = .ok (.getfield 38, 3) := dgX11_wander_0 (45, (.getfield 38, 3)) (List.mem_of_getElem? (i := 23) rfl)
theorem dX11_wander_48 : decode cX11_wander 48 = .ok (.invokevirtual 254, 3) := dgX11_wander_0 (48, (.invokevirtual 254, 3)) (List.mem_of_getElem? (i := 24) rfl)
theorem dX11_wander_51 : decode cX11_wander 51 = .ok (.aload_n 0, 1) := dgX11_wander_0 (51, (.aload_n 0, 1)) (List.mem_of_getElem? (i := 25) rfl)
theorem dX11_wander_52 : decode cX11_wander 52 = .ok (.iconst 1, 1) := dgX11_wander_0 (52, (.iconst 1, 1)) (List.mem_of_getElem? (i := 26) rfl)
theorem dX11_wander_53 : decode cX11_wander 53 = .ok (.putfield 87, 3) := dgX11_wander_0 (53, (.putfield 87, 3)) (List.mem_of_getElem? (i := 27) rfl)
theorem dX11_wander_56 : decode cX11_wander 56 = .ok (.iload_n 1, 1) := dgX11_wander_0 (56, (.iload_n 1, 1)) (List.mem_of_getElem? (i := 28) rfl)
theorem dX11_wander_57 : decode cX11_wander 57 = .ok (.i2l, 1) := dgX11_wander_0 (57, (.i2l, 1)) (List.mem_of_getElem? (i := 29) rfl)
theorem dX11_wander_58 : decode cX11_wander 58 = .ok (.lstore_n 3, 1) := dgX11_wander_0 (58, (.lstore_n 3, 1)) (List.mem_of_getElem? (i := 30) rfl)
theorem dX11_wander_59 : decode cX11_wander 59 = .ok (.iload_n 2, 1) := dgX11_wander_0 (59, (.iload_n 2, 1)) (List.mem_of_getElem? (i := 31) rfl)
theorem dX11_wander_60 : decode cX11_wander 60 = .ok (.istore 5, 2) := dgX11_wander_0 (60, (.istore 5, 2)) (List.mem_of_getElem? (i := 32) rfl)
theorem dX11_wander_62 : decode cX11_wander 62 = .ok (.iconst 0, 1) := dgX11_wander_0 (62, (.iconst 0, 1)) (List.mem_of_getElem? (i := 33) rfl)
theorem dX11_wander_63 : decode cX11_wander 63 = .ok (.istore 6, 2) := dgX11_wander_0 (63, (.istore 6, 2)) (List.mem_of_getElem? (i := 34) rfl)
theorem dX11_wander_65 : decode cX11_wander 65 = .ok (.iconst 0, 1) := dgX11_wander_0 (65, (.iconst 0, 1)) (List.mem_of_getElem? (i := 35) rfl)
theorem dX11_wander_66 : decode cX11_wander 66 = .ok (.istore 7, 2) := dgX11_wander_0 (66, (.istore 7, 2)) (List.mem_of_getElem? (i := 36) rfl)
theorem dX11_wander_68 : decode cX11_wander 68 = .ok (.iload 7, 2) := dgX11_wander_0 (68, (.iload 7, 2)) (List.mem_of_getElem? (i := 37) rfl)
theorem dX11_wander_70 : decode cX11_wander 70 = .ok (.bipush 24, 2) := dgX11_wander_0 (70, (.bipush 24, 2)) (List.mem_of_getElem? (i := 38) rfl)
theorem dX11_wander_72 : decode cX11_wander 72 = .ok (.if_icmp .ge 101, 3) := dgX11_wander_0 (72, (.if_icmp .ge 101, 3)) (List.mem_of_getElem? (i := 39) rfl)
theorem dgX11_wander_1 : ∀ r ∈ ([(75, (.iload 7, 2)), (77, (.ifCond .le 60, 3)), (80, (.lload_n 3, 1)), (81, (.ldc2_w 340, 3)), (84, (.lmul, 1)), (85, (.ldc2_w 342, 3)), (88, (.ladd, 1)), (89, (.ldc2_w 344, 3)), (92, (.lrem, 1)), (93, (.lstore_n 3, 1)), (94, (.iload 5, 2)), (96, (.lload_n 3, 1)), (97, (.ldc2_w 346, 3)), (100, (.lrem, 1)), (101, (.l2i, 1)), (102, (.invokestatic 348, 3)), (105, (.istore 8, 2)), (107, (.iload 8, 2)), (109, (.iconst (-1), 1)), (110, (.if_icmp .eq 18, 3)), (113, (.aload_n 0, 1)), (114, (.getfield 12, 3)), (117, (.getfield 111, 3)), (120, (.iload 8, 2)), (122, (.invokestatic 115, 3)), (125, (.ifCond .eq 8, 3)), (128, (.iload 5, 2)), (130, (.goto 5, 3)), (133, (.iload 8, 2)), (135, (.istore 5, 2)), (137, (.aload_n 0, 1)), (138, (.getfield 84, 3)), (141, (.iload 7, 2)), (143, (.iload 5, 2)), (145, (.iastore, 1)), (146, (.aload_n 0, 1)), (147, (.getfield 38, 3)), (150, (.getfield 257, 3)), (153, (.iload 7, 2)), (155, (.laload, 1))] : List (Nat × (Instr × Nat))), decode cX11_wander r.1 = .ok r.2 := by decide +kernel
theorem dX11_wander_75 : decode cX11_wander 75 = .ok (.iload 7, 2) := dgX11_wander_1 (75, (.iload 7, 2)) (List.mem_of_getElem? (i := 0) rfl)
theorem dX11_wander_77 : decode cX11_wander 77 = .ok (.ifCond .le 60, 3) := dgX11_wander_1 (77, (.ifCond .le 60, 3)) (List.mem_of_getElem? (i := 1) rfl)
theorem dX11_wander_80 : decode cX11_wander 80 = .ok (.lload_n 3, 1) := dgX11_wander_1 (80, (.lload_n 3, 1)) (List.mem_of_getElem? (i := 2) rfl)
theorem dX11_wander_81 : decode cX11_wander 81 = .ok (.ldc2_w 340, 3) := dgX11_wander_1 (81, (.ldc2_w 340, 3)) (List.mem_of_getElem? (i := 3) rfl)
theorem dX11_wander_84 : decode cX11_wander 84 = .ok (.lmul, 1) := dgX11_wander_1 (84, (.lmul, 1)) (List.mem_of_getElem? (i := 4) rfl)
theorem dX11_wander_85 : decode cX11_wander 85 = .ok (.ldc2_w 342, 3) := dgX11_wander_1 (85, (.ldc2_w 342, 3)) (List.mem_of_getElem? (i := 5) rfl)
theorem dX11_wander_88 : decode cX11_wander 88 = .ok (.ladd, 1) := dgX11_wander_1 (88, (.ladd, 1)) (List.mem_of_getElem? (i := 6) rfl)
theorem dX11_wander_89 : decode cX11_wander 89 = .ok (.ldc2_w 344, 3) := dgX11_wander_1 (89, (.ldc2_w 344, 3)) (List.mem_of_getElem? (i := 7) rfl)
theorem dX11_wander_92 : decode cX11_wander 92 = .ok (.lrem, 1) := dgX11_wander_1 (92, (.lrem, 1)) (List.mem_of_getElem? (i := 8) rfl)
theorem dX11_wander_93 : decode cX11_wander 93 = .ok (.lstore_n 3, 1) := dgX11_wander_1 (93, (.lstore_n 3, 1)) (List.mem_of_getElem? (i := 9) rfl)
theorem dX11_wander_94 : decode cX11_wander 94 = .ok (.iload 5, 2) := dgX11_wander_1 (94, (.iload 5, 2)) (List.mem_of_getElem? (i := 10) rfl)
theorem dX11_wander_96 : decode cX11_wander 96 = .ok (.lload_n 3, 1) := dgX11_wander_1 (96, (.lload_n 3, 1)) (List.mem_of_getElem? (i := 11) rfl)
theorem dX11_wander_97 : decode cX11_wander 97 = .ok (.ldc2_w 346, 3) := dgX11_wander_1 (97, (.ldc2_w 346, 3)) (List.mem_of_getElem? (i := 12) rfl)
theorem dX11_wander_100 : decode cX11_wander 100 = .ok (.lrem, 1) := dgX11_wander_1 (100, (.lrem, 1)) (List.mem_of_getElem? (i := 13) rfl)
theorem dX11_wander_101 : decode cX11_wander 101 = .ok (.l2i, 1) := dgX11_wander_1 (101, (.l2i, 1)) (List.mem_of_getElem? (i := 14) rfl)
theorem dX11_wander_102 : decode cX11_wander 102 = .ok (.invokestatic 348, 3) := dgX11_wander_1 (102, (.invokestatic 348, 3)) (List.mem_of_getElem? (i := 15) rfl)
theorem dX11_wander_105 : decode cX11_wander 105 = .ok (.istore 8, 2) := dgX11_wander_1 (105, (.istore 8, 2)) (List.mem_of_getElem? (i := 16) rfl)
theorem dX11_wander_107 : decode cX11_wander 107 = .ok (.iload 8, 2) := dgX11_wander_1 (107, (.iload 8, 2)) (List.mem_of_getElem? (i := 17) rfl)
theorem dX11_wander_109 : decode cX11_wander 109 = .ok (.iconst (-1), 1) := dgX11_wander_1 (109, (.iconst (-1), 1)) (List.mem_of_getElem? (i := 18) rfl)
theorem dX11_wander_110 : decode cX11_wander 110 = .ok (.if_icmp .eq 18, 3) := dgX11_wander_1 (110, (.if_icmp .eq 18, 3)) (List.mem_of_getElem? (i := 19) rfl)
theorem dX11_wander_113 : decode cX11_wander 113 = .ok (.aload_n 0, 1) := dgX11_wander_1 (113, (.aload_n 0, 1)) (List.mem_of_getElem? (i := 20) rfl)
theorem dX11_wander_114 : decode cX11_wander 114 = .ok (.getfield 12, 3) := dgX11_wander_1 (114, (.getfield 12, 3)) (List.mem_of_getElem? (i := 21) rfl)
theorem dX11_wander_117 : decode cX11_wander 117 = .ok (.getfield 111, 3) := dgX11_wander_1 (117, (.getfield 111, 3)) (List.mem_of_getElem? (i := 22) rfl)
theorem dX11_wander_120 : decode cX11_wander 120 = .ok (.iload 8, 2) := dgX11_wander_1 (120, (.iload 8, 2)) (List.mem_of_getElem? (i := 23) rfl)
theorem dX11_wander_122 : decode cX11_wander 122 = .ok (.invokestatic 115, 3) := dgX11_wander_1 (122, (.invokestatic 115, 3)) (List.mem_of_getElem? (i := 24) rfl)
theorem dX11_wander_125 : decode cX11_wander 125 = .ok (.ifCond .eq 8, 3) := dgX11_wander_1 (125, (.ifCond .eq 8, 3)) (List.mem_of_getElem? (i := 25) rfl)
theorem dX11_wander_128 : decode cX11_wander 128 = .ok (.iload 5, 2) := dgX11_wander_1 (128, (.iload 5, 2)) (List.mem_of_getElem? (i := 26) rfl)
theorem dX11_wander_130 : decode cX11_wander 130 = .ok (.goto 5, 3) := dgX11_wander_1 (130, (.goto 5, 3)) (List.mem_of_getElem? (i := 27) rfl)
theorem dX11_wander_133 : decode cX11_wander 133 = .ok (.iload 8, 2) := dgX11_wander_1 (133, (.iload 8, 2)) (List.mem_of_getElem? (i := 28) rfl)
theorem dX11_wander_135 : decode cX11_wander 135 = .ok (.istore 5, 2) := dgX11_wander_1 (135, (.istore 5, 2)) (List.mem_of_getElem? (i := 29) rfl)
theorem dX11_wander_137 : decode cX11_wander 137 = .ok (.aload_n 0, 1) := dgX11_wander_1 (137, (.aload_n 0, 1)) (List.mem_of_getElem? (i := 30) rfl)
theorem dX11_wander_138 : decode cX11_wander 138 = .ok (.getfield 84, 3) := dgX11_wander_1 (138, (.getfield 84, 3)) (List.mem_of_getElem? (i := 31) rfl)
theorem dX11_wander_141 : decode cX11_wander 141 = .ok (.iload 7, 2) := dgX11_wander_1 (141, (.iload 7, 2)) (List.mem_of_getElem? (i := 32) rfl)
theorem dX11_wander_143 : decode cX11_wander 143 = .ok (.iload 5, 2) := dgX11_wander_1 (143, (.iload 5, 2)) (List.mem_of_getElem? (i := 33) rfl)
theorem dX11_wander_145 : decode cX11_wander 145 = .ok (.iastore, 1) := dgX11_wander_1 (145, (.iastore, 1)) (List.mem_of_getElem? (i := 34) rfl)
theorem dX11_wander_146 : decode cX11_wander 146 = .ok (.aload_n 0, 1) := dgX11_wander_1 (146, (.aload_n 0, 1)) (List.mem_of_getElem? (i := 35) rfl)
theorem dX11_wander_147 : decode cX11_wander 147 = .ok (.getfield 38, 3) := dgX11_wander_1 (147, (.getfield 38, 3)) (List.mem_of_getElem? (i := 36) rfl)
theorem dX11_wander_150 : decode cX11_wander 150 = .ok (.getfield 257, 3) := dgX11_wander_1 (150, (.getfield 257, 3)) (List.mem_of_getElem? (i := 37) rfl)
theorem dX11_wander_153 : decode cX11_wander 153 = .ok (.iload 7, 2) := dgX11_wander_1 (153, (.iload 7, 2)) (List.mem_of_getElem? (i := 38) rfl)
theorem dX11_wander_155 : decode cX11_wander 155 = .ok (.laload, 1) := dgX11_wander_1 (155, (.laload, 1)) (List.mem_of_getElem? (i := 39) rfl)
theorem dgX11_wander_2 : ∀ r ∈ ([(156, (.iload 5, 2)), (158, (.invokestatic 115, 3)), (161, (.ifCond .eq 6, 3)), (164, (.iinc 6 1, 3)), (167, (.iinc 7 1, 3)), (170, (.goto (-102), 3)), (173, (.aload_n 0, 1)), (174, (.iload 6, 2)), (176, (.invokevirtual 121, 3)), (179, (.ireturn, 1))] : List (Nat × (Instr × Nat))), decode cX11_wander r.1 = .ok r.2 := by decide +kernel
theorem dX11_wander_156 : decode cX11_wander 156 = .ok (.iload 5, 2) := dgX11_wander_2 (156, (.iload 5, 2)) (List.mem_of_getElem? (i := 0) rfl)
theorem dX11_wander_158 : decode cX11_wander 158 = .ok (.invokestatic 115, 3) := dgX11_wander_2 (158, (.invokestatic 115, 3)) (List.mem_of_getElem? (i := 1) rfl)
theorem dX11_wander_161 : decode cX11_wander 161 = .ok (.ifCond .eq 6, 3) := dgX11_wander_2 (161, (.ifCond .eq 6, 3)) (List.mem_of_getElem? (i := 2) rfl)
theorem dX11_wander_164 : decode cX11_wander 164 = .ok (.iinc 6 1, 3) := dgX11_wander_2 (164, (.iinc 6 1, 3)) (List.mem_of_getElem? (i := 3) rfl)
theorem dX11_wander_167 : decode cX11_wander 167 = .ok (.iinc 7 1, 3) := dgX11_wander_2 (167, (.iinc 7 1, 3)) (List.mem_of_getElem? (i := 4) rfl)
theorem dX11_wander_170 : decode cX11_wander 170 = .ok (.goto (-102), 3) := dgX11_wander_2 (170, (.goto (-102), 3)) (List.mem_of_getElem? (i := 5) rfl)
theorem dX11_wander_173 : decode cX11_wander 173 = .ok (.aload_n 0, 1) := dgX11_wander_2 (173, (.aload_n 0, 1)) (List.mem_of_getElem? (i := 6) rfl)
theorem dX11_wander_174 : decode cX11_wander 174 = .ok (.iload 6, 2) := dgX11_wander_2 (174, (.iload 6, 2)) (List.mem_of_getElem? (i := 7) rfl)
theorem dX11_wander_176 : decode cX11_wander 176 = .ok (.invokevirtual 121, 3) := dgX11_wander_2 (176, (.invokevirtual 121, 3)) (List.mem_of_getElem? (i := 8) rfl)
theorem dX11_wander_179 : decode cX11_wander 179 = .ok (.ireturn, 1) := dgX11_wander_2 (179, (.ireturn, 1)) (List.mem_of_getElem? (i := 9) rfl)
theorem kl_X11_340 : Cond.constantLong RX11 340 1103 ∈ tblG := tg 1147 (by decide +kernel) (by decide +kernel)
theorem kl_X11_342 : Cond.constantLong RX11 342 12345 ∈ tblG := tg 1148 (by decide +kernel) (by decide +kernel)
theorem kl_X11_344 : Cond.constantLong RX11 344 1000003 ∈ tblG := tg 1149 (by decide +kernel) (by decide +kernel)
theorem kl_X11_346 : Cond.constantLong RX11 346 5 ∈ tblG := tg 1150 (by decide +kernel) (by decide +kernel)
theorem ml_X11_348 : Cond.methodLink RX11 348 yX11_beside ∈ tblG := tg 1151 (by decide +kernel) (by decide +kernel)
theorem gS_X11_348 : GoodIn tblG (va_wsS RX11 348 yX11_beside (wsG yX11_beside cX11_beside 2 (some .int))) := tgS ml_X11_348 st_X11_beside ini_X11 gW_X11_beside
theorem dgX11_lacks_0 : ∀ r ∈ ([(0, (.iload_n 1, 1)), (1, (.ifCond .lt 19, 3)), (4, (.iload_n 1, 1)), (5, (.iconst 1, 1)), (6, (.aload_n 0, 1)), (7, (.getfield 12, 3)), (10, (.getfield 306, 3)), (13, (.getfield 238, 3)), (16, (.ishl, 1)), (17, (.if_icmp .lt 5, 3)), (20, (.iconst (-1), 1)), (21, (.ireturn, 1)), (22, (.aload_n 0, 1)), (23, (.getfield 52, 3)), (26, (.iload_n 1, 1)), (27, (.invokevirtual 312, 3)), (30, (.ireturn, 1))] : List (Nat × (Instr × Nat))), decode cX11_lacks r.1 = .ok r.2 := by decide +kernel
theorem dX11_lacks_0 : decode cX11_lacks 0 = .ok (.iload_n 1, 1) := dgX11_lacks_0 (0, (.iload_n 1, 1)) (List.mem_of_getElem? (i := 0) rfl)
theorem dX11_lacks_1 : decode cX11_lacks 1 = .ok (.ifCond .lt 19, 3) := dgX11_lacks_0 (1, (.ifCond .lt 19, 3)) (List.mem_of_getElem? (i := 1) rfl)
theorem dX11_lacks_4 : decode cX11_lacks 4 = .ok (.iload_n 1, 1) := dgX11_lacks_0 (4, (.iload_n 1, 1)) (List.mem_of_getElem? (i := 2) rfl)
theorem dX11_lacks_5 : decode cX11_lacks 5 = .ok (.iconst 1, 1) := dgX11_lacks_0 (5, (.iconst 1, 1)) (List.mem_of_getElem? (i := 3) rfl)
theorem dX11_lacks_6 : decode cX11_lacks 6 = .ok (.aload_n 0, 1) := dgX11_lacks_0 (6, (.aload_n 0, 1)) (List.mem_of_getElem? (i := 4) rfl)
theorem dX11_lacks_7 : decode cX11_lacks 7 = .ok (.getfield 12, 3) := dgX11_lacks_0 (7, (.getfield 12, 3)) (List.mem_of_getElem? (i := 5) rfl)
theorem dX11_lacks_10 : decode cX11_lacks 10 = .ok (.getfield 306, 3) := dgX11_lacks_0 (10, (.getfield 306, 3)) (List.mem_of_getElem? (i := 6) rfl)
theorem dX11_lacks_13 : decode cX11_lacks 13 = .ok (.getfield 238, 3) := dgX11_lacks_0 (13, (.getfield 238, 3)) (List.mem_of_getElem? (i := 7) rfl)
theorem dX11_lacks_16 : decode cX11_lacks 16 = .ok (.ishl, 1) := dgX11_lacks_0 (16, (.ishl, 1)) (List.mem_of_getElem? (i := 8) rfl)
theorem dX11_lacks_17 : decode cX11_lacks 17 = .ok (.if_icmp .lt 5, 3) := dgX11_lacks_0 (17, (.if_icmp .lt 5, 3)) (List.mem_of_getElem? (i := 9) rfl)
theorem dX11_lacks_20 : decode cX11_lacks 20 = .ok (.iconst (-1), 1) := dgX11_lacks_0 (20, (.iconst (-1), 1)) (List.mem_of_getElem? (i := 10) rfl)
theorem dX11_lacks_21 : decode cX11_lacks 21 = .ok (.ireturn, 1) := dgX11_lacks_0 (21, (.ireturn, 1)) (List.mem_of_getElem? (i := 11) rfl)
theorem dX11_lacks_22 : decode cX11_lacks 22 = .ok (.aload_n 0, 1) := dgX11_lacks_0 (22, (.aload_n 0, 1)) (List.mem_of_getElem? (i := 12) rfl)
theorem dX11_lacks_23 : decode cX11_lacks 23 = .ok (.getfield 52, 3) := dgX11_lacks_0 (23, (.getfield 52, 3)) (List.mem_of_getElem? (i := 13) rfl)
theorem dX11_lacks_26 : decode cX11_lacks 26 = .ok (.iload_n 1, 1) := dgX11_lacks_0 (26, (.iload_n 1, 1)) (List.mem_of_getElem? (i := 14) rfl)
theorem dX11_lacks_27 : decode cX11_lacks 27 = .ok (.invokevirtual 312, 3) := dgX11_lacks_0 (27, (.invokevirtual 312, 3)) (List.mem_of_getElem? (i := 15) rfl)
theorem dX11_lacks_30 : decode cX11_lacks 30 = .ok (.ireturn, 1) := dgX11_lacks_0 (30, (.ireturn, 1)) (List.mem_of_getElem? (i := 16) rfl)
theorem fl_X11_52 : Cond.fieldLink RX11 52 "LateGlass" "hanger" "LLateGlass$Hanger;" ∈ tblG := tg 450 (by decide +kernel) (by decide +kernel)
theorem ml_X11_312 : Cond.methodLink RX11 312 yX0_lacking ∈ tblG := tg 1068 (by decide +kernel) (by decide +kernel)
theorem gV_X11_312 : GoodIn tblG (wsV RX11 312 RX0 yX0_lacking (wsG yX0_lacking cX0_lacking 6 (some .int))) := tgV ml_X11_312 im_X0_lacking se_X0_lacking ini_X0 gW_X0_lacking
theorem dgX11_hang_0 : ∀ r ∈ ([(0, (.iload_n 1, 1)), (1, (.ifCond .lt 8, 3)), (4, (.iload_n 1, 1)), (5, (.iconst 2, 1)), (6, (.if_icmp .le 5, 3)), (9, (.iconst (-1), 1)), (10, (.ireturn, 1)), (11, (.aload_n 0, 1)), (12, (.getfield 52, 3)), (15, (.invokevirtual 315, 3)), (18, (.iload_n 1, 1)), (19, (.ifCond .ne 13, 3)), (22, (.aload_n 0, 1)), (23, (.getfield 52, 3)), (26, (.getfield 318, 3)), (29, (.goto 25, 3)), (32, (.iload_n 1, 1)), (33, (.iconst 1, 1)), (34, (.if_icmp .ne 13, 3)), (37, (.aload_n 0, 1)), (38, (.getfield 52, 3)), (41, (.getfield 321, 3)), (44, (.goto 10, 3)), (47, (.aload_n 0, 1)), (48, (.getfield 52, 3)), (51, (.getfield 324, 3)), (54, (.ireturn, 1))] : List (Nat × (Instr × Nat))), decode cX11_hang r.1 = .ok r.2 := by decide +kernel
theorem dX11_hang_0 : decode cX11_hang 0 = .ok (.iload_n 1, 1) := dgX11_hang_0 (0, (.iload_n 1, 1)) (List.mem_of_getElem? (i := 0) rfl)
theorem dX11_hang_1 : decode cX11_hang 1 = .ok (.ifCond .lt 8, 3) := dgX11_hang_0 (1, (.ifCond .lt 8, 3)) (List.mem_of_getElem? (i := 1) rfl)
theorem dX11_hang_4 : decode cX11_hang 4 = .ok (.iload_n 1, 1) := dgX11_hang_0 (4, (.iload_n 1, 1)) (List.mem_of_getElem? (i := 2) rfl)
theorem dX11_hang_5 : decode cX11_hang 5 = .ok (.iconst 2, 1) := dgX11_hang_0 (5, (.iconst 2, 1)) (List.mem_of_getElem? (i := 3) rfl)
theorem dX11_hang_6 : decode cX11_hang 6 = .ok (.if_icmp .le 5, 3) := dgX11_hang_0 (6, (.if_icmp .le 5, 3)) (List.mem_of_getElem? (i := 4) rfl)
theorem dX11_hang_9 : decode cX11_hang 9 = .ok (.iconst (-1), 1) := dgX11_hang_0 (9, (.iconst (-1), 1)) (List.mem_of_getElem? (i := 5) rfl)
theorem dX11_hang_10 : decode cX11_hang 10 = .ok (.ireturn, 1) := dgX11_hang_0 (10, (.ireturn, 1)) (List.mem_of_getElem? (i := 6) rfl)
theorem dX11_hang_11 : decode cX11_hang 11 = .ok (.aload_n 0, 1) := dgX11_hang_0 (11, (.aload_n 0, 1)) (List.mem_of_getElem? (i := 7) rfl)
theorem dX11_hang_12 : decode cX11_hang 12 = .ok (.getfield 52, 3) := dgX11_hang_0 (12, (.getfield 52, 3)) (List.mem_of_getElem? (i := 8) rfl)
theorem dX11_hang_15 : decode cX11_hang 15 = .ok (.invokevirtual 315, 3) := dgX11_hang_0 (15, (.invokevirtual 315, 3)) (List.mem_of_getElem? (i := 9) rfl)
theorem dX11_hang_18 : decode cX11_hang 18 = .ok (.iload_n 1, 1) := dgX11_hang_0 (18, (.iload_n 1, 1)) (List.mem_of_getElem? (i := 10) rfl)
theorem dX11_hang_19 : decode cX11_hang 19 = .ok (.ifCond .ne 13, 3) := dgX11_hang_0 (19, (.ifCond .ne 13, 3)) (List.mem_of_getElem? (i := 11) rfl)
theorem dX11_hang_22 : decode cX11_hang 22 = .ok (.aload_n 0, 1) := dgX11_hang_0 (22, (.aload_n 0, 1)) (List.mem_of_getElem? (i := 12) rfl)
theorem dX11_hang_23 : decode cX11_hang 23 = .ok (.getfield 52, 3) := dgX11_hang_0 (23, (.getfield 52, 3)) (List.mem_of_getElem? (i := 13) rfl)
theorem dX11_hang_26 : decode cX11_hang 26 = .ok (.getfield 318, 3) := dgX11_hang_0 (26, (.getfield 318, 3)) (List.mem_of_getElem? (i := 14) rfl)
theorem dX11_hang_29 : decode cX11_hang 29 = .ok (.goto 25, 3) := dgX11_hang_0 (29, (.goto 25, 3)) (List.mem_of_getElem? (i := 15) rfl)
theorem dX11_hang_32 : decode cX11_hang 32 = .ok (.iload_n 1, 1) := dgX11_hang_0 (32, (.iload_n 1, 1)) (List.mem_of_getElem? (i := 16) rfl)
theorem dX11_hang_33 : decode cX11_hang 33 = .ok (.iconst 1, 1) := dgX11_hang_0 (33, (.iconst 1, 1)) (List.mem_of_getElem? (i := 17) rfl)
theorem dX11_hang_34 : decode cX11_hang 34 = .ok (.if_icmp .ne 13, 3) := dgX11_hang_0 (34, (.if_icmp .ne 13, 3)) (List.mem_of_getElem? (i := 18) rfl)
theorem dX11_hang_37 : decode cX11_hang 37 = .ok (.aload_n 0, 1) := dgX11_hang_0 (37, (.aload_n 0, 1)) (List.mem_of_getElem? (i := 19) rfl)
theorem dX11_hang_38 : decode cX11_hang 38 = .ok (.getfield 52, 3) := dgX11_hang_0 (38, (.getfield 52, 3)) (List.mem_of_getElem? (i := 20) rfl)
theorem dX11_hang_41 : decode cX11_hang 41 = .ok (.getfield 321, 3) := dgX11_hang_0 (41, (.getfield 321, 3)) (List.mem_of_getElem? (i := 21) rfl)
theorem dX11_hang_44 : decode cX11_hang 44 = .ok (.goto 10, 3) := dgX11_hang_0 (44, (.goto 10, 3)) (List.mem_of_getElem? (i := 22) rfl)
theorem dX11_hang_47 : decode cX11_hang 47 = .ok (.aload_n 0, 1) := dgX11_hang_0 (47, (.aload_n 0, 1)) (List.mem_of_getElem? (i := 23) rfl)
theorem dX11_hang_48 : decode cX11_hang 48 = .ok (.getfield 52, 3) := dgX11_hang_0 (48, (.getfield 52, 3)) (List.mem_of_getElem? (i := 24) rfl)
theorem dX11_hang_51 : decode cX11_hang 51 = .ok (.getfield 324, 3) := dgX11_hang_0 (51, (.getfield 324, 3)) (List.mem_of_getElem? (i := 25) rfl)
theorem dX11_hang_54 : decode cX11_hang 54 = .ok (.ireturn, 1) := dgX11_hang_0 (54, (.ireturn, 1)) (List.mem_of_getElem? (i := 26) rfl)
theorem ml_X11_315 : Cond.methodLink RX11 315 yX0_search ∈ tblG := tg 1082 (by decide +kernel) (by decide +kernel)
theorem im_X0_search : Cond.instanceMethod yX0_search ∈ tblG := tg 1083 (by decide +kernel) (by decide +kernel)
theorem se_X0_search : Cond.selects RX0 yX0_search yX0_search ∈ tblG := tg 1084 (by decide +kernel) (by decide +kernel)
theorem cd_X0_search : Cond.code yX0_search cX0_search 4 none ∈ tblG := tg 1085 (by decide +kernel) (by decide +kernel)
theorem gW_X0_search : GoodIn tblG (wsG yX0_search cX0_search 4 none) := tgi cd_X0_search
theorem gV_X11_315 : GoodIn tblG (wsV RX11 315 RX0 yX0_search (wsG yX0_search cX0_search 4 none)) := tgV ml_X11_315 im_X0_search se_X0_search ini_X0 gW_X0_search
theorem hv_X0_search : yX0_search.cls = RX0 ∧ yX0_search.cls ≠ "java/lang/invoke/MethodHandle" ∧ yX0_search.cls ≠ "java/lang/invoke/VarHandle" ∧ (parseMethodDescriptor yX0_search.desc).map (fun d => d.parameters.length) = some 0 := by decide +kernel
theorem fl_X11_324 : Cond.fieldLink RX11 324 "LateGlass$Hanger" "lowest" "I" ∈ tblG := tg 362 (by decide +kernel) (by decide +kernel)
theorem fl_X11_321 : Cond.fieldLink RX11 321 "LateGlass$Hanger" "choices" "I" ∈ tblG := tg 360 (by decide +kernel) (by decide +kernel)
theorem fl_X11_318 : Cond.fieldLink RX11 318 "LateGlass$Hanger" "fewest" "I" ∈ tblG := tg 358 (by decide +kernel) (by decide +kernel)
set_option maxHeartbeats 4000000 in
set_option maxRecDepth 100000 in
theorem x_hangN (l : Launch) (G : g5_G) (a_o a_k a_h a_g a_gn a_b a_bn a_p a_pn a_w a_wn a_bb a_j a_as a_sk a_l a_pt a_ha a_im a_ke a_wa a_th a_wk a_r a_x a_wd a_rf a_s : Nat) (sz : Nat) (e_tl : Int32) (e_fd : Int32) (e_fpl : Int32) (e_wn : Int32) (e_lr : Int32) (e_le : Int32) (e_st : Int32) (e_fo : Int32) (e_lc : Int32) (e_g : Int32) (e_b : Int32) (e_p : Int32) (e_w : Int32) (e_ln : Int32) (e_se : Int32) (e_lh : Int32) (e_br : Int32) (e_we : Int32) (e_me : Int32) (e_ce : Int32) (e_wy : Int32) (e_ho : Int32) (e_ov : Int32) (e_f1 : Int32) (e_f2 : Int32) (e_f3 : Int32) (p_t : Int32) (e_wa : Int64) (e_gb : Int64) (f_g : Nat → Int32) (f_b : Nat → Int32) (f_p : Nat → Int32) (f_w : Nat → Int32) (f_bb : Nat → Int64) (f_as : Nat → Int32) (f_sk : Nat → Int64) (f_l : Nat → Option Nat) (f_pt : Nat → Int32) (h_e_tl : 0 ≤ e_tl.toInt ∧ e_tl.toInt ≤ 400) (h_e_wn : 0 ≤ e_wn.toInt ∧ e_wn.toInt ≤ 1) (h_e_g : 0 ≤ e_g.toInt ∧ e_g.toInt ≤ 6) (h_e_b : 0 ≤ e_b.toInt ∧ e_b.toInt ≤ 5) (h_e_p : 0 ≤ e_p.toInt ∧ e_p.toInt ≤ 8) (h_e_w : 0 ≤ e_w.toInt ∧ e_w.toInt ≤ 6) (h_e_ov : 0 ≤ e_ov.toInt ∧ e_ov.toInt ≤ 1) (e_gk : gOK f_g e_g.toInt) (e_pk : gOK f_p e_p.toInt) (e_gi : inT e_gb f_g e_g.toInt) (e_f : e_fo.toInt < 0 ∨ e_lc.toInt ≤ e_fo.toInt) : Met l yX11_hang (wsG yX11_hang cX11_hang 2 (some .int)) ({ frames := 16, cells := 0, slots := 0, locals := 604 }) (va_Pc [.ref a_o, .int p_t] (g5_P G [(a_o, (oc11 a_h a_im a_ke a_k a_wa a_th a_ha a_wk a_r a_x e_tl e_fd e_fpl a_wd e_wn a_rf e_lr)), (a_k, (oc5 a_h a_j a_pt e_ln e_se e_lh e_br e_we e_me e_ce e_wy e_ho e_ov)), (a_h, (oc1 e_wa e_le e_st e_fo e_lc a_l a_g a_b a_s a_p a_w e_gb a_bb)), (a_g, (oc6 6 5 a_gn e_g)), (a_gn, (arI G 30 f_g)), (a_b, (oc6 5 24 a_bn e_b)), (a_bn, (arI G 120 f_b)), (a_p, (oc6 8 5 a_pn e_p)), (a_pn, (arI G 40 f_p)), (a_w, (oc6 6 6 a_wn e_w)), (a_wn, (arI G 36 f_w)), (a_bb, (arJ G 24 f_bb)), (a_j, (oc2 a_as a_sk)), (a_as, (arI G 8 f_as)), (a_sk, (arJ G 50 f_sk)), (a_l, (arW G 6 f_l)), (a_pt, (arI G 200 f_pt)), (a_ha, (oc0 a_h a_k e_f1 e_f2 e_f3))] sz)) (va_Qi (fun (r : Int32) (u : va_W) => (∃ (o_r : Int32) (o_ln : Int32) (o_se : Int32) (o_lh : Int32) (o_br : Int32) (o_we : Int32) (o_me : Int32) (o_ce : Int32) (o_wy : Int32) (o_ho : Int32) (o_ov : Int32) (o_pt : Nat → Int32) (o_as : Nat → Int32) (o_sk : Nat → Int64) (o_f1 : Int32) (o_f2 : Int32) (o_f3 : Int32), (0 ≤ o_ov.toInt ∧ o_ov.toInt ≤ 1) ∧ (r = o_r) ∧ (u = [(a_o, (oc11 a_h a_im a_ke a_k a_wa a_th a_ha a_wk a_r a_x e_tl e_fd e_fpl a_wd e_wn a_rf e_lr)), (a_k, (oc5 a_h a_j a_pt o_ln o_se o_lh o_br o_we o_me o_ce o_wy o_ho o_ov)), (a_h, (oc1 e_wa e_le e_st e_fo e_lc a_l a_g a_b a_s a_p a_w e_gb a_bb)), (a_g, (oc6 6 5 a_gn e_g)), (a_gn, (arI G 30 f_g)), (a_b, (oc6 5 24 a_bn e_b)), (a_bn, (arI G 120 f_b)), (a_p, (oc6 8 5 a_pn e_p)), (a_pn, (arI G 40 f_p)), (a_w, (oc6 6 6 a_wn e_w)), (a_wn, (arI G 36 f_w)), (a_bb, (arJ G 24 f_bb)), (a_j, (oc2 a_as a_sk)), (a_as, (arI G 8 o_as)), (a_sk, (arJ G 50 o_sk)), (a_l, (arW G 6 f_l)), (a_pt, (arI G 200 o_pt)), (a_ha, (oc0 a_h a_k o_f1 o_f2 o_f3))]))) (g5_B G (va_A [(a_o, (oc11 a_h a_im a_ke a_k a_wa a_th a_ha a_wk a_r a_x e_tl e_fd e_fpl a_wd e_wn a_rf e_lr)), (a_k, (oc5 a_h a_j a_pt e_ln e_se e_lh e_br e_we e_me e_ce e_wy e_ho e_ov)), (a_h, (oc1 e_wa e_le e_st e_fo e_lc a_l a_g a_b a_s a_p a_w e_gb a_bb)), (a_g, (oc6 6 5 a_gn e_g)), (a_gn, (arI G 30 f_g)), (a_b, (oc6 5 24 a_bn e_b)), (a_bn, (arI G 120 f_b)), (a_p, (oc6 8 5 a_pn e_p)), (a_pn, (arI G 40 f_p)), (a_w, (oc6 6 6 a_wn e_w)), (a_wn, (arI G 36 f_w)), (a_bb, (arJ G 24 f_bb)), (a_j, (oc2 a_as a_sk)), (a_as, (arI G 8 f_as)), (a_sk, (arJ G 50 f_sk)), (a_l, (arW G 6 f_l)), (a_pt, (arI G 200 f_pt)), (a_ha, (oc0 a_h a_k e_f1 e_f2 e_f3))] sz)) (va_A [(a_o, (oc11 a_h a_im a_ke a_k a_wa a_th a_ha a_wk a_r a_x e_tl e_fd e_fpl a_wd e_wn a_rf e_lr)), (a_k, (oc5 a_h a_j a_pt e_ln e_se e_lh e_br e_we e_me e_ce e_wy e_ho e_ov)), (a_h, (oc1 e_wa e_le e_st e_fo e_lc a_l a_g a_b a_s a_p a_w e_gb a_bb)), (a_g, (oc6 6 5 a_gn e_g)), (a_gn, (arI G 30 f_g)), (a_b, (oc6 5 24 a_bn e_b)), (a_bn, (arI G 120 f_b)), (a_p, (oc6 8 5 a_pn e_p)), (a_pn, (arI G 40 f_p)), (a_w, (oc6 6 6 a_wn e_w)), (a_wn, (arI G 36 f_w)), (a_bb, (arJ G 24 f_bb)), (a_j, (oc2 a_as a_sk)), (a_as, (arI G 8 f_as)), (a_sk, (arJ G 50 f_sk)), (a_l, (arW G 6 f_l)), (a_pt, (arI G 200 f_pt)), (a_ha, (oc0 a_h a_k e_f1 e_f2 e_f3))] sz)) 0 0 (va_A [(a_o, (oc11 a_h a_im a_ke a_k a_wa a_th a_ha a_wk a_r a_x e_tl e_fd e_fpl a_wd e_wn a_rf e_lr)), (a_k, (oc5 a_h a_j a_pt e_ln e_se e_lh e_br e_we e_me e_ce e_wy e_ho e_ov)), (a_h, (oc1 e_wa e_le e_st e_fo e_lc a_l a_g a_b a_s a_p a_w e_gb a_bb)), (a_g, (oc6 6 5 a_gn e_g)), (a_gn, (arI G 30 f_g)), (a_b, (oc6 5 24 a_bn e_b)), (a_bn, (arI G 120 f_b)), (a_p, (oc6 8 5 a_pn e_p)), (a_pn, (arI G 40 f_p)), (a_w, (oc6 6 6 a_wn e_w)), (a_wn, (arI G 36 f_w)), (a_bb, (arJ G 24 f_bb)), (a_j, (oc2 a_as a_sk)), (a_as, (arI G 8 f_as)), (a_sk, (arJ G 50 f_sk)), (a_l, (arW G 6 f_l)), (a_pt, (arI G 200 f_pt)), (a_ha, (oc0 a_h a_k e_f1 e_f2 e_f3))] sz) := by
  refine Met.ofW (cc := cX11_hang) (maxL := 2) (ret := (some .int)) (by decide +kernel) rfl ?_
  intro p e s m args below meth c s₁ B hml hv
  obtain ⟨rfl, hsz, hP, hK, hD0, hN, hT⟩ := hv
  have hx := B.exec
  have hb := B.bytes
  have hr := B.returns
  have hts : ∀ w ∈ tblG, w.before _ s = true := fun w h => atoms_spec (ws := (wsG yX11_hang cX11_hang 2 (some .int))) B.pre w (List.mem_cons_of_mem _ h)
  have hown : s.vm.findClass RX11 = some m.cls := findClass_of_methodNamed B.named
  have hlocks := B.notSynchronized
  subst hsz
  have hD := hD0.self (sz := s.heap.size)
  generalize hAe : va_A [(a_o, (oc11 a_h a_im a_ke a_k a_wa a_th a_ha a_wk a_r a_x e_tl e_fd e_fpl a_wd e_wn a_rf e_lr)), (a_k, (oc5 a_h a_j a_pt e_ln e_se e_lh e_br e_we e_me e_ce e_wy e_ho e_ov)), (a_h, (oc1 e_wa e_le e_st e_fo e_lc a_l a_g a_b a_s a_p a_w e_gb a_bb)), (a_g, (oc6 6 5 a_gn e_g)), (a_gn, (arI G 30 f_g)), (a_b, (oc6 5 24 a_bn e_b)), (a_bn, (arI G 120 f_b)), (a_p, (oc6 8 5 a_pn e_p)), (a_pn, (arI G 40 f_p)), (a_w, (oc6 6 6 a_wn e_w)), (a_wn, (arI G 36 f_w)), (a_bb, (arJ G 24 f_bb)), (a_j, (oc2 a_as a_sk)), (a_as, (arI G 8 f_as)), (a_sk, (arJ G 50 f_sk)), (a_l, (arW G 6 f_l)), (a_pt, (arI G 200 f_pt)), (a_ha, (oc0 a_h a_k e_f1 e_f2 e_f3))] s.heap.size = A at hD hT ⊢
  have hA : ∀ q : Nat, s.heap.size ≤ q → A q := fun q h => by rw [← hAe]; exact Or.inr h
  have hS : va_S A s.heap s.heap [] := va_S.rf
  replace hP : va_P G.1 vwCl [(a_o, (oc11 a_h a_im a_ke a_k a_wa a_th a_ha a_wk a_r a_x e_tl e_fd e_fpl a_wd e_wn a_rf e_lr)), (a_k, (oc5 a_h a_j a_pt e_ln e_se e_lh e_br e_we e_me e_ce e_wy e_ho e_ov)), (a_h, (oc1 e_wa e_le e_st e_fo e_lc a_l a_g a_b a_s a_p a_w e_gb a_bb)), (a_g, (oc6 6 5 a_gn e_g)), (a_gn, (arI G 30 f_g)), (a_b, (oc6 5 24 a_bn e_b)), (a_bn, (arI G 120 f_b)), (a_p, (oc6 8 5 a_pn e_p)), (a_pn, (arI G 40 f_p)), (a_w, (oc6 6 6 a_wn e_w)), (a_wn, (arI G 36 f_w)), (a_bb, (arJ G 24 f_bb)), (a_j, (oc2 a_as a_sk)), (a_as, (arI G 8 f_as)), (a_sk, (arJ G 50 f_sk)), (a_l, (arW G 6 f_l)), (a_pt, (arI G 200 f_pt)), (a_ha, (oc0 a_h a_k e_f1 e_f2 e_f3))] s.heap := hP
  have hl := lv_entry ([.ref a_o, .int p_t]) (n := 2) (Nat.le_of_ble_eq_true rfl)
  rw [lg_entry_eq]
  generalize (lg_sl ([.ref a_o, .int p_t]) ++ List.replicate (2 - (lg_sl ([.ref a_o, .int p_t])).length) Slot.unset).toArray = ls at hl ⊢
  replace hl : lv_has ls 2 [(0, .ref a_o), (1, .int p_t)] := hl
  refine lv_iload_n hx hb dX11_hang_0 rfl (lv_at hl 1 rfl) ?_
  refine lv_if_lt (tgt := 9) hx hb dX11_hang_1 (by decide +kernel) (fun c_1 => ?_) (fun c_1 => ?_)
  ·
    have i_1 : p_t.toInt < 0 := g5_lt (a := p_t.toInt) (b := 0) rfl (by decide +kernel) c_1
    refine lv_iconst (v := (-1)) hx hb dX11_hang_9 (by decide +kernel) ?_
    exact W.iret (v := (-1)) hx hb hr (fun t ht hW => ⟨⟨(-1), [(a_o, (oc11 a_h a_im a_ke a_k a_wa a_th a_ha a_wk a_r a_x e_tl e_fd e_fpl a_wd e_wn a_rf e_lr)), (a_k, (oc5 a_h a_j a_pt e_ln e_se e_lh e_br e_we e_me e_ce e_wy e_ho e_ov)), (a_h, (oc1 e_wa e_le e_st e_fo e_lc a_l a_g a_b a_s a_p a_w e_gb a_bb)), (a_g, (oc6 6 5 a_gn e_g)), (a_gn, (arI G 30 f_g)), (a_b, (oc6 5 24 a_bn e_b)), (a_bn, (arI G 120 f_b)), (a_p, (oc6 8 5 a_pn e_p)), (a_pn, (arI G 40 f_p)), (a_w, (oc6 6 6 a_wn e_w)), (a_wn, (arI G 36 f_w)), (a_bb, (arJ G 24 f_bb)), (a_j, (oc2 a_as a_sk)), (a_as, (arI G 8 f_as)), (a_sk, (arJ G 50 f_sk)), (a_l, (arW G 6 f_l)), (a_pt, (arI G 200 f_pt)), (a_ha, (oc0 a_h a_k e_f1 e_f2 e_f3))], rfl, ⟨(-1), e_ln, e_se, e_lh, e_br, e_we, e_me, e_ce, e_wy, e_ho, e_ov, f_pt, f_as, f_sk, e_f1, e_f2, e_f3, h_e_ov, rfl, rfl⟩, by rw [ht]; exact hP.sub [0, 1, 2, 3, 4, 5, 6, 7, 8, 9, 10, 11, 12, 13, 14, 15, 16, 17] rfl, hD.sub [0, 1, 2, 3, 4, 5, 6, 7, 8, 9, 10, 11, 12, 13, 14, 15, 16, 17] (by decide +kernel) rfl⟩, hS.F ht⟩) hS.2.2 dX11_hang_10
  ·
    have i_1 : p_t.toInt ≥ 0 := g5_ltN (a := p_t.toInt) (b := 0) rfl (by decide +kernel) c_1
    refine lv_iload_n hx hb dX11_hang_4 rfl (lv_at hl 1 rfl) ?_
    refine lv_iconst (v := 2) hx hb dX11_hang_5 (by decide +kernel) ?_
    refine lv_icmp_le (tgt := 11) hx hb dX11_hang_6 (by decide +kernel) (fun c_2 => ?_) (fun c_2 => ?_)
    ·
      have i_2 : p_t.toInt ≤ 2 := g5_le (a := p_t.toInt) (b := 2) rfl (by decide +kernel) c_2
      refine lv_aload_n hx hb dX11_hang_11 rfl (lv_at hl 0 rfl) ?_
      refine va_get (D := G.1) (ci := 11) (v := .ref a_ha) (C := RX11) (T := TX11) (N := 17) hx hb hts inG_X11 hown hK hP 0 rfl rfl 6 (by decide +kernel) (hts _ fl_X11_52) (fun _ h9 => h9) rfl dX11_hang_12 ?_
      obtain ⟨hPc, hDc, hFc⟩ := g5_sub3 (wc := [(a_k, (oc5 a_h a_j a_pt e_ln e_se e_lh e_br e_we e_me e_ce e_wy e_ho e_ov)), (a_h, (oc1 e_wa e_le e_st e_fo e_lc a_l a_g a_b a_s a_p a_w e_gb a_bb)), (a_g, (oc6 6 5 a_gn e_g)), (a_gn, (arI G 30 f_g)), (a_b, (oc6 5 24 a_bn e_b)), (a_bn, (arI G 120 f_b)), (a_p, (oc6 8 5 a_pn e_p)), (a_pn, (arI G 40 f_p)), (a_w, (oc6 6 6 a_wn e_w)), (a_wn, (arI G 36 f_w)), (a_bb, (arJ G 24 f_bb)), (a_j, (oc2 a_as a_sk)), (a_as, (arI G 8 f_as)), (a_sk, (arJ G 50 f_sk)), (a_l, (arW G 6 f_l)), (a_pt, (arI G 200 f_pt)), (a_ha, (oc0 a_h a_k e_f1 e_f2 e_f3))]) hP hD hS hA [1, 2, 3, 4, 5, 6, 7, 8, 9, 10, 11, 12, 13, 14, 15, 16, 17] (by decide +kernel) rfl
      refine va_callv (va_runV (As := []) (rest := []) ⟨hx, hb, hml, hown, hts⟩ (g_searchN l G a_k a_h a_g a_gn a_b a_bn a_p a_pn a_w a_wn a_bb a_j a_as a_sk a_l a_pt a_ha a_s s.heap.size e_le e_st e_fo e_lc e_g e_b e_p e_w e_ln e_se e_lh e_br e_we e_me e_ce e_wy e_ho e_ov e_f1 e_f2 e_f3 e_wa e_gb f_g f_b f_p f_w f_bb f_as f_sk f_l f_pt h_e_g h_e_b h_e_p h_e_w h_e_ov (e_gk) (e_pk) (e_gi) (e_f)) (cwV 0 hts gV_X11_315 rfl rfl rfl hv_X0_search ⟨Nat.le_of_ble_eq_true rfl, Nat.le_of_ble_eq_true rfl⟩) (g5_preV hPc hK hDc hN hT hS hFc (ci := 0) (q0 := 16) rfl rfl) rfl rfl hl.1 rfl (lv_room (Nat.le_of_ble_eq_true rfl)) dX11_hang_15 ⟨Nat.le_of_ble_eq_true rfl, Nat.le_of_ble_eq_true rfl⟩) hS (fun q _ h => hFc q h) hFc (fun u t H locs ht hvm hw hB hz1 hk1 hS => ?_)
      obtain ⟨hP1, hD1⟩ := hB
      have hP1 := g5_ht ht hP1
      obtain ⟨z4, z5, z6, z7, z8, z9, z10, z11, z12, z13, z14, z15, z16, z17, z18, z19, (i_3 : 0 ≤ z13.toInt ∧ z13.toInt ≤ 1), rfl⟩ := hw
      have hJ9 := va_join (wr := [(a_o, (oc11 a_h a_im a_ke a_k a_wa a_th a_ha a_wk a_r a_x e_tl e_fd e_fpl a_wd e_wn a_rf e_lr))]) hP hD [1, 2, 3, 4, 5, 6, 7, 8, 9, 10, 11, 12, 13, 14, 15, 16, 17] [0] rfl rfl (by decide +kernel) (by decide +kernel) hk1 hFc hP1 hD1
      clear hP hD hPc hDc hFc ht hvm hz1 hk1 hP1 hD1
      obtain ⟨hP, hD⟩ := hJ9
      refine g5_rs [(a_o, (oc11 a_h a_im a_ke a_k a_wa a_th a_ha a_wk a_r a_x e_tl e_fd e_fpl a_wd e_wn a_rf e_lr)), (a_k, (oc5 a_h a_j a_pt z4 z5 z6 z7 z8 z9 z10 z11 z12 z13)), (a_h, (oc1 e_wa e_le e_st e_fo e_lc a_l a_g a_b a_s a_p a_w e_gb a_bb)), (a_g, (oc6 6 5 a_gn e_g)), (a_gn, (arI G 30 f_g)), (a_b, (oc6 5 24 a_bn e_b)), (a_bn, (arI G 120 f_b)), (a_p, (oc6 8 5 a_pn e_p)), (a_pn, (arI G 40 f_p)), (a_w, (oc6 6 6 a_wn e_w)), (a_wn, (arI G 36 f_w)), (a_bb, (arJ G 24 f_bb)), (a_j, (oc2 a_as a_sk)), (a_as, (arI G 8 z15)), (a_sk, (arJ G 50 z16)), (a_l, (arW G 6 f_l)), (a_pt, (arI G 200 z14)), (a_ha, (oc0 a_h a_k z17 z18 z19))] hP hD ?_
      clear hP hD
      intro hP hD
      refine lv_iload_n hx hb dX11_hang_18 rfl (lv_at hl 1 rfl) ?_
      refine W.eq (g2 := F0 m 19 ls [.int p_t]) rfl ?_
      refine lv_if_ne (tgt := 32) hx hb dX11_hang_19 (by decide +kernel) (fun c_20 => ?_) (fun c_20 => ?_)
      ·
        have n_20 : gNe (p_t.toInt) (0) := g5_ne (a := p_t.toInt) (b := 0) rfl (by decide +kernel) c_20
        have i_20 : p_t.toInt ≥ 1 := by have z := g5_ne (a := p_t.toInt) (b := 0) (by rfl) (by decide +kernel) c_20; omega
        refine lv_iload_n hx hb dX11_hang_32 rfl (lv_at hl 1 rfl) ?_
        refine lv_iconst (v := 1) hx hb dX11_hang_33 (by decide +kernel) ?_
        refine lv_icmp_ne (tgt := 47) hx hb dX11_hang_34 (by decide +kernel) (fun c_21 => ?_) (fun c_21 => ?_)
        ·
          have n_21 : gNe (p_t.toInt) (1) := g5_ne (a := p_t.toInt) (b := 1) rfl (by decide +kernel) c_21
          have i_21 : p_t.toInt ≥ 2 := by have z := g5_ne (a := p_t.toInt) (b := 1) (by rfl) (by decide +kernel) c_21; omega
          refine lv_aload_n hx hb dX11_hang_47 rfl (lv_at hl 0 rfl) ?_
          refine va_get (D := G.1) (ci := 11) (v := .ref a_ha) (C := RX11) (T := TX11) (N := 17) hx hb hts inG_X11 hown hK hP 0 rfl rfl 6 (by decide +kernel) (hts _ fl_X11_52) (fun _ h9 => h9) rfl dX11_hang_48 ?_
          refine va_get (D := G.1) (ci := 0) (v := .int z19) (C := RX0) (T := TX0) (N := 5) hx hb hts inG_X0 hown hK hP 17 rfl rfl 4 (by decide +kernel) (hts _ fl_X11_324) (fun _ h9 => h9) rfl dX11_hang_51 ?_
          exact W.iret (v := z19) hx hb hr (fun t ht hW => ⟨⟨z19, [(a_o, (oc11 a_h a_im a_ke a_k a_wa a_th a_ha a_wk a_r a_x e_tl e_fd e_fpl a_wd e_wn a_rf e_lr)), (a_k, (oc5 a_h a_j a_pt z4 z5 z6 z7 z8 z9 z10 z11 z12 z13)), (a_h, (oc1 e_wa e_le e_st e_fo e_lc a_l a_g a_b a_s a_p a_w e_gb a_bb)), (a_g, (oc6 6 5 a_gn e_g)), (a_gn, (arI G 30 f_g)), (a_b, (oc6 5 24 a_bn e_b)), (a_bn, (arI G 120 f_b)), (a_p, (oc6 8 5 a_pn e_p)), (a_pn, (arI G 40 f_p)), (a_w, (oc6 6 6 a_wn e_w)), (a_wn, (arI G 36 f_w)), (a_bb, (arJ G 24 f_bb)), (a_j, (oc2 a_as a_sk)), (a_as, (arI G 8 z15)), (a_sk, (arJ G 50 z16)), (a_l, (arW G 6 f_l)), (a_pt, (arI G 200 z14)), (a_ha, (oc0 a_h a_k z17 z18 z19))], rfl, ⟨z19, z4, z5, z6, z7, z8, z9, z10, z11, z12, z13, z14, z15, z16, z17, z18, z19, i_3, rfl, rfl⟩, by rw [ht]; exact hP.sub [0, 1, 2, 3, 4, 5, 6, 7, 8, 9, 10, 11, 12, 13, 14, 15, 16, 17] rfl, hD.sub [0, 1, 2, 3, 4, 5, 6, 7, 8, 9, 10, 11, 12, 13, 14, 15, 16, 17] (by decide +kernel) rfl⟩, hS.F ht⟩) hS.2.2 dX11_hang_54
        ·
          have i_21 : p_t.toInt = 1 := g5_neN (a := p_t.toInt) (b := 1) rfl (by decide +kernel) c_21
          refine lv_aload_n hx hb dX11_hang_37 rfl (lv_at hl 0 rfl) ?_
          refine va_get (D := G.1) (ci := 11) (v := .ref a_ha) (C := RX11) (T := TX11) (N := 17) hx hb hts inG_X11 hown hK hP 0 rfl rfl 6 (by decide +kernel) (hts _ fl_X11_52) (fun _ h9 => h9) rfl dX11_hang_38 ?_
          refine va_get (D := G.1) (ci := 0) (v := .int z18) (C := RX0) (T := TX0) (N := 5) hx hb hts inG_X0 hown hK hP 17 rfl rfl 3 (by decide +kernel) (hts _ fl_X11_321) (fun _ h9 => h9) rfl dX11_hang_41 ?_
          refine lv_goto (tgt := 54) hx hb dX11_hang_44 (by decide +kernel) ?_
          refine W.eq (g2 := F0 m 54 ls [.int z18]) rfl ?_
          exact W.iret (v := z18) hx hb hr (fun t ht hW => ⟨⟨z18, [(a_o, (oc11 a_h a_im a_ke a_k a_wa a_th a_ha a_wk a_r a_x e_tl e_fd e_fpl a_wd e_wn a_rf e_lr)), (a_k, (oc5 a_h a_j a_pt z4 z5 z6 z7 z8 z9 z10 z11 z12 z13)), (a_h, (oc1 e_wa e_le e_st e_fo e_lc a_l a_g a_b a_s a_p a_w e_gb a_bb)), (a_g, (oc6 6 5 a_gn e_g)), (a_gn, (arI G 30 f_g)), (a_b, (oc6 5 24 a_bn e_b)), (a_bn, (arI G 120 f_b)), (a_p, (oc6 8 5 a_pn e_p)), (a_pn, (arI G 40 f_p)), (a_w, (oc6 6 6 a_wn e_w)), (a_wn, (arI G 36 f_w)), (a_bb, (arJ G 24 f_bb)), (a_j, (oc2 a_as a_sk)), (a_as, (arI G 8 z15)), (a_sk, (arJ G 50 z16)), (a_l, (arW G 6 f_l)), (a_pt, (arI G 200 z14)), (a_ha, (oc0 a_h a_k z17 z18 z19))], rfl, ⟨z18, z4, z5, z6, z7, z8, z9, z10, z11, z12, z13, z14, z15, z16, z17, z18, z19, i_3, rfl, rfl⟩, by rw [ht]; exact hP.sub [0, 1, 2, 3, 4, 5, 6, 7, 8, 9, 10, 11, 12, 13, 14, 15, 16, 17] rfl, hD.sub [0, 1, 2, 3, 4, 5, 6, 7, 8, 9, 10, 11, 12, 13, 14, 15, 16, 17] (by decide +kernel) rfl⟩, hS.F ht⟩) hS.2.2 dX11_hang_54
      ·
        have i_20 : p_t.toInt = 0 := g5_neN (a := p_t.toInt) (b := 0) rfl (by decide +kernel) c_20
        refine lv_aload_n hx hb dX11_hang_22 rfl (lv_at hl 0 rfl) ?_
        refine va_get (D := G.1) (ci := 11) (v := .ref a_ha) (C := RX11) (T := TX11) (N := 17) hx hb hts inG_X11 hown hK hP 0 rfl rfl 6 (by decide +kernel) (hts _ fl_X11_52) (fun _ h9 => h9) rfl dX11_hang_23 ?_
        refine va_get (D := G.1) (ci := 0) (v := .int z17) (C := RX0) (T := TX0) (N := 5) hx hb hts inG_X0 hown hK hP 17 rfl rfl 2 (by decide +kernel) (hts _ fl_X11_318) (fun _ h9 => h9) rfl dX11_hang_26 ?_
        refine lv_goto (tgt := 54) hx hb dX11_hang_29 (by decide +kernel) ?_
        refine W.eq (g2 := F0 m 54 ls [.int z17]) rfl ?_
        exact W.iret (v := z17) hx hb hr (fun t ht hW => ⟨⟨z17, [(a_o, (oc11 a_h a_im a_ke a_k a_wa a_th a_ha a_wk a_r a_x e_tl e_fd e_fpl a_wd e_wn a_rf e_lr)), (a_k, (oc5 a_h a_j a_pt z4 z5 z6 z7 z8 z9 z10 z11 z12 z13)), (a_h, (oc1 e_wa e_le e_st e_fo e_lc a_l a_g a_b a_s a_p a_w e_gb a_bb)), (a_g, (oc6 6 5 a_gn e_g)), (a_gn, (arI G 30 f_g)), (a_b, (oc6 5 24 a_bn e_b)), (a_bn, (arI G 120 f_b)), (a_p, (oc6 8 5 a_pn e_p)), (a_pn, (arI G 40 f_p)), (a_w, (oc6 6 6 a_wn e_w)), (a_wn, (arI G 36 f_w)), (a_bb, (arJ G 24 f_bb)), (a_j, (oc2 a_as a_sk)), (a_as, (arI G 8 z15)), (a_sk, (arJ G 50 z16)), (a_l, (arW G 6 f_l)), (a_pt, (arI G 200 z14)), (a_ha, (oc0 a_h a_k z17 z18 z19))], rfl, ⟨z17, z4, z5, z6, z7, z8, z9, z10, z11, z12, z13, z14, z15, z16, z17, z18, z19, i_3, rfl, rfl⟩, by rw [ht]; exact hP.sub [0, 1, 2, 3, 4, 5, 6, 7, 8, 9, 10, 11, 12, 13, 14, 15, 16, 17] rfl, hD.sub [0, 1, 2, 3, 4, 5, 6, 7, 8, 9, 10, 11, 12, 13, 14, 15, 16, 17] (by decide +kernel) rfl⟩, hS.F ht⟩) hS.2.2 dX11_hang_54
    ·
      have i_2 : p_t.toInt > 2 := g5_leN (a := p_t.toInt) (b := 2) rfl (by decide +kernel) c_2
      refine lv_iconst (v := (-1)) hx hb dX11_hang_9 (by decide +kernel) ?_
      exact W.iret (v := (-1)) hx hb hr (fun t ht hW => ⟨⟨(-1), [(a_o, (oc11 a_h a_im a_ke a_k a_wa a_th a_ha a_wk a_r a_x e_tl e_fd e_fpl a_wd e_wn a_rf e_lr)), (a_k, (oc5 a_h a_j a_pt e_ln e_se e_lh e_br e_we e_me e_ce e_wy e_ho e_ov)), (a_h, (oc1 e_wa e_le e_st e_fo e_lc a_l a_g a_b a_s a_p a_w e_gb a_bb)), (a_g, (oc6 6 5 a_gn e_g)), (a_gn, (arI G 30 f_g)), (a_b, (oc6 5 24 a_bn e_b)), (a_bn, (arI G 120 f_b)), (a_p, (oc6 8 5 a_pn e_p)), (a_pn, (arI G 40 f_p)), (a_w, (oc6 6 6 a_wn e_w)), (a_wn, (arI G 36 f_w)), (a_bb, (arJ G 24 f_bb)), (a_j, (oc2 a_as a_sk)), (a_as, (arI G 8 f_as)), (a_sk, (arJ G 50 f_sk)), (a_l, (arW G 6 f_l)), (a_pt, (arI G 200 f_pt)), (a_ha, (oc0 a_h a_k e_f1 e_f2 e_f3))], rfl, ⟨(-1), e_ln, e_se, e_lh, e_br, e_we, e_me, e_ce, e_wy, e_ho, e_ov, f_pt, f_as, f_sk, e_f1, e_f2, e_f3, h_e_ov, rfl, rfl⟩, by rw [ht]; exact hP.sub [0, 1, 2, 3, 4, 5, 6, 7, 8, 9, 10, 11, 12, 13, 14, 15, 16, 17] rfl, hD.sub [0, 1, 2, 3, 4, 5, 6, 7, 8, 9, 10, 11, 12, 13, 14, 15, 16, 17] (by decide +kernel) rfl⟩, hS.F ht⟩) hS.2.2 dX11_hang_10
theorem dgX11_soonest_0 : ∀ r ∈ ([(0, (.aload_n 0, 1)), (1, (.iload_n 1, 1)), (2, (.iload_n 2, 1)), (3, (.iload_n 3, 1)), (4, (.invokevirtual 327, 3)), (7, (.ifCond .ne 5, 3)), (10, (.iconst (-1), 1)), (11, (.ireturn, 1)), (12, (.aload_n 0, 1)), (13, (.getfield 59, 3)), (16, (.iload_n 1, 1)), (17, (.iload_n 2, 1)), (18, (.iload_n 3, 1)), (19, (.bipush 24, 2)), (21, (.invokevirtual 330, 3)), (24, (.ireturn, 1))] : List (Nat × (Instr × Nat))), decode cX11_soonest r.1 = .ok r.2 := by decide +kernel
theorem dX11_soonest_0 : decode cX11_soonest 0 = .ok (.aload_n 0, 1) := dgX11_soonest_0 (0, (.aload_n 0, 1)) (List.mem_of_getElem? (i := 0) rfl)
theorem dX11_soonest_1 : decode cX11_soonest 1 = .ok (.iload_n 1, 1) := dgX11_soonest_0 (1, (.iload_n 1, 1)) (List.mem_of_getElem? (i := 1) rfl)
theorem dX11_soonest_2 : decode cX11_soonest 2 = .ok (.iload_n 2, 1) := dgX11_soonest_0 (2, (.iload_n 2, 1)) (List.mem_of_getElem? (i := 2) rfl)
theorem dX11_soonest_3 : decode cX11_soonest 3 = .ok (.iload_n 3, 1) := dgX11_soonest_0 (3, (.iload_n 3, 1)) (List.mem_of_getElem? (i := 3) rfl)
theorem dX11_soonest_4 : decode cX11_soonest 4 = .ok (.invokevirtual 327, 3) := dgX11_soonest_0 (4, (.invokevirtual 327, 3)) (List.mem_of_getElem? (i := 4) rfl)
theorem dX11_soonest_7 : decode cX11_soonest 7 = .ok (.ifCond .ne 5, 3) := dgX11_soonest_0 (7, (.ifCond .ne 5, 3)) (List.mem_of_getElem? (i := 5) rfl)
theorem dX11_soonest_10 : decode cX11_soonest 10 = .ok (.iconst (-1), 1) := dgX11_soonest_0 (10, (.iconst (-1), 1)) (List.mem_of_getElem? (i := 6) rfl)
theorem dX11_soonest_11 : decode cX11_soonest 11 = .ok (.ireturn, 1) := dgX11_soonest_0 (11, (.ireturn, 1)) (List.mem_of_getElem? (i := 7) rfl)
theorem dX11_soonest_12 : decode cX11_soonest 12 = .ok (.aload_n 0, 1) := dgX11_soonest_0 (12, (.aload_n 0, 1)) (List.mem_of_getElem? (i := 8) rfl)
theorem dX11_soonest_13 : decode cX11_soonest 13 = .ok (.getfield 59, 3) := dgX11_soonest_0 (13, (.getfield 59, 3)) (List.mem_of_getElem? (i := 9) rfl)
theorem dX11_soonest_16 : decode cX11_soonest 16 = .ok (.iload_n 1, 1) := dgX11_soonest_0 (16, (.iload_n 1, 1)) (List.mem_of_getElem? (i := 10) rfl)
theorem dX11_soonest_17 : decode cX11_soonest 17 = .ok (.iload_n 2, 1) := dgX11_soonest_0 (17, (.iload_n 2, 1)) (List.mem_of_getElem? (i := 11) rfl)
theorem dX11_soonest_18 : decode cX11_soonest 18 = .ok (.iload_n 3, 1) := dgX11_soonest_0 (18, (.iload_n 3, 1)) (List.mem_of_getElem? (i := 12) rfl)
theorem dX11_soonest_19 : decode cX11_soonest 19 = .ok (.bipush 24, 2) := dgX11_soonest_0 (19, (.bipush 24, 2)) (List.mem_of_getElem? (i := 13) rfl)
theorem dX11_soonest_21 : decode cX11_soonest 21 = .ok (.invokevirtual 330, 3) := dgX11_soonest_0 (21, (.invokevirtual 330, 3)) (List.mem_of_getElem? (i := 14) rfl)
theorem dX11_soonest_24 : decode cX11_soonest 24 = .ok (.ireturn, 1) := dgX11_soonest_0 (24, (.ireturn, 1)) (List.mem_of_getElem? (i := 15) rfl)
theorem ml_X11_327 : Cond.methodLink RX11 327 yX11_canWalk ∈ tblG := tg 1097 (by decide +kernel) (by decide +kernel)
theorem im_X11_canWalk : Cond.instanceMethod yX11_canWalk ∈ tblG := tg 1099 (by decide +kernel) (by decide +kernel)
theorem se_X11_canWalk : Cond.selects RX11 yX11_canWalk yX11_canWalk ∈ tblG := tg 26 (by decide +kernel) (by decide +kernel)
theorem cd_X11_canWalk : Cond.code yX11_canWalk cX11_canWalk 4 (some .boolean) ∈ tblG := tg 1100 (by decide +kernel) (by decide +kernel)
theorem gW_X11_canWalk : GoodIn tblG (wsG yX11_canWalk cX11_canWalk 4 (some .boolean)) := tgi cd_X11_canWalk
theorem gV_X11_327 : GoodIn tblG (wsV RX11 327 RX11 yX11_canWalk (wsG yX11_canWalk cX11_canWalk 4 (some .boolean))) := tgV ml_X11_327 im_X11_canWalk se_X11_canWalk ini_X11 gW_X11_canWalk
theorem hv_X11_canWalk : yX11_canWalk.cls = RX11 ∧ yX11_canWalk.cls ≠ "java/lang/invoke/MethodHandle" ∧ yX11_canWalk.cls ≠ "java/lang/invoke/VarHandle" ∧ (parseMethodDescriptor yX11_canWalk.desc).map (fun d => d.parameters.length) = some 3 := by decide +kernel
theorem fl_X11_59 : Cond.fieldLink RX11 59 "LateGlass" "walker" "LLateGlass$Walker;" ∈ tblG := tg 451 (by decide +kernel) (by decide +kernel)
theorem ml_X11_330 : Cond.methodLink RX11 330 yX9_firstSight ∈ tblG := tg 1101 (by decide +kernel) (by decide +kernel)
theorem im_X9_firstSight : Cond.instanceMethod yX9_firstSight ∈ tblG := tg 1102 (by decide +kernel) (by decide +kernel)
theorem se_X9_firstSight : Cond.selects RX9 yX9_firstSight yX9_firstSight ∈ tblG := tg 1103 (by decide +kernel) (by decide +kernel)
theorem cd_X9_firstSight : Cond.code yX9_firstSight cX9_firstSight 13 (some .int) ∈ tblG := tg 1104 (by decide +kernel) (by decide +kernel)
theorem gW_X9_firstSight : GoodIn tblG (wsG yX9_firstSight cX9_firstSight 13 (some .int)) := tgi cd_X9_firstSight
theorem gV_X11_330 : GoodIn tblG (wsV RX11 330 RX9 yX9_firstSight (wsG yX9_firstSight cX9_firstSight 13 (some .int))) := tgV ml_X11_330 im_X9_firstSight se_X9_firstSight ini_X9 gW_X9_firstSight
theorem hv_X9_firstSight : yX9_firstSight.cls = RX9 ∧ yX9_firstSight.cls ≠ "java/lang/invoke/MethodHandle" ∧ yX9_firstSight.cls ≠ "java/lang/invoke/VarHandle" ∧ (parseMethodDescriptor yX9_firstSight.desc).map (fun d => d.parameters.length) = some 4 := by decide +kernel
set_option maxHeartbeats 4000000 in
set_option maxRecDepth 100000 in
theorem x_soonestN (l : Launch) (G : g5_G) (a_o a_k a_h a_g a_gn a_b a_bn a_p a_pn a_bb a_j a_as a_sk a_l a_pt a_wk a_go a_mt a_im a_ke a_wa a_th a_ha a_r a_x a_wd a_rf a_s a_w : Nat) (sz : Nat) (e_tl : Int32) (e_fd : Int32) (e_fpl : Int32) (e_wn : Int32) (e_lr : Int32) (e_le : Int32) (e_st : Int32) (e_fo : Int32) (e_lc : Int32) (e_g : Int32) (e_b : Int32) (e_p : Int32) (e_ln : Int32) (e_se : Int32) (e_lh : Int32) (e_br : Int32) (e_we : Int32) (e_me : Int32) (e_ce : Int32) (e_wy : Int32) (e_ho : Int32) (e_ov : Int32) (p_b : Int32) (p_c : Int32) (p_h : Int32) (e_wa : Int64) (e_gb : Int64) (f_g : Nat → Int32) (f_b : Nat → Int32) (f_p : Nat → Int32) (f_bb : Nat → Int64) (f_as : Nat → Int32) (f_sk : Nat → Int64) (f_l : Nat → Option Nat) (f_pt : Nat → Int32) (f_go : Nat → Int64) (f_mt : Nat → Int32) (h_e_tl : 0 ≤ e_tl.toInt ∧ e_tl.toInt ≤ 400) (h_e_wn : 0 ≤ e_wn.toInt ∧ e_wn.toInt ≤ 1) (h_e_g : 0 ≤ e_g.toInt ∧ e_g.toInt ≤ 6) (h_e_b : 0 ≤ e_b.toInt ∧ e_b.toInt ≤ 5) (h_e_p : 0 ≤ e_p.toInt ∧ e_p.toInt ≤ 8) (h_e_ov : 0 ≤ e_ov.toInt ∧ e_ov.toInt ≤ 1) (e_gk : gOK f_g e_g.toInt) (e_pk : gOK f_p e_p.toInt) (e_gi : inT e_gb f_g e_g.toInt) (e_f : e_fo.toInt < 0 ∨ e_lc.toInt ≤ e_fo.toInt) : Met l yX11_soonest (wsG yX11_soonest cX11_soonest 4 (some .int)) ({ frames := 16, cells := 0, slots := 0, locals := 612 }) (va_Pc [.ref a_o, .int p_b, .int p_c, .int p_h] (g5_P G [(a_o, (oc11 a_h a_im a_ke a_k a_wa a_th a_ha a_wk a_r a_x e_tl e_fd e_fpl a_wd e_wn a_rf e_lr)), (a_k, (oc5 a_h a_j a_pt e_ln e_se e_lh e_br e_we e_me e_ce e_wy e_ho e_ov)), (a_h, (oc1 e_wa e_le e_st e_fo e_lc a_l a_g a_b a_s a_p a_w e_gb a_bb)), (a_g, (oc6 6 5 a_gn e_g)), (a_gn, (arI G 30 f_g)), (a_b, (oc6 5 24 a_bn e_b)), (a_bn, (arI G 120 f_b)), (a_p, (oc6 8 5 a_pn e_p)), (a_pn, (arI G 40 f_p)), (a_bb, (arJ G 24 f_bb)), (a_j, (oc2 a_as a_sk)), (a_as, (arI G 8 f_as)), (a_sk, (arJ G 50 f_sk)), (a_l, (arW G 6 f_l)), (a_pt, (arI G 200 f_pt)), (a_wk, (oc9 a_h a_k a_go a_mt)), (a_go, (arJ G 24 f_go)), (a_mt, (arI G 1536 f_mt))] sz)) (va_Qi (fun (r : Int32) (u : va_W) => (∃ (o_r : Int32) (o_ln : Int32) (o_se : Int32) (o_lh : Int32) (o_br : Int32) (o_we : Int32) (o_me : Int32) (o_ce : Int32) (o_wy : Int32) (o_ho : Int32) (o_ov : Int32) (o_pt : Nat → Int32) (o_as : Nat → Int32) (o_sk : Nat → Int64) (o_go : Nat → Int64) (o_mt : Nat → Int32), (0 ≤ o_ov.toInt ∧ o_ov.toInt ≤ 1) ∧ (r = o_r) ∧ (u = [(a_o, (oc11 a_h a_im a_ke a_k a_wa a_th a_ha a_wk a_r a_x e_tl e_fd e_fpl a_wd e_wn a_rf e_lr)), (a_k, (oc5 a_h a_j a_pt o_ln o_se o_lh o_br o_we o_me o_ce o_wy o_ho o_ov)), (a_h, (oc1 e_wa e_le e_st e_fo e_lc a_l a_g a_b a_s a_p a_w e_gb a_bb)), (a_g, (oc6 6 5 a_gn e_g)), (a_gn, (arI G 30 f_g)), (a_b, (oc6 5 24 a_bn e_b)), (a_bn, (arI G 120 f_b)), (a_p, (oc6 8 5 a_pn e_p)), (a_pn, (arI G 40 f_p)), (a_bb, (arJ G 24 f_bb)), (a_j, (oc2 a_as a_sk)), (a_as, (arI G 8 o_as)), (a_sk, (arJ G 50 o_sk)), (a_l, (arW G 6 f_l)), (a_pt, (arI G 200 o_pt)), (a_wk, (oc9 a_h a_k a_go a_mt)), (a_go, (arJ G 24 o_go)), (a_mt, (arI G 1536 o_mt))]))) (g5_B G (va_A [(a_o, (oc11 a_h a_im a_ke a_k a_wa a_th a_ha a_wk a_r a_x e_tl e_fd e_fpl a_wd e_wn a_rf e_lr)), (a_k, (oc5 a_h a_j a_pt e_ln e_se e_lh e_br e_we e_me e_ce e_wy e_ho e_ov)), (a_h, (oc1 e_wa e_le e_st e_fo e_lc a_l a_g a_b a_s a_p a_w e_gb a_bb)), (a_g, (oc6 6 5 a_gn e_g)), (a_gn, (arI G 30 f_g)), (a_b, (oc6 5 24 a_bn e_b)), (a_bn, (arI G 120 f_b)), (a_p, (oc6 8 5 a_pn e_p)), (a_pn, (arI G 40 f_p)), (a_bb, (arJ G 24 f_bb)), (a_j, (oc2 a_as a_sk)), (a_as, (arI G 8 f_as)), (a_sk, (arJ G 50 f_sk)), (a_l, (arW G 6 f_l)), (a_pt, (arI G 200 f_pt)), (a_wk, (oc9 a_h a_k a_go a_mt)), (a_go, (arJ G 24 f_go)), (a_mt, (arI G 1536 f_mt))] sz)) (va_A [(a_o, (oc11 a_h a_im a_ke a_k a_wa a_th a_ha a_wk a_r a_x e_tl e_fd e_fpl a_wd e_wn a_rf e_lr)), (a_k, (oc5 a_h a_j a_pt e_ln e_se e_lh e_br e_we e_me e_ce e_wy e_ho e_ov)), (a_h, (oc1 e_wa e_le e_st e_fo e_lc a_l a_g a_b a_s a_p a_w e_gb a_bb)), (a_g, (oc6 6 5 a_gn e_g)), (a_gn, (arI G 30 f_g)), (a_b, (oc6 5 24 a_bn e_b)), (a_bn, (arI G 120 f_b)), (a_p, (oc6 8 5 a_pn e_p)), (a_pn, (arI G 40 f_p)), (a_bb, (arJ G 24 f_bb)), (a_j, (oc2 a_as a_sk)), (a_as, (arI G 8 f_as)), (a_sk, (arJ G 50 f_sk)), (a_l, (arW G 6 f_l)), (a_pt, (arI G 200 f_pt)), (a_wk, (oc9 a_h a_k a_go a_mt)), (a_go, (arJ G 24 f_go)), (a_mt, (arI G 1536 f_mt))] sz)) 0 0 (va_A [(a_o, (oc11 a_h a_im a_ke a_k a_wa a_th a_ha a_wk a_r a_x e_tl e_fd e_fpl a_wd e_wn a_rf e_lr)), (a_k, (oc5 a_h a_j a_pt e_ln e_se e_lh e_br e_we e_me e_ce e_wy e_ho e_ov)), (a_h, (oc1 e_wa e_le e_st e_fo e_lc a_l a_g a_b a_s a_p a_w e_gb a_bb)), (a_g, (oc6 6 5 a_gn e_g)), (a_gn, (arI G 30 f_g)), (a_b, (oc6 5 24 a_bn e_b)), (a_bn, (arI G 120 f_b)), (a_p, (oc6 8 5 a_pn e_p)), (a_pn, (arI G 40 f_p)), (a_bb, (arJ G 24 f_bb)), (a_j, (oc2 a_as a_sk)), (a_as, (arI G 8 f_as)), (a_sk, (arJ G 50 f_sk)), (a_l, (arW G 6 f_l)), (a_pt, (arI G 200 f_pt)), (a_wk, (oc9 a_h a_k a_go a_mt)), (a_go, (arJ G 24 f_go)), (a_mt, (arI G 1536 f_mt))] sz) := by
  refine Met.ofW (cc := cX11_soonest) (maxL := 4) (ret := (some .int)) (by decide +kernel) rfl ?_
  intro p e s m args below meth c s₁ B hml hv
  obtain ⟨rfl, hsz, hP, hK, hD0, hN, hT⟩ := hv
  have hx := B.exec
  have hb := B.bytes
  have hr := B.returns
  have hts : ∀ w ∈ tblG, w.before _ s = true := fun w h => atoms_spec (ws := (wsG yX11_soonest cX11_soonest 4 (some .int))) B.pre w (List.mem_cons_of_mem _ h)
  have hown : s.vm.findClass RX11 = some m.cls := findClass_of_methodNamed B.named
  have hlocks := B.notSynchronized
  subst hsz
  have hD := hD0.self (sz := s.heap.size)
  generalize hAe : va_A [(a_o, (oc11 a_h a_im a_ke a_k a_wa a_th a_ha a_wk a_r a_x e_tl e_fd e_fpl a_wd e_wn a_rf e_lr)), (a_k, (oc5 a_h a_j a_pt e_ln e_se e_lh e_br e_we e_me e_ce e_wy e_ho e_ov)), (a_h, (oc1 e_wa e_le e_st e_fo e_lc a_l a_g a_b a_s a_p a_w e_gb a_bb)), (a_g, (oc6 6 5 a_gn e_g)), (a_gn, (arI G 30 f_g)), (a_b, (oc6 5 24 a_bn e_b)), (a_bn, (arI G 120 f_b)), (a_p, (oc6 8 5 a_pn e_p)), (a_pn, (arI G 40 f_p)), (a_bb, (arJ G 24 f_bb)), (a_j, (oc2 a_as a_sk)), (a_as, (arI G 8 f_as)), (a_sk, (arJ G 50 f_sk)), (a_l, (arW G 6 f_l)), (a_pt, (arI G 200 f_pt)), (a_wk, (oc9 a_h a_k a_go a_mt)), (a_go, (arJ G 24 f_go)), (a_mt, (arI G 1536 f_mt))] s.heap.size = A at hD hT ⊢
  have hA : ∀ q : Nat, s.heap.size ≤ q → A q := fun q h => by rw [← hAe]; exact Or.inr h
  have hS : va_S A s.heap s.heap [] := va_S.rf
  replace hP : va_P G.1 vwCl [(a_o, (oc11 a_h a_im a_ke a_k a_wa a_th a_ha a_wk a_r a_x e_tl e_fd e_fpl a_wd e_wn a_rf e_lr)), (a_k, (oc5 a_h a_j a_pt e_ln e_se e_lh e_br e_we e_me e_ce e_wy e_ho e_ov)), (a_h, (oc1 e_wa e_le e_st e_fo e_lc a_l a_g a_b a_s a_p a_w e_gb a_bb)), (a_g, (oc6 6 5 a_gn e_g)), (a_gn, (arI G 30 f_g)), (a_b, (oc6 5 24 a_bn e_b)), (a_bn, (arI G 120 f_b)), (a_p, (oc6 8 5 a_pn e_p)), (a_pn, (arI G 40 f_p)), (a_bb, (arJ G 24 f_bb)), (a_j, (oc2 a_as a_sk)), (a_as, (arI G 8 f_as)), (a_sk, (arJ G 50 f_sk)), (a_l, (arW G 6 f_l)), (a_pt, (arI G 200 f_pt)), (a_wk, (oc9 a_h a_k a_go a_mt)), (a_go, (arJ G 24 f_go)), (a_mt, (arI G 1536 f_mt))] s.heap := hP
  have hl := lv_entry ([.ref a_o, .int p_b, .int p_c, .int p_h]) (n := 4) (Nat.le_of_ble_eq_true rfl)
  rw [lg_entry_eq]
  generalize (lg_sl ([.ref a_o, .int p_b, .int p_c, .int p_h]) ++ List.replicate (4 - (lg_sl ([.ref a_o, .int p_b, .int p_c, .int p_h])).length) Slot.unset).toArray = ls at hl ⊢
  replace hl : lv_has ls 4 [(0, .ref a_o), (1, .int p_b), (2, .int p_c), (3, .int p_h)] := hl
  refine lv_aload_n hx hb dX11_soonest_0 rfl (lv_at hl 0 rfl) ?_
  refine lv_iload_n hx hb dX11_soonest_1 rfl (lv_at hl 1 rfl) ?_
  refine lv_iload_n hx hb dX11_soonest_2 rfl (lv_at hl 2 rfl) ?_
  refine lv_iload_n hx hb dX11_soonest_3 rfl (lv_at hl 3 rfl) ?_
  refine W.eq (g2 := F0 m 4 ls [.int p_h, .int p_c, .int p_b, .ref a_o]) rfl ?_
  obtain ⟨hPc, hDc, hFc⟩ := g5_sub3 (wc := [(a_o, (oc11 a_h a_im a_ke a_k a_wa a_th a_ha a_wk a_r a_x e_tl e_fd e_fpl a_wd e_wn a_rf e_lr)), (a_h, (oc1 e_wa e_le e_st e_fo e_lc a_l a_g a_b a_s a_p a_w e_gb a_bb)), (a_b, (oc6 5 24 a_bn e_b))]) hP hD hS hA [0, 2, 5] (by decide +kernel) rfl
  refine va_calli (va_runV (As := [.int p_b, .int p_c, .int p_h]) (rest := []) ⟨hx, hb, hml, hown, hts⟩ (x_canWalk l G a_o a_h a_b a_im a_ke a_k a_wa a_th a_ha a_wk a_r a_x a_wd a_rf a_l a_g a_s a_p a_w a_bb a_bn s.heap.size e_tl e_fd e_fpl e_wn e_lr e_le e_st e_fo e_lc e_b p_b p_c p_h e_wa e_gb h_e_tl h_e_wn h_e_b) (cwV 3 hts gV_X11_327 rfl rfl rfl hv_X11_canWalk ⟨Nat.le_of_ble_eq_true rfl, Nat.le_of_ble_eq_true rfl⟩) (g5_preV hPc hK hDc hN hT hS hFc (ci := 11) (q0 := 0) rfl rfl) rfl rfl hl.1 rfl (lv_room (Nat.le_of_ble_eq_true rfl)) dX11_soonest_4 ⟨Nat.le_of_ble_eq_true rfl, Nat.le_of_ble_eq_true rfl⟩) hS (fun q _ h => hFc q h) hFc (fun r u t H locs ht hvm hw hB hz1 hk1 hS => ?_)
  obtain ⟨hP1, hD1⟩ := hB
  have hP1 := g5_ht ht hP1
  rcases hw with ⟨(i_1 : 0 ≤ p_c.toInt ∧ p_c.toInt ≤ 63), (i_2 : 0 ≤ p_h.toInt ∧ p_h.toInt ≤ 23), rfl, rfl⟩ | ⟨rfl, rfl⟩
  ·
    have hJ9 := va_join (wr := [(a_k, (oc5 a_h a_j a_pt e_ln e_se e_lh e_br e_we e_me e_ce e_wy e_ho e_ov)), (a_g, (oc6 6 5 a_gn e_g)), (a_gn, (arI G 30 f_g)), (a_bn, (arI G 120 f_b)), (a_p, (oc6 8 5 a_pn e_p)), (a_pn, (arI G 40 f_p)), (a_bb, (arJ G 24 f_bb)), (a_j, (oc2 a_as a_sk)), (a_as, (arI G 8 f_as)), (a_sk, (arJ G 50 f_sk)), (a_l, (arW G 6 f_l)), (a_pt, (arI G 200 f_pt)), (a_wk, (oc9 a_h a_k a_go a_mt)), (a_go, (arJ G 24 f_go)), (a_mt, (arI G 1536 f_mt))]) hP hD [0, 2, 5] [1, 3, 4, 6, 7, 8, 9, 10, 11, 12, 13, 14, 15, 16, 17] rfl rfl (by decide +kernel) (by decide +kernel) hk1 hFc hP1 hD1
    clear hP hD hPc hDc hFc ht hvm hz1 hk1 hP1 hD1
    obtain ⟨hP, hD⟩ := hJ9
    refine g5_rs [(a_k, (oc5 a_h a_j a_pt e_ln e_se e_lh e_br e_we e_me e_ce e_wy e_ho e_ov)), (a_g, (oc6 6 5 a_gn e_g)), (a_gn, (arI G 30 f_g)), (a_bn, (arI G 120 f_b)), (a_p, (oc6 8 5 a_pn e_p)), (a_pn, (arI G 40 f_p)), (a_bb, (arJ G 24 f_bb)), (a_j, (oc2 a_as a_sk)), (a_as, (arI G 8 f_as)), (a_sk, (arJ G 50 f_sk)), (a_l, (arW G 6 f_l)), (a_pt, (arI G 200 f_pt)), (a_wk, (oc9 a_h a_k a_go a_mt)), (a_go, (arJ G 24 f_go)), (a_mt, (arI G 1536 f_mt)), (a_o, (oc11 a_h a_im a_ke a_k a_wa a_th a_ha a_wk a_r a_x e_tl e_fd e_fpl a_wd e_wn a_rf e_lr)), (a_h, (oc1 e_wa e_le e_st e_fo e_lc a_l a_g a_b a_s a_p a_w e_gb a_bb)), (a_b, (oc6 5 24 a_bn e_b))] hP hD ?_
    clear hP hD
    intro hP hD
    refine lv_if_ne (tgt := 12) hx hb dX11_soonest_7 (by decide +kernel) (fun c_3 => ?_) (fun c_3 => ?_)
    ·
      refine lv_aload_n hx hb dX11_soonest_12 rfl (lv_at hl 0 rfl) ?_
      refine va_get (D := G.1) (ci := 11) (v := .ref a_wk) (C := RX11) (T := TX11) (N := 17) hx hb hts inG_X11 hown hK hP 15 rfl rfl 7 (by decide +kernel) (hts _ fl_X11_59) (fun _ h9 => h9) rfl dX11_soonest_13 ?_
      refine lv_iload_n hx hb dX11_soonest_16 rfl (lv_at hl 1 rfl) ?_
      refine lv_iload_n hx hb dX11_soonest_17 rfl (lv_at hl 2 rfl) ?_
      refine W.eq (g2 := F0 m 18 ls [.int p_c, .int p_b, .ref a_wk]) rfl ?_
      refine lv_iload_n hx hb dX11_soonest_18 rfl (lv_at hl 3 rfl) ?_
      refine lv_bipush (v := 24) hx hb dX11_soonest_19 (by decide +kernel) ?_
      obtain ⟨hPc, hDc, hFc⟩ := g5_sub3 (wc := [(a_k, (oc5 a_h a_j a_pt e_ln e_se e_lh e_br e_we e_me e_ce e_wy e_ho e_ov)), (a_h, (oc1 e_wa e_le e_st e_fo e_lc a_l a_g a_b a_s a_p a_w e_gb a_bb)), (a_g, (oc6 6 5 a_gn e_g)), (a_gn, (arI G 30 f_g)), (a_b, (oc6 5 24 a_bn e_b)), (a_bn, (arI G 120 f_b)), (a_p, (oc6 8 5 a_pn e_p)), (a_pn, (arI G 40 f_p)), (a_bb, (arJ G 24 f_bb)), (a_j, (oc2 a_as a_sk)), (a_as, (arI G 8 f_as)), (a_sk, (arJ G 50 f_sk)), (a_l, (arW G 6 f_l)), (a_pt, (arI G 200 f_pt)), (a_wk, (oc9 a_h a_k a_go a_mt)), (a_go, (arJ G 24 f_go)), (a_mt, (arI G 1536 f_mt))]) hP hD hS hA [0, 16, 1, 2, 17, 3, 4, 5, 6, 7, 8, 9, 10, 11, 12, 13, 14] (by decide +kernel) rfl
      refine va_calli (va_runV (As := [.int p_b, .int p_c, .int p_h, .int 24]) (rest := []) ⟨hx, hb, hml, hown, hts⟩ (a_firstN l G a_k a_h a_g a_gn a_b a_bn a_p a_pn a_bb a_j a_as a_sk a_l a_pt a_wk a_go a_mt a_s a_w H.size e_le e_st e_fo e_lc e_g e_b e_p e_ln e_se e_lh e_br e_we e_me e_ce e_wy e_ho e_ov p_b p_c p_h 24 e_wa e_gb f_g f_b f_p f_bb f_as f_sk f_l f_pt f_go f_mt h_e_g h_e_b h_e_p h_e_ov i_1 i_2 ⟨by decide, by decide⟩ (e_gk) (e_pk) (e_gi) (e_f)) (cwV 4 hts gV_X11_330 rfl rfl rfl hv_X9_firstSight ⟨Nat.le_of_ble_eq_true rfl, Nat.le_of_ble_eq_true rfl⟩) (g5_preV hPc hK hDc hN hT hS hFc (ci := 9) (q0 := 14) rfl rfl) rfl rfl hl.1 rfl (lv_room (Nat.le_of_ble_eq_true rfl)) dX11_soonest_21 ⟨Nat.le_of_ble_eq_true rfl, Nat.le_of_ble_eq_true rfl⟩) hS (fun q _ h => hFc q h) hFc (fun r u t H locs ht hvm hw hB hz1 hk1 hS => ?_)
      obtain ⟨hP1, hD1⟩ := hB
      have hP1 := g5_ht ht hP1
      obtain ⟨z7, z8, z9, z10, z11, z12, z13, z14, z15, z16, z17, z18, z19, z20, z21, z22, (i_4 : 0 ≤ z17.toInt ∧ z17.toInt ≤ 1), (i_5 : -1 ≤ z7.toInt ∧ z7.toInt ≤ 23), (i_6 : z7.toInt = -1 ∨ (p_h.toInt ≤ z7.toInt ∧ z7.toInt < (24 : Int32).toInt)), y23, rfl⟩ := hw
      have hJ9 := va_join (wr := [(a_o, (oc11 a_h a_im a_ke a_k a_wa a_th a_ha a_wk a_r a_x e_tl e_fd e_fpl a_wd e_wn a_rf e_lr))]) hP hD [0, 16, 1, 2, 17, 3, 4, 5, 6, 7, 8, 9, 10, 11, 12, 13, 14] [15] rfl rfl (by decide +kernel) (by decide +kernel) hk1 hFc hP1 hD1
      clear hP hD hPc hDc hFc ht hvm hz1 hk1 hP1 hD1
      obtain ⟨hP, hD⟩ := hJ9
      refine g5_rs [(a_o, (oc11 a_h a_im a_ke a_k a_wa a_th a_ha a_wk a_r a_x e_tl e_fd e_fpl a_wd e_wn a_rf e_lr)), (a_k, (oc5 a_h a_j a_pt z8 z9 z10 z11 z12 z13 z14 z15 z16 z17)), (a_h, (oc1 e_wa e_le e_st e_fo e_lc a_l a_g a_b a_s a_p a_w e_gb a_bb)), (a_g, (oc6 6 5 a_gn e_g)), (a_gn, (arI G 30 f_g)), (a_b, (oc6 5 24 a_bn e_b)), (a_bn, (arI G 120 f_b)), (a_p, (oc6 8 5 a_pn e_p)), (a_pn, (arI G 40 f_p)), (a_bb, (arJ G 24 f_bb)), (a_j, (oc2 a_as a_sk)), (a_as, (arI G 8 z19)), (a_sk, (arJ G 50 z20)), (a_l, (arW G 6 f_l)), (a_pt, (arI G 200 z18)), (a_wk, (oc9 a_h a_k a_go a_mt)), (a_go, (arJ G 24 z21)), (a_mt, (arI G 1536 z22))] hP hD ?_
      clear hP hD
      intro hP hD
      refine g5_ti (v := z7) y23 ?_
      exact W.iret (v := z7) hx hb hr (fun t ht hW => ⟨⟨z7, [(a_o, (oc11 a_h a_im a_ke a_k a_wa a_th a_ha a_wk a_r a_x e_tl e_fd e_fpl a_wd e_wn a_rf e_lr)), (a_k, (oc5 a_h a_j a_pt z8 z9 z10 z11 z12 z13 z14 z15 z16 z17)), (a_h, (oc1 e_wa e_le e_st e_fo e_lc a_l a_g a_b a_s a_p a_w e_gb a_bb)), (a_g, (oc6 6 5 a_gn e_g)), (a_gn, (arI G 30 f_g)), (a_b, (oc6 5 24 a_bn e_b)), (a_bn, (arI G 120 f_b)), (a_p, (oc6 8 5 a_pn e_p)), (a_pn, (arI G 40 f_p)), (a_bb, (arJ G 24 f_bb)), (a_j, (oc2 a_as a_sk)), (a_as, (arI G 8 z19)), (a_sk, (arJ G 50 z20)), (a_l, (arW G 6 f_l)), (a_pt, (arI G 200 z18)), (a_wk, (oc9 a_h a_k a_go a_mt)), (a_go, (arJ G 24 z21)), (a_mt, (arI G 1536 z22))], rfl, ⟨z7, z8, z9, z10, z11, z12, z13, z14, z15, z16, z17, z18, z19, z20, z21, z22, i_4, rfl, rfl⟩, by rw [ht]; exact hP.sub [0, 1, 2, 3, 4, 5, 6, 7, 8, 9, 10, 11, 12, 13, 14, 15, 16, 17] rfl, hD.sub [0, 1, 2, 3, 4, 5, 6, 7, 8, 9, 10, 11, 12, 13, 14, 15, 16, 17] (by decide +kernel) rfl⟩, hS.F ht⟩) hS.2.2 dX11_soonest_24
    ·
      exact absurd c_3 (by decide +kernel)
  ·
    have hJ9 := va_join (wr := [(a_k, (oc5 a_h a_j a_pt e_ln e_se e_lh e_br e_we e_me e_ce e_wy e_ho e_ov)), (a_g, (oc6 6 5 a_gn e_g)), (a_gn, (arI G 30 f_g)), (a_bn, (arI G 120 f_b)), (a_p, (oc6 8 5 a_pn e_p)), (a_pn, (arI G 40 f_p)), (a_bb, (arJ G 24 f_bb)), (a_j, (oc2 a_as a_sk)), (a_as, (arI G 8 f_as)), (a_sk, (arJ G 50 f_sk)), (a_l, (arW G 6 f_l)), (a_pt, (arI G 200 f_pt)), (a_wk, (oc9 a_h a_k a_go a_mt)), (a_go, (arJ G 24 f_go)), (a_mt, (arI G 1536 f_mt))]) hP hD [0, 2, 5] [1, 3, 4, 6, 7, 8, 9, 10, 11, 12, 13, 14, 15, 16, 17] rfl rfl (by decide +kernel) (by decide +kernel) hk1 hFc hP1 hD1
    clear hP hD hPc hDc hFc ht hvm hz1 hk1 hP1 hD1
    obtain ⟨hP, hD⟩ := hJ9
    refine g5_rs [(a_k, (oc5 a_h a_j a_pt e_ln e_se e_lh e_br e_we e_me e_ce e_wy e_ho e_ov)), (a_g, (oc6 6 5 a_gn e_g)), (a_gn, (arI G 30 f_g)), (a_bn, (arI G 120 f_b)), (a_p, (oc6 8 5 a_pn e_p)), (a_pn, (arI G 40 f_p)), (a_bb, (arJ G 24 f_bb)), (a_j, (oc2 a_as a_sk)), (a_as, (arI G 8 f_as)), (a_sk, (arJ G 50 f_sk)), (a_l, (arW G 6 f_l)), (a_pt, (arI G 200 f_pt)), (a_wk, (oc9 a_h a_k a_go a_mt)), (a_go, (arJ G 24 f_go)), (a_mt, (arI G 1536 f_mt)), (a_o, (oc11 a_h a_im a_ke a_k a_wa a_th a_ha a_wk a_r a_x e_tl e_fd e_fpl a_wd e_wn a_rf e_lr)), (a_h, (oc1 e_wa e_le e_st e_fo e_lc a_l a_g a_b a_s a_p a_w e_gb a_bb)), (a_b, (oc6 5 24 a_bn e_b))] hP hD ?_
    clear hP hD
    intro hP hD
    refine lv_if_ne (tgt := 12) hx hb dX11_soonest_7 (by decide +kernel) (fun c_24 => ?_) (fun c_24 => ?_)
    ·
      exact absurd c_24 (by decide +kernel)
    ·
      refine lv_iconst (v := (-1)) hx hb dX11_soonest_10 (by decide +kernel) ?_
      exact W.iret (v := (-1)) hx hb hr (fun t ht hW => ⟨⟨(-1), [(a_o, (oc11 a_h a_im a_ke a_k a_wa a_th a_ha a_wk a_r a_x e_tl e_fd e_fpl a_wd e_wn a_rf e_lr)), (a_k, (oc5 a_h a_j a_pt e_ln e_se e_lh e_br e_we e_me e_ce e_wy e_ho e_ov)), (a_h, (oc1 e_wa e_le e_st e_fo e_lc a_l a_g a_b a_s a_p a_w e_gb a_bb)), (a_g, (oc6 6 5 a_gn e_g)), (a_gn, (arI G 30 f_g)), (a_b, (oc6 5 24 a_bn e_b)), (a_bn, (arI G 120 f_b)), (a_p, (oc6 8 5 a_pn e_p)), (a_pn, (arI G 40 f_p)), (a_bb, (arJ G 24 f_bb)), (a_j, (oc2 a_as a_sk)), (a_as, (arI G 8 f_as)), (a_sk, (arJ G 50 f_sk)), (a_l, (arW G 6 f_l)), (a_pt, (arI G 200 f_pt)), (a_wk, (oc9 a_h a_k a_go a_mt)), (a_go, (arJ G 24 f_go)), (a_mt, (arI G 1536 f_mt))], rfl, ⟨(-1), e_ln, e_se, e_lh, e_br, e_we, e_me, e_ce, e_wy, e_ho, e_ov, f_pt, f_as, f_sk, f_go, f_mt, h_e_ov, rfl, rfl⟩, by rw [ht]; exact hP.sub [15, 0, 16, 1, 2, 17, 3, 4, 5, 6, 7, 8, 9, 10, 11, 12, 13, 14] rfl, hD.sub [15, 0, 16, 1, 2, 17, 3, 4, 5, 6, 7, 8, 9, 10, 11, 12, 13, 14] (by decide +kernel) rfl⟩, hS.F ht⟩) hS.2.2 dX11_soonest_11
theorem dgX11_way_0 : ∀ r ∈ ([(0, (.aload_n 0, 1)), (1, (.iload_n 1, 1)), (2, (.iload_n 2, 1)), (3, (.iload_n 3, 1)), (4, (.invokevirtual 327, 3)), (7, (.ifCond .eq 9, 3)), (10, (.iload 4, 2)), (12, (.iload_n 3, 1)), (13, (.if_icmp .ge 5, 3)), (16, (.iconst (-1), 1)), (17, (.ireturn, 1)), (18, (.aload_n 0, 1)), (19, (.getfield 59, 3)), (22, (.iload_n 1, 1)), (23, (.iload_n 2, 1)), (24, (.iload_n 3, 1)), (25, (.bipush 24, 2)), (27, (.invokevirtual 330, 3)), (30, (.istore 5, 2)), (32, (.iload 5, 2)), (34, (.iconst (-1), 1)), (35, (.if_icmp .eq 10, 3)), (38, (.iload 4, 2)), (40, (.iload 5, 2)), (42, (.if_icmp .le 7, 3)), (45, (.iconst (-1), 1)), (46, (.goto 16, 3)), (49, (.aload_n 0, 1)), (50, (.getfield 59, 3)), (53, (.iload_n 2, 1)), (54, (.iload_n 3, 1)), (55, (.iload 5, 2)), (57, (.iload 4, 2)), (59, (.invokevirtual 334, 3)), (62, (.ireturn, 1))] : List (Nat × (Instr × Nat))), decode cX11_way r.1 = .ok r.2 := by decide +kernel
theorem dX11_way_0 : decode cX11_way 0 = .ok (.aload_n 0, 1) := dgX11_way_0 (0, (.aload_n 0, 1)) (List.mem_of_getElem? (i := 0) rfl)
theorem dX11_way_1 : decode cX11_way 1 = .ok (.iload_n 1, 1) := dgX11_way_0 (1, (.iload_n 1, 1)) (List.mem_of_getElem? (i := 1) rfl)
theorem dX11_way_2 : decode cX11_way 2 = .ok (.iload_n 2, 1) := dgX11_way_0 (2, (.iload_n 2, 1)) (List.mem_of_getElem? (i := 2) rfl)
theorem dX11_way_3 : decode cX11_way 3 = .ok (.iload_n 3, 1) := dgX11_way_0 (3, (.iload_n 3, 1)) (List.mem_of_getElem? (i := 3) rfl)
theorem dX11_way_4 : decode cX11_way 4 = .ok (.invokevirtual 327, 3) := dgX11_way_0 (4, (.invokevirtual 327, 3)) (List.mem_of_getElem? (i := 4) rfl)
theorem dX11_way_7 : decode cX11_way 7 = .ok (.ifCond .eq 9, 3) := dgX11_way_0 (7, (.ifCond .eq 9, 3)) (List.mem_of_getElem? (i := 5) rfl)
theorem dX11_way_10 : decode cX11_way 10 = .ok (.iload 4, 2) := dgX11_way_0 (10, (.iload 4, 2)) (List.mem_of_getElem? (i := 6) rfl)
theorem dX11_way_12 : decode cX11_way 12 = .ok (.iload_n 3, 1) := dgX11_way_0 (12, (.iload_n 3, 1)) (List.mem_of_getElem? (i := 7) rfl)
theorem dX11_way_13 : decode cX11_way 13 = .ok (.if_icmp .ge 5, 3) := dgX11_way_0 (13, (.if_icmp .ge 5, 3)) (List.mem_of_getElem? (i := 8) rfl)
theorem dX11_way_16 : decode cX11_way 16 = .ok (.iconst (-1), 1) := dgX11_way_0 (16, (.iconst (-1), 1)) (List.mem_of_getElem? (i := 9) rfl)
theorem dX11_way_17 : decode cX11_way 17 = .ok (.ireturn, 1) := dgX11_way_0 (17, (.ireturn, 1)) (List.mem_of_getElem? (i := 10) rfl)
theorem dX11_way_18 : decode cX11_way 18 = .ok (.aload_n 0, 1) := dgX11_way_0 (18, (.aload_n 0, 1)) (List.mem_of_getElem? (i := 11) rfl)
theorem dX11_way_19 : decode cX11_way 19 = .ok (.getfield 59, 3) := dgX11_way_0 (19, (.getfield 59, 3)) (List.mem_of_getElem? (i := 12) rfl)
theorem dX11_way_22 : decode cX11_way 22 = .ok (.iload_n 1, 1) := dgX11_way_0 (22, (.iload_n 1, 1)) (List.mem_of_getElem? (i := 13) rfl)
theorem dX11_way_23 : decode cX11_way 23 = .ok (.iload_n 2, 1) := dgX11_way_0 (23, (.iload_n 2, 1)) (List.mem_of_getElem? (i := 14) rfl)
theorem dX11_way_24 : decode cX11_way 24 = .ok (.iload_n 3, 1) := dgX11_way_0 (24, (.iload_n 3, 1)) (List.mem_of_getElem? (i := 15) rfl)
theorem dX11_way_25 : decode cX11_way 25 = .ok (.bipush 24, 2) := dgX11_way_0 (25, (.bipush 24, 2)) (List.mem_of_getElem? (i := 16) rfl)
theorem dX11_way_27 : decode cX11_way 27 = .ok (.invokevirtual 330, 3) := dgX11_way_0 (27, (.invokevirtual 330, 3)) (List.mem_of_getElem? (i := 17) rfl)
theorem dX11_way_30 : decode cX11_way 30 = .ok (.istore 5, 2) := dgX11_way_0 (30, (.istore 5, 2)) (List.mem_of_getElem? (i := 18) rfl)
theorem dX11_way_32 : decode cX11_way 32 = .ok (.iload 5, 2) := dgX11_way_0 (32, (.iload 5, 2)) (List.mem_of_getElem? (i := 19) rfl)
theorem dX11_way_34 : decode cX11_way 34 = .ok (.iconst (-1), 1) := dgX11_way_0 (34, (.iconst (-1), 1)) (List.mem_of_getElem? (i := 20) rfl)
theorem dX11_way_35 : decode cX11_way 35 = .ok (.if_icmp .eq 10, 3) := dgX11_way_0 (35, (.if_icmp .eq 10, 3)) (List.mem_of_getElem? (i := 21) rfl)
theorem dX11_way_38 : decode cX11_way 38 = .ok (.iload 4, 2) := dgX11_way_0 (38, (.iload 4, 2)) (List.mem_of_getElem? (i := 22) rfl)
theorem dX11_way_40 : decode cX11_way 40 = .ok (.iload 5, 2) := dgX11_way_0 (40, (.iload 5, 2)) (List.mem_of_getElem? (i := 23) rfl)
theorem dX11_way_42 : decode cX11_way 42 = .ok (.if_icmp .le 7, 3) := dgX11_way_0 (42, (.if_icmp .le 7, 3)) (List.mem_of_getElem? (i := 24) rfl)
theorem dX11_way_45 : decode cX11_way 45 = .ok (.iconst (-1), 1) := dgX11_way_0 (45, (.iconst (-1), 1)) (List.mem_of_getElem? (i := 25) rfl)
theorem dX11_way_46 : decode cX11_way 46 = .ok (.goto 16, 3) := dgX11_way_0 (46, (.goto 16, 3)) (List.mem_of_getElem? (i := 26) rfl)
theorem dX11_way_49 : decode cX11_way 49 = .ok (.aload_n 0, 1) := dgX11_way_0 (49, (.aload_n 0, 1)) (List.mem_of_getElem? (i := 27) rfl)
theorem dX11_way_50 : decode cX11_way 50 = .ok (.getfield 59, 3) := dgX11_way_0 (50, (.getfield 59, 3)) (List.mem_of_getElem? (i := 28) rfl)
theorem dX11_way_53 : decode cX11_way 53 = .ok (.iload_n 2, 1) := dgX11_way_0 (53, (.iload_n 2, 1)) (List.mem_of_getElem? (i := 29) rfl)
theorem dX11_way_54 : decode cX11_way 54 = .ok (.iload_n 3, 1) := dgX11_way_0 (54, (.iload_n 3, 1)) (List.mem_of_getElem? (i := 30) rfl)
theorem dX11_way_55 : decode cX11_way 55 = .ok (.iload 5, 2) := dgX11_way_0 (55, (.iload 5, 2)) (List.mem_of_getElem? (i := 31) rfl)
theorem dX11_way_57 : decode cX11_way 57 = .ok (.iload 4, 2) := dgX11_way_0 (57, (.iload 4, 2)) (List.mem_of_getElem? (i := 32) rfl)
theorem dX11_way_59 : decode cX11_way 59 = .ok (.invokevirtual 334, 3) := dgX11_way_0 (59, (.invokevirtual 334, 3)) (List.mem_of_getElem? (i := 33) rfl)
theorem dX11_way_62 : decode cX11_way 62 = .ok (.ireturn, 1) := dgX11_way_0 (62, (.ireturn, 1)) (List.mem_of_getElem? (i := 34) rfl)
theorem ml_X11_334 : Cond.methodLink RX11 334 yX9_firstRowAt ∈ tblG := tg 1126 (by decide +kernel) (by decide +kernel)
theorem im_X9_firstRowAt : Cond.instanceMethod yX9_firstRowAt ∈ tblG := tg 1127 (by decide +kernel) (by decide +kernel)
theorem se_X9_firstRowAt : Cond.selects RX9 yX9_firstRowAt yX9_firstRowAt ∈ tblG := tg 1128 (by decide +kernel) (by decide +kernel)
theorem cd_X9_firstRowAt : Cond.code yX9_firstRowAt cX9_firstRowAt 7 (some .int) ∈ tblG := tg 1129 (by decide +kernel) (by decide +kernel)
theorem gW_X9_firstRowAt : GoodIn tblG (wsG yX9_firstRowAt cX9_firstRowAt 7 (some .int)) := tgi cd_X9_firstRowAt
theorem gV_X11_334 : GoodIn tblG (wsV RX11 334 RX9 yX9_firstRowAt (wsG yX9_firstRowAt cX9_firstRowAt 7 (some .int))) := tgV ml_X11_334 im_X9_firstRowAt se_X9_firstRowAt ini_X9 gW_X9_firstRowAt
theorem hv_X9_firstRowAt : yX9_firstRowAt.cls = RX9 ∧ yX9_firstRowAt.cls ≠ "java/lang/invoke/MethodHandle" ∧ yX9_firstRowAt.cls ≠ "java/lang/invoke/VarHandle" ∧ (parseMethodDescriptor yX9_firstRowAt.desc).map (fun d => d.parameters.length) = some 4 := by decide +kernel
set_option maxHeartbeats 4000000 in
set_option maxRecDepth 100000 in
theorem x_wayN (l : Launch) (G : g5_G) (a_o a_k a_h a_g a_gn a_b a_bn a_p a_pn a_bb a_j a_as a_sk a_l a_pt a_wk a_go a_mt a_im a_ke a_wa a_th a_ha a_r a_x a_wd a_rf a_s a_w : Nat) (sz : Nat) (e_tl : Int32) (e_fd : Int32) (e_fpl : Int32) (e_wn : Int32) (e_lr : Int32) (e_le : Int32) (e_st : Int32) (e_fo : Int32) (e_lc : Int32) (e_g : Int32) (e_b : Int32) (e_p : Int32) (e_ln : Int32) (e_se : Int32) (e_lh : Int32) (e_br : Int32) (e_we : Int32) (e_me : Int32) (e_ce : Int32) (e_wy : Int32) (e_ho : Int32) (e_ov : Int32) (p_b : Int32) (p_c : Int32) (p_h : Int32) (p_a : Int32) (e_wa : Int64) (e_gb : Int64) (f_g : Nat → Int32) (f_b : Nat → Int32) (f_p : Nat → Int32) (f_bb : Nat → Int64) (f_as : Nat → Int32) (f_sk : Nat → Int64) (f_l : Nat → Option Nat) (f_pt : Nat → Int32) (f_go : Nat → Int64) (f_mt : Nat → Int32) (h_e_tl : 0 ≤ e_tl.toInt ∧ e_tl.toInt ≤ 400) (h_e_wn : 0 ≤ e_wn.toInt ∧ e_wn.toInt ≤ 1) (h_e_g : 0 ≤ e_g.toInt ∧ e_g.toInt ≤ 6) (h_e_b : 0 ≤ e_b.toInt ∧ e_b.toInt ≤ 5) (h_e_p : 0 ≤ e_p.toInt ∧ e_p.toInt ≤ 8) (h_e_ov : 0 ≤ e_ov.toInt ∧ e_ov.toInt ≤ 1) (e_gk : gOK f_g e_g.toInt) (e_pk : gOK f_p e_p.toInt) (e_gi : inT e_gb f_g e_g.toInt) (e_f : e_fo.toInt < 0 ∨ e_lc.toInt ≤ e_fo.toInt) : Met l yX11_way (wsG yX11_way cX11_way 6 (some .int)) ({ frames := 16, cells := 0, slots := 0, locals := 612 }) (va_Pc [.ref a_o, .int p_b, .int p_c, .int p_h, .int p_a] (g5_P G [(a_o, (oc11 a_h a_im a_ke a_k a_wa a_th a_ha a_wk a_r a_x e_tl e_fd e_fpl a_wd e_wn a_rf e_lr)), (a_k, (oc5 a_h a_j a_pt e_ln e_se e_lh e_br e_we e_me e_ce e_wy e_ho e_ov)), (a_h, (oc1 e_wa e_le e_st e_fo e_lc a_l a_g a_b a_s a_p a_w e_gb a_bb)), (a_g, (oc6 6 5 a_gn e_g)), (a_gn, (arI G 30 f_g)), (a_b, (oc6 5 24 a_bn e_b)), (a_bn, (arI G 120 f_b)), (a_p, (oc6 8 5 a_pn e_p)), (a_pn, (arI G 40 f_p)), (a_bb, (arJ G 24 f_bb)), (a_j, (oc2 a_as a_sk)), (a_as, (arI G 8 f_as)), (a_sk, (arJ G 50 f_sk)), (a_l, (arW G 6 f_l)), (a_pt, (arI G 200 f_pt)), (a_wk, (oc9 a_h a_k a_go a_mt)), (a_go, (arJ G 24 f_go)), (a_mt, (arI G 1536 f_mt))] sz)) (va_Qi (fun (r : Int32) (u : va_W) => (∃ (o_r : Int32) (o_ln : Int32) (o_se : Int32) (o_lh : Int32) (o_br : Int32) (o_we : Int32) (o_me : Int32) (o_ce : Int32) (o_wy : Int32) (o_ho : Int32) (o_ov : Int32) (o_pt : Nat → Int32) (o_as : Nat → Int32) (o_sk : Nat → Int64) (o_go : Nat → Int64) (o_mt : Nat → Int32), (0 ≤ o_ov.toInt ∧ o_ov.toInt ≤ 1) ∧ (r = o_r) ∧ (u = [(a_o, (oc11 a_h a_im a_ke a_k a_wa a_th a_ha a_wk a_r a_x e_tl e_fd e_fpl a_wd e_wn a_rf e_lr)), (a_k, (oc5 a_h a_j a_pt o_ln o_se o_lh o_br o_we o_me o_ce o_wy o_ho o_ov)), (a_h, (oc1 e_wa e_le e_st e_fo e_lc a_l a_g a_b a_s a_p a_w e_gb a_bb)), (a_g, (oc6 6 5 a_gn e_g)), (a_gn, (arI G 30 f_g)), (a_b, (oc6 5 24 a_bn e_b)), (a_bn, (arI G 120 f_b)), (a_p, (oc6 8 5 a_pn e_p)), (a_pn, (arI G 40 f_p)), (a_bb, (arJ G 24 f_bb)), (a_j, (oc2 a_as a_sk)), (a_as, (arI G 8 o_as)), (a_sk, (arJ G 50 o_sk)), (a_l, (arW G 6 f_l)), (a_pt, (arI G 200 o_pt)), (a_wk, (oc9 a_h a_k a_go a_mt)), (a_go, (arJ G 24 o_go)), (a_mt, (arI G 1536 o_mt))]))) (g5_B G (va_A [(a_o, (oc11 a_h a_im a_ke a_k a_wa a_th a_ha a_wk a_r a_x e_tl e_fd e_fpl a_wd e_wn a_rf e_lr)), (a_k, (oc5 a_h a_j a_pt e_ln e_se e_lh e_br e_we e_me e_ce e_wy e_ho e_ov)), (a_h, (oc1 e_wa e_le e_st e_fo e_lc a_l a_g a_b a_s a_p a_w e_gb a_bb)), (a_g, (oc6 6 5 a_gn e_g)), (a_gn, (arI G 30 f_g)), (a_b, (oc6 5 24 a_bn e_b)), (a_bn, (arI G 120 f_b)), (a_p, (oc6 8 5 a_pn e_p)), (a_pn, (arI G 40 f_p)), (a_bb, (arJ G 24 f_bb)), (a_j, (oc2 a_as a_sk)), (a_as, (arI G 8 f_as)), (a_sk, (arJ G 50 f_sk)), (a_l, (arW G 6 f_l)), (a_pt, (arI G 200 f_pt)), (a_wk, (oc9 a_h a_k a_go a_mt)), (a_go, (arJ G 24 f_go)), (a_mt, (arI G 1536 f_mt))] sz)) (va_A [(a_o, (oc11 a_h a_im a_ke a_k a_wa a_th a_ha a_wk a_r a_x e_tl e_fd e_fpl a_wd e_wn a_rf e_lr)), (a_k, (oc5 a_h a_j a_pt e_ln e_se e_lh e_br e_we e_me e_ce e_wy e_ho e_ov)), (a_h, (oc1 e_wa e_le e_st e_fo e_lc a_l a_g a_b a_s a_p a_w e_gb a_bb)), (a_g, (oc6 6 5 a_gn e_g)), (a_gn, (arI G 30 f_g)), (a_b, (oc6 5 24 a_bn e_b)), (a_bn, (arI G 120 f_b)), (a_p, (oc6 8 5 a_pn e_p)), (a_pn, (arI G 40 f_p)), (a_bb, (arJ G 24 f_bb)), (a_j, (oc2 a_as a_sk)), (a_as, (arI G 8 f_as)), (a_sk, (arJ G 50 f_sk)), (a_l, (arW G 6 f_l)), (a_pt, (arI G 200 f_pt)), (a_wk, (oc9 a_h a_k a_go a_mt)), (a_go, (arJ G 24 f_go)), (a_mt, (arI G 1536 f_mt))] sz)) 0 0 (va_A [(a_o, (oc11 a_h a_im a_ke a_k a_wa a_th a_ha a_wk a_r a_x e_tl e_fd e_fpl a_wd e_wn a_rf e_lr)), (a_k, (oc5 a_h a_j a_pt e_ln e_se e_lh e_br e_we e_me e_ce e_wy e_ho e_ov)), (a_h, (oc1 e_wa e_le e_st e_fo e_lc a_l a_g a_b a_s a_p a_w e_gb a_bb)), (a_g, (oc6 6 5 a_gn e_g)), (a_gn, (arI G 30 f_g)), (a_b, (oc6 5 24 a_bn e_b)), (a_bn, (arI G 120 f_b)), (a_p, (oc6 8 5 a_pn e_p)), (a_pn, (arI G 40 f_p)), (a_bb, (arJ G 24 f_bb)), (a_j, (oc2 a_as a_sk)), (a_as, (arI G 8 f_as)), (a_sk, (arJ G 50 f_sk)), (a_l, (arW G 6 f_l)), (a_pt, (arI G 200 f_pt)), (a_wk, (oc9 a_h a_k a_go a_mt)), (a_go, (arJ G 24 f_go)), (a_mt, (arI G 1536 f_mt))] sz) := by
  refine Met.ofW (cc := cX11_way) (maxL := 6) (ret := (some .int)) (by decide +kernel) rfl ?_
  intro p e s m args below meth c s₁ B hml hv
  obtain ⟨rfl, hsz, hP, hK, hD0, hN, hT⟩ := hv
  have hx := B.exec
  have hb := B.bytes
  have hr := B.returns
  have hts : ∀ w ∈ tblG, w.before _ s = true := fun w h => atoms_spec (ws := (wsG yX11_way cX11_way 6 (some .int))) B.pre w (List.mem_cons_of_mem _ h)
  have hown : s.vm.findClass RX11 = some m.cls := findClass_of_methodNamed B.named
  have hlocks := B.notSynchronized
  subst hsz
  have hD := hD0.self (sz := s.heap.size)
  generalize hAe : va_A [(a_o, (oc11 a_h a_im a_ke a_k a_wa a_th a_ha a_wk a_r a_x e_tl e_fd e_fpl a_wd e_wn a_rf e_lr)), (a_k, (oc5 a_h a_j a_pt e_ln e_se e_lh e_br e_we e_me e_ce e_wy e_ho e_ov)), (a_h, (oc1 e_wa e_le e_st e_fo e_lc a_l a_g a_b a_s a_p a_w e_gb a_bb)), (a_g, (oc6 6 5 a_gn e_g)), (a_gn, (arI G 30 f_g)), (a_b, (oc6 5 24 a_bn e_b)), (a_bn, (arI G 120 f_b)), (a_p, (oc6 8 5 a_pn e_p)), (a_pn, (arI G 40 f_p)), (a_bb, (arJ G 24 f_bb)), (a_j, (oc2 a_as a_sk)), (a_as, (arI G 8 f_as)), (a_sk, (arJ G 50 f_sk)), (a_l, (arW G 6 f_l)), (a_pt, (arI G 200 f_pt)), (a_wk, (oc9 a_h a_k a_go a_mt)), (a_go, (arJ G 24 f_go)), (a_mt, (arI G 1536 f_mt))] s.heap.size = A at hD hT ⊢
  have hA : ∀ q : Nat, s.heap.size ≤ q → A q := fun q h => by rw [← hAe]; exact Or.inr h
  have hS : va_S A s.heap s.heap [] := va_S.rf
  replace hP : va_P G.1 vwCl [(a_o, (oc11 a_h a_im a_ke a_k a_wa a_th a_ha a_wk a_r a_x e_tl e_fd e_fpl a_wd e_wn a_rf e_lr)), (a_k, (oc5 a_h a_j a_pt e_ln e_se e_lh e_br e_we e_me e_ce e_wy e_ho e_ov)), (a_h, (oc1 e_wa e_le e_st e_fo e_lc a_l a_g a_b a_s a_p a_w e_gb a_bb)), (a_g, (oc6 6 5 a_gn e_g)), (a_gn, (arI G 30 f_g)), (a_b, (oc6 5 24 a_bn e_b)), (a_bn, (arI G 120 f_b)), (a_p, (oc6 8 5 a_pn e_p)), (a_pn, (arI G 40 f_p)), (a_bb, (arJ G 24 f_bb)), (a_j, (oc2 a_as a_sk)), (a_as, (arI G 8 f_as)), (a_sk, (arJ G 50 f_sk)), (a_l, (arW G 6 f_l)), (a_pt, (arI G 200 f_pt)), (a_wk, (oc9 a_h a_k a_go a_mt)), (a_go, (arJ G 24 f_go)), (a_mt, (arI G 1536 f_mt))] s.heap := hP
  have hl := lv_entry ([.ref a_o, .int p_b, .int p_c, .int p_h, .int p_a]) (n := 6) (Nat.le_of_ble_eq_true rfl)
  rw [lg_entry_eq]
  generalize (lg_sl ([.ref a_o, .int p_b, .int p_c, .int p_h, .int p_a]) ++ List.replicate (6 - (lg_sl ([.ref a_o, .int p_b, .int p_c, .int p_h, .int p_a])).length) Slot.unset).toArray = ls at hl ⊢
  replace hl : lv_has ls 6 [(0, .ref a_o), (1, .int p_b), (2, .int p_c), (3, .int p_h), (4, .int p_a)] := hl
  refine lv_aload_n hx hb dX11_way_0 rfl (lv_at hl 0 rfl) ?_
  refine lv_iload_n hx hb dX11_way_1 rfl (lv_at hl 1 rfl) ?_
  refine lv_iload_n hx hb dX11_way_2 rfl (lv_at hl 2 rfl) ?_
  refine lv_iload_n hx hb dX11_way_3 rfl (lv_at hl 3 rfl) ?_
  refine W.eq (g2 := F0 m 4 ls [.int p_h, .int p_c, .int p_b, .ref a_o]) rfl ?_
  obtain ⟨hPc, hDc, hFc⟩ := g5_sub3 (wc := [(a_o, (oc11 a_h a_im a_ke a_k a_wa a_th a_ha a_wk a_r a_x e_tl e_fd e_fpl a_wd e_wn a_rf e_lr)), (a_h, (oc1 e_wa e_le e_st e_fo e_lc a_l a_g a_b a_s a_p a_w e_gb a_bb)), (a_b, (oc6 5 24 a_bn e_b))]) hP hD hS hA [0, 2, 5] (by decide +kernel) rfl
  refine va_calli (va_runV (As := [.int p_b, .int p_c, .int p_h]) (rest := []) ⟨hx, hb, hml, hown, hts⟩ (x_canWalk l G a_o a_h a_b a_im a_ke a_k a_wa a_th a_ha a_wk a_r a_x a_wd a_rf a_l a_g a_s a_p a_w a_bb a_bn s.heap.size e_tl e_fd e_fpl e_wn e_lr e_le e_st e_fo e_lc e_b p_b p_c p_h e_wa e_gb h_e_tl h_e_wn h_e_b) (cwV 3 hts gV_X11_327 rfl rfl rfl hv_X11_canWalk ⟨Nat.le_of_ble_eq_true rfl, Nat.le_of_ble_eq_true rfl⟩) (g5_preV hPc hK hDc hN hT hS hFc (ci := 11) (q0 := 0) rfl rfl) rfl rfl hl.1 rfl (lv_room (Nat.le_of_ble_eq_true rfl)) dX11_way_4 ⟨Nat.le_of_ble_eq_true rfl, Nat.le_of_ble_eq_true rfl⟩) hS (fun q _ h => hFc q h) hFc (fun r u t H locs ht hvm hw hB hz1 hk1 hS => ?_)
  obtain ⟨hP1, hD1⟩ := hB
  have hP1 := g5_ht ht hP1
  rcases hw with ⟨(i_1 : 0 ≤ p_c.toInt ∧ p_c.toInt ≤ 63), (i_2 : 0 ≤ p_h.toInt ∧ p_h.toInt ≤ 23), rfl, rfl⟩ | ⟨rfl, rfl⟩
  ·
    have hJ9 := va_join (wr := [(a_k, (oc5 a_h a_j a_pt e_ln e_se e_lh e_br e_we e_me e_ce e_wy e_ho e_ov)), (a_g, (oc6 6 5 a_gn e_g)), (a_gn, (arI G 30 f_g)), (a_bn, (arI G 120 f_b)), (a_p, (oc6 8 5 a_pn e_p)), (a_pn, (arI G 40 f_p)), (a_bb, (arJ G 24 f_bb)), (a_j, (oc2 a_as a_sk)), (a_as, (arI G 8 f_as)), (a_sk, (arJ G 50 f_sk)), (a_l, (arW G 6 f_l)), (a_pt, (arI G 200 f_pt)), (a_wk, (oc9 a_h a_k a_go a_mt)), (a_go, (arJ G 24 f_go)), (a_mt, (arI G 1536 f_mt))]) hP hD [0, 2, 5] [1, 3, 4, 6, 7, 8, 9, 10, 11, 12, 13, 14, 15, 16, 17] rfl rfl (by decide +kernel) (by decide +kernel) hk1 hFc hP1 hD1
    clear hP hD hPc hDc hFc ht hvm hz1 hk1 hP1 hD1
    obtain ⟨hP, hD⟩ := hJ9
    refine g5_rs [(a_k, (oc5 a_h a_j a_pt e_ln e_se e_lh e_br e_we e_me e_ce e_wy e_ho e_ov)), (a_g, (oc6 6 5 a_gn e_g)), (a_gn, (arI G 30 f_g)), (a_bn, (arI G 120 f_b)), (a_p, (oc6 8 5 a_pn e_p)), (a_pn, (arI G 40 f_p)), (a_bb, (arJ G 24 f_bb)), (a_j, (oc2 a_as a_sk)), (a_as, (arI G 8 f_as)), (a_sk, (arJ G 50 f_sk)), (a_l, (arW G 6 f_l)), (a_pt, (arI G 200 f_pt)), (a_wk, (oc9 a_h a_k a_go a_mt)), (a_go, (arJ G 24 f_go)), (a_mt, (arI G 1536 f_mt)), (a_o, (oc11 a_h a_im a_ke a_k a_wa a_th a_ha a_wk a_r a_x e_tl e_fd e_fpl a_wd e_wn a_rf e_lr)), (a_h, (oc1 e_wa e_le e_st e_fo e_lc a_l a_g a_b a_s a_p a_w e_gb a_bb)), (a_b, (oc6 5 24 a_bn e_b))] hP hD ?_
    clear hP hD
    intro hP hD
    refine lv_if_eq (tgt := 16) hx hb dX11_way_7 (by decide +kernel) (fun c_3 => ?_) (fun c_3 => ?_)
    ·
      exact absurd c_3 (by decide +kernel)
    ·
      refine lv_iload hx hb dX11_way_10 (lv_at hl 4 rfl) ?_
      refine lv_iload_n hx hb dX11_way_12 rfl (lv_at hl 3 rfl) ?_
      refine lv_icmp_ge (tgt := 18) hx hb dX11_way_13 (by decide +kernel) (fun c_4 => ?_) (fun c_4 => ?_)
      ·
        have i_4 : p_a.toInt ≥ p_h.toInt := g5_ge (a := p_a.toInt) (b := p_h.toInt) rfl rfl c_4
        refine lv_aload_n hx hb dX11_way_18 rfl (lv_at hl 0 rfl) ?_
        refine va_get (D := G.1) (ci := 11) (v := .ref a_wk) (C := RX11) (T := TX11) (N := 17) hx hb hts inG_X11 hown hK hP 15 rfl rfl 7 (by decide +kernel) (hts _ fl_X11_59) (fun _ h9 => h9) rfl dX11_way_19 ?_
        refine lv_iload_n hx hb dX11_way_22 rfl (lv_at hl 1 rfl) ?_
        refine lv_iload_n hx hb dX11_way_23 rfl (lv_at hl 2 rfl) ?_
        refine W.eq (g2 := F0 m 24 ls [.int p_c, .int p_b, .ref a_wk]) rfl ?_
        refine lv_iload_n hx hb dX11_way_24 rfl (lv_at hl 3 rfl) ?_
        refine lv_bipush (v := 24) hx hb dX11_way_25 (by decide +kernel) ?_
        obtain ⟨hPc, hDc, hFc⟩ := g5_sub3 (wc := [(a_k, (oc5 a_h a_j a_pt e_ln e_se e_lh e_br e_we e_me e_ce e_wy e_ho e_ov)), (a_h, (oc1 e_wa e_le e_st e_fo e_lc a_l a_g a_b a_s a_p a_w e_gb a_bb)), (a_g, (oc6 6 5 a_gn e_g)), (a_gn, (arI G 30 f_g)), (a_b, (oc6 5 24 a_bn e_b)), (a_bn, (arI G 120 f_b)), (a_p, (oc6 8 5 a_pn e_p)), (a_pn, (arI G 40 f_p)), (a_bb, (arJ G 24 f_bb)), (a_j, (oc2 a_as a_sk)), (a_as, (arI G 8 f_as)), (a_sk, (arJ G 50 f_sk)), (a_l, (arW G 6 f_l)), (a_pt, (arI G 200 f_pt)), (a_wk, (oc9 a_h a_k a_go a_mt)), (a_go, (arJ G 24 f_go)), (a_mt, (arI G 1536 f_mt))]) hP hD hS hA [0, 16, 1, 2, 17, 3, 4, 5, 6, 7, 8, 9, 10, 11, 12, 13, 14] (by decide +kernel) rfl
        refine va_calli (va_runV (As := [.int p_b, .int p_c, .int p_h, .int 24]) (rest := []) ⟨hx, hb, hml, hown, hts⟩ (a_firstN l G a_k a_h a_g a_gn a_b a_bn a_p a_pn a_bb a_j a_as a_sk a_l a_pt a_wk a_go a_mt a_s a_w H.size e_le e_st e_fo e_lc e_g e_b e_p e_ln e_se e_lh e_br e_we e_me e_ce e_wy e_ho e_ov p_b p_c p_h 24 e_wa e_gb f_g f_b f_p f_bb f_as f_sk f_l f_pt f_go f_mt h_e_g h_e_b h_e_p h_e_ov i_1 i_2 ⟨by decide, by decide⟩ (e_gk) (e_pk) (e_gi) (e_f)) (cwV 4 hts gV_X11_330 rfl rfl rfl hv_X9_firstSight ⟨Nat.le_of_ble_eq_true rfl, Nat.le_of_ble_eq_true rfl⟩) (g5_preV hPc hK hDc hN hT hS hFc (ci := 9) (q0 := 14) rfl rfl) rfl rfl hl.1 rfl (lv_room (Nat.le_of_ble_eq_true rfl)) dX11_way_27 ⟨Nat.le_of_ble_eq_true rfl, Nat.le_of_ble_eq_true rfl⟩) hS (fun q _ h => hFc q h) hFc (fun r u t H locs ht hvm hw hB hz1 hk1 hS => ?_)
        obtain ⟨hP1, hD1⟩ := hB
        have hP1 := g5_ht ht hP1
        obtain ⟨z8, z9, z10, z11, z12, z13, z14, z15, z16, z17, z18, z19, z20, z21, z22, z23, (i_5 : 0 ≤ z18.toInt ∧ z18.toInt ≤ 1), (i_6 : -1 ≤ z8.toInt ∧ z8.toInt ≤ 23), (i_7 : z8.toInt = -1 ∨ (p_h.toInt ≤ z8.toInt ∧ z8.toInt < (24 : Int32).toInt)), y24, rfl⟩ := hw
        have hJ9 := va_join (wr := [(a_o, (oc11 a_h a_im a_ke a_k a_wa a_th a_ha a_wk a_r a_x e_tl e_fd e_fpl a_wd e_wn a_rf e_lr))]) hP hD [0, 16, 1, 2, 17, 3, 4, 5, 6, 7, 8, 9, 10, 11, 12, 13, 14] [15] rfl rfl (by decide +kernel) (by decide +kernel) hk1 hFc hP1 hD1
        clear hP hD hPc hDc hFc ht hvm hz1 hk1 hP1 hD1
        obtain ⟨hP, hD⟩ := hJ9
        refine g5_rs [(a_o, (oc11 a_h a_im a_ke a_k a_wa a_th a_ha a_wk a_r a_x e_tl e_fd e_fpl a_wd e_wn a_rf e_lr)), (a_k, (oc5 a_h a_j a_pt z9 z10 z11 z12 z13 z14 z15 z16 z17 z18)), (a_h, (oc1 e_wa e_le e_st e_fo e_lc a_l a_g a_b a_s a_p a_w e_gb a_bb)), (a_g, (oc6 6 5 a_gn e_g)), (a_gn, (arI G 30 f_g)), (a_b, (oc6 5 24 a_bn e_b)), (a_bn, (arI G 120 f_b)), (a_p, (oc6 8 5 a_pn e_p)), (a_pn, (arI G 40 f_p)), (a_bb, (arJ G 24 f_bb)), (a_j, (oc2 a_as a_sk)), (a_as, (arI G 8 z20)), (a_sk, (arJ G 50 z21)), (a_l, (arW G 6 f_l)), (a_pt, (arI G 200 z19)), (a_wk, (oc9 a_h a_k a_go a_mt)), (a_go, (arJ G 24 z22)), (a_mt, (arI G 1536 z23))] hP hD ?_
        clear hP hD
        intro hP hD
        refine g5_ti (v := z8) y24 ?_
        refine lv_istore (lv' := [(5, .int z8), (0, .ref a_o), (1, .int p_b), (2, .int p_c), (3, .int p_h), (4, .int p_a)]) hx hb dX11_way_30 hl (by decide +kernel) rfl ?_
        clear hl
        intro ls hl
        refine lv_iload hx hb dX11_way_32 (lv_at hl 0 rfl) ?_
        refine W.eq (g2 := F0 m 34 ls [.int z8]) rfl ?_
        refine lv_iconst (v := (-1)) hx hb dX11_way_34 (by decide +kernel) ?_
        refine lv_icmp_eq (tgt := 45) hx hb dX11_way_35 (by decide +kernel) (fun c_25 => ?_) (fun c_25 => ?_)
        ·
          have i_25 : z8.toInt = (-1) := g5_eq (a := z8.toInt) (b := (-1)) rfl (by decide +kernel) c_25
          refine lv_iconst (v := (-1)) hx hb dX11_way_45 (by decide +kernel) ?_
          refine lv_goto (tgt := 62) hx hb dX11_way_46 (by decide +kernel) ?_
          exact W.iret (v := (-1)) hx hb hr (fun t ht hW => ⟨⟨(-1), [(a_o, (oc11 a_h a_im a_ke a_k a_wa a_th a_ha a_wk a_r a_x e_tl e_fd e_fpl a_wd e_wn a_rf e_lr)), (a_k, (oc5 a_h a_j a_pt z9 z10 z11 z12 z13 z14 z15 z16 z17 z18)), (a_h, (oc1 e_wa e_le e_st e_fo e_lc a_l a_g a_b a_s a_p a_w e_gb a_bb)), (a_g, (oc6 6 5 a_gn e_g)), (a_gn, (arI G 30 f_g)), (a_b, (oc6 5 24 a_bn e_b)), (a_bn, (arI G 120 f_b)), (a_p, (oc6 8 5 a_pn e_p)), (a_pn, (arI G 40 f_p)), (a_bb, (arJ G 24 f_bb)), (a_j, (oc2 a_as a_sk)), (a_as, (arI G 8 z20)), (a_sk, (arJ G 50 z21)), (a_l, (arW G 6 f_l)), (a_pt, (arI G 200 z19)), (a_wk, (oc9 a_h a_k a_go a_mt)), (a_go, (arJ G 24 z22)), (a_mt, (arI G 1536 z23))], rfl, ⟨(-1), z9, z10, z11, z12, z13, z14, z15, z16, z17, z18, z19, z20, z21, z22, z23, i_5, rfl, rfl⟩, by rw [ht]; exact hP.sub [0, 1, 2, 3, 4, 5, 6, 7, 8, 9, 10, 11, 12, 13, 14, 15, 16, 17] rfl, hD.sub [0, 1, 2, 3, 4, 5, 6, 7, 8, 9, 10, 11, 12, 13, 14, 15, 16, 17] (by decide +kernel) rfl⟩, hS.F ht⟩) hS.2.2 dX11_way_62
        ·
          have n_25 : gNe (z8.toInt) ((-1)) := g5_eqN (a := z8.toInt) (b := (-1)) rfl (by decide +kernel) c_25
          have i_25 : z8.toInt ≥ 0 := by have z := g5_eqN (a := z8.toInt) (b := (-1)) (by rfl) (by decide +kernel) c_25; omega
          refine lv_iload hx hb dX11_way_38 (lv_at hl 5 rfl) ?_
          refine lv_iload hx hb dX11_way_40 (lv_at hl 0 rfl) ?_
          refine lv_icmp_le (tgt := 49) hx hb dX11_way_42 (by decide +kernel) (fun c_26 => ?_) (fun c_26 => ?_)
          ·
            have i_26 : p_a.toInt ≤ z8.toInt := g5_le (a := p_a.toInt) (b := z8.toInt) rfl rfl c_26
            refine lv_aload_n hx hb dX11_way_49 rfl (lv_at hl 1 rfl) ?_
            refine va_get (D := G.1) (ci := 11) (v := .ref a_wk) (C := RX11) (T := TX11) (N := 17) hx hb hts inG_X11 hown hK hP 0 rfl rfl 7 (by decide +kernel) (hts _ fl_X11_59) (fun _ h9 => h9) rfl dX11_way_50 ?_
            refine lv_iload_n hx hb dX11_way_53 rfl (lv_at hl 3 rfl) ?_
            refine lv_iload_n hx hb dX11_way_54 rfl (lv_at hl 4 rfl) ?_
            refine W.eq (g2 := F0 m 55 ls [.int p_h, .int p_c, .ref a_wk]) rfl ?_
            refine lv_iload hx hb dX11_way_55 (lv_at hl 0 rfl) ?_
            refine lv_iload hx hb dX11_way_57 (lv_at hl 5 rfl) ?_
            obtain ⟨hPc, hDc, hFc⟩ := g5_sub3 (wc := [(a_h, (oc1 e_wa e_le e_st e_fo e_lc a_l a_g a_b a_s a_p a_w e_gb a_bb)), (a_wk, (oc9 a_h a_k a_go a_mt)), (a_go, (arJ G 24 z22))]) hP hD hS hA [2, 15, 16] (by decide +kernel) rfl
            refine va_calli (va_runV (As := [.int p_c, .int p_h, .int z8, .int p_a]) (rest := []) ⟨hx, hb, hml, hown, hts⟩ (a_row l G a_h a_wk a_go a_l a_g a_b a_s a_p a_w a_bb a_k a_mt H.size e_le e_st e_fo e_lc p_c p_h z8 p_a e_wa e_gb z22 i_1 i_2 ⟨by omega, by omega⟩ ⟨by omega, by omega⟩) (cwV 4 hts gV_X11_334 rfl rfl rfl hv_X9_firstRowAt ⟨Nat.le_of_ble_eq_true rfl, Nat.le_of_ble_eq_true rfl⟩) (g5_preV hPc hK hDc hN hT hS hFc (ci := 9) (q0 := 1) rfl rfl) rfl rfl hl.1 rfl (lv_room (Nat.le_of_ble_eq_true rfl)) dX11_way_59 ⟨Nat.le_of_ble_eq_true rfl, Nat.le_of_ble_eq_true rfl⟩) hS (fun q _ h => hFc q h) hFc (fun r u t H locs ht hvm hw hB hz1 hk1 hS => ?_)
            obtain ⟨hP1, hD1⟩ := hB
            have hP1 := g5_ht ht hP1
            obtain ⟨z28, z29, (i_27 : 0 ≤ z28.toInt ∧ z28.toInt ≤ 63), y30, rfl⟩ := hw
            have hJ9 := va_join (wr := [(a_o, (oc11 a_h a_im a_ke a_k a_wa a_th a_ha a_wk a_r a_x e_tl e_fd e_fpl a_wd e_wn a_rf e_lr)), (a_k, (oc5 a_h a_j a_pt z9 z10 z11 z12 z13 z14 z15 z16 z17 z18)), (a_g, (oc6 6 5 a_gn e_g)), (a_gn, (arI G 30 f_g)), (a_b, (oc6 5 24 a_bn e_b)), (a_bn, (arI G 120 f_b)), (a_p, (oc6 8 5 a_pn e_p)), (a_pn, (arI G 40 f_p)), (a_bb, (arJ G 24 f_bb)), (a_j, (oc2 a_as a_sk)), (a_as, (arI G 8 z20)), (a_sk, (arJ G 50 z21)), (a_l, (arW G 6 f_l)), (a_pt, (arI G 200 z19)), (a_mt, (arI G 1536 z23))]) hP hD [2, 15, 16] [0, 1, 3, 4, 5, 6, 7, 8, 9, 10, 11, 12, 13, 14, 17] rfl rfl (by decide +kernel) (by decide +kernel) hk1 hFc hP1 hD1
            clear hP hD hPc hDc hFc ht hvm hz1 hk1 hP1 hD1
            obtain ⟨hP, hD⟩ := hJ9
            refine g5_rs [(a_o, (oc11 a_h a_im a_ke a_k a_wa a_th a_ha a_wk a_r a_x e_tl e_fd e_fpl a_wd e_wn a_rf e_lr)), (a_k, (oc5 a_h a_j a_pt z9 z10 z11 z12 z13 z14 z15 z16 z17 z18)), (a_g, (oc6 6 5 a_gn e_g)), (a_gn, (arI G 30 f_g)), (a_b, (oc6 5 24 a_bn e_b)), (a_bn, (arI G 120 f_b)), (a_p, (oc6 8 5 a_pn e_p)), (a_pn, (arI G 40 f_p)), (a_bb, (arJ G 24 f_bb)), (a_j, (oc2 a_as a_sk)), (a_as, (arI G 8 z20)), (a_sk, (arJ G 50 z21)), (a_l, (arW G 6 f_l)), (a_pt, (arI G 200 z19)), (a_mt, (arI G 1536 z23)), (a_h, (oc1 e_wa e_le e_st e_fo e_lc a_l a_g a_b a_s a_p a_w e_gb a_bb)), (a_wk, (oc9 a_h a_k a_go a_mt)), (a_go, (arJ G 24 z29))] hP hD ?_
            clear hP hD
            intro hP hD
            refine g5_ti (v := z28) y30 ?_
            exact W.iret (v := z28) hx hb hr (fun t ht hW => ⟨⟨z28, [(a_o, (oc11 a_h a_im a_ke a_k a_wa a_th a_ha a_wk a_r a_x e_tl e_fd e_fpl a_wd e_wn a_rf e_lr)), (a_k, (oc5 a_h a_j a_pt z9 z10 z11 z12 z13 z14 z15 z16 z17 z18)), (a_h, (oc1 e_wa e_le e_st e_fo e_lc a_l a_g a_b a_s a_p a_w e_gb a_bb)), (a_g, (oc6 6 5 a_gn e_g)), (a_gn, (arI G 30 f_g)), (a_b, (oc6 5 24 a_bn e_b)), (a_bn, (arI G 120 f_b)), (a_p, (oc6 8 5 a_pn e_p)), (a_pn, (arI G 40 f_p)), (a_bb, (arJ G 24 f_bb)), (a_j, (oc2 a_as a_sk)), (a_as, (arI G 8 z20)), (a_sk, (arJ G 50 z21)), (a_l, (arW G 6 f_l)), (a_pt, (arI G 200 z19)), (a_wk, (oc9 a_h a_k a_go a_mt)), (a_go, (arJ G 24 z29)), (a_mt, (arI G 1536 z23))], rfl, ⟨z28, z9, z10, z11, z12, z13, z14, z15, z16, z17, z18, z19, z20, z21, z29, z23, i_5, rfl, rfl⟩, by rw [ht]; exact hP.sub [0, 1, 15, 2, 3, 4, 5, 6, 7, 8, 9, 10, 11, 12, 13, 16, 17, 14] rfl, hD.sub [0, 1, 15, 2, 3, 4, 5, 6, 7, 8, 9, 10, 11, 12, 13, 16, 17, 14] (by decide +kernel) rfl⟩, hS.F ht⟩) hS.2.2 dX11_way_62
          ·
            have i_26 : p_a.toInt > z8.toInt := g5_leN (a := p_a.toInt) (b := z8.toInt) rfl rfl c_26
            refine lv_iconst (v := (-1)) hx hb dX11_way_45 (by decide +kernel) ?_
            refine lv_goto (tgt := 62) hx hb dX11_way_46 (by decide +kernel) ?_
            exact W.iret (v := (-1)) hx hb hr (fun t ht hW => ⟨⟨(-1), [(a_o, (oc11 a_h a_im a_ke a_k a_wa a_th a_ha a_wk a_r a_x e_tl e_fd e_fpl a_wd e_wn a_rf e_lr)), (a_k, (oc5 a_h a_j a_pt z9 z10 z11 z12 z13 z14 z15 z16 z17 z18)), (a_h, (oc1 e_wa e_le e_st e_fo e_lc a_l a_g a_b a_s a_p a_w e_gb a_bb)), (a_g, (oc6 6 5 a_gn e_g)), (a_gn, (arI G 30 f_g)), (a_b, (oc6 5 24 a_bn e_b)), (a_bn, (arI G 120 f_b)), (a_p, (oc6 8 5 a_pn e_p)), (a_pn, (arI G 40 f_p)), (a_bb, (arJ G 24 f_bb)), (a_j, (oc2 a_as a_sk)), (a_as, (arI G 8 z20)), (a_sk, (arJ G 50 z21)), (a_l, (arW G 6 f_l)), (a_pt, (arI G 200 z19)), (a_wk, (oc9 a_h a_k a_go a_mt)), (a_go, (arJ G 24 z22)), (a_mt, (arI G 1536 z23))], rfl, ⟨(-1), z9, z10, z11, z12, z13, z14, z15, z16, z17, z18, z19, z20, z21, z22, z23, i_5, rfl, rfl⟩, by rw [ht]; exact hP.sub [0, 1, 2, 3, 4, 5, 6, 7, 8, 9, 10, 11, 12, 13, 14, 15, 16, 17] rfl, hD.sub [0, 1, 2, 3, 4, 5, 6, 7, 8, 9, 10, 11, 12, 13, 14, 15, 16, 17] (by decide +kernel) rfl⟩, hS.F ht⟩) hS.2.2 dX11_way_62
      ·
        have i_4 : p_a.toInt < p_h.toInt := g5_geN (a := p_a.toInt) (b := p_h.toInt) rfl rfl c_4
        refine lv_iconst (v := (-1)) hx hb dX11_way_16 (by decide +kernel) ?_
        exact W.iret (v := (-1)) hx hb hr (fun t ht hW => ⟨⟨(-1), [(a_o, (oc11 a_h a_im a_ke a_k a_wa a_th a_ha a_wk a_r a_x e_tl e_fd e_fpl a_wd e_wn a_rf e_lr)), (a_k, (oc5 a_h a_j a_pt e_ln e_se e_lh e_br e_we e_me e_ce e_wy e_ho e_ov)), (a_h, (oc1 e_wa e_le e_st e_fo e_lc a_l a_g a_b a_s a_p a_w e_gb a_bb)), (a_g, (oc6 6 5 a_gn e_g)), (a_gn, (arI G 30 f_g)), (a_b, (oc6 5 24 a_bn e_b)), (a_bn, (arI G 120 f_b)), (a_p, (oc6 8 5 a_pn e_p)), (a_pn, (arI G 40 f_p)), (a_bb, (arJ G 24 f_bb)), (a_j, (oc2 a_as a_sk)), (a_as, (arI G 8 f_as)), (a_sk, (arJ G 50 f_sk)), (a_l, (arW G 6 f_l)), (a_pt, (arI G 200 f_pt)), (a_wk, (oc9 a_h a_k a_go a_mt)), (a_go, (arJ G 24 f_go)), (a_mt, (arI G 1536 f_mt))], rfl, ⟨(-1), e_ln, e_se, e_lh, e_br, e_we, e_me, e_ce, e_wy, e_ho, e_ov, f_pt, f_as, f_sk, f_go, f_mt, h_e_ov, rfl, rfl⟩, by rw [ht]; exact hP.sub [15, 0, 16, 1, 2, 17, 3, 4, 5, 6, 7, 8, 9, 10, 11, 12, 13, 14] rfl, hD.sub [15, 0, 16, 1, 2, 17, 3, 4, 5, 6, 7, 8, 9, 10, 11, 12, 13, 14] (by decide +kernel) rfl⟩, hS.F ht⟩) hS.2.2 dX11_way_17
  ·
    have hJ9 := va_join (wr := [(a_k, (oc5 a_h a_j a_pt e_ln e_se e_lh e_br e_we e_me e_ce e_wy e_ho e_ov)), (a_g, (oc6 6 5 a_gn e_g)), (a_gn, (arI G 30 f_g)), (a_bn, (arI G 120 f_b)), (a_p, (oc6 8 5 a_pn e_p)), (a_pn, (arI G 40 f_p)), (a_bb, (arJ G 24 f_bb)), (a_j, (oc2 a_as a_sk)), (a_as, (arI G 8 f_as)), (a_sk, (arJ G 50 f_sk)), (a_l, (arW G 6 f_l)), (a_pt, (arI G 200 f_pt)), (a_wk, (oc9 a_h a_k a_go a_mt)), (a_go, (arJ G 24 f_go)), (a_mt, (arI G 1536 f_mt))]) hP hD [0, 2, 5] [1, 3, 4, 6, 7, 8, 9, 10, 11, 12, 13, 14, 15, 16, 17] rfl rfl (by decide +kernel) (by decide +kernel) hk1 hFc hP1 hD1
    clear hP hD hPc hDc hFc ht hvm hz1 hk1 hP1 hD1
    obtain ⟨hP, hD⟩ := hJ9
    refine g5_rs [(a_k, (oc5 a_h a_j a_pt e_ln e_se e_lh e_br e_we e_me e_ce e_wy e_ho e_ov)), (a_g, (oc6 6 5 a_gn e_g)), (a_gn, (arI G 30 f_g)), (a_bn, (arI G 120 f_b)), (a_p, (oc6 8 5 a_pn e_p)), (a_pn, (arI G 40 f_p)), (a_bb, (arJ G 24 f_bb)), (a_j, (oc2 a_as a_sk)), (a_as, (arI G 8 f_as)), (a_sk, (arJ G 50 f_sk)), (a_l, (arW G 6 f_l)), (a_pt, (arI G 200 f_pt)), (a_wk, (oc9 a_h a_k a_go a_mt)), (a_go, (arJ G 24 f_go)), (a_mt, (arI G 1536 f_mt)), (a_o, (oc11 a_h a_im a_ke a_k a_wa a_th a_ha a_wk a_r a_x e_tl e_fd e_fpl a_wd e_wn a_rf e_lr)), (a_h, (oc1 e_wa e_le e_st e_fo e_lc a_l a_g a_b a_s a_p a_w e_gb a_bb)), (a_b, (oc6 5 24 a_bn e_b))] hP hD ?_
    clear hP hD
    intro hP hD
    refine lv_if_eq (tgt := 16) hx hb dX11_way_7 (by decide +kernel) (fun c_31 => ?_) (fun c_31 => ?_)
    ·
      refine lv_iconst (v := (-1)) hx hb dX11_way_16 (by decide +kernel) ?_
      exact W.iret (v := (-1)) hx hb hr (fun t ht hW => ⟨⟨(-1), [(a_o, (oc11 a_h a_im a_ke a_k a_wa a_th a_ha a_wk a_r a_x e_tl e_fd e_fpl a_wd e_wn a_rf e_lr)), (a_k, (oc5 a_h a_j a_pt e_ln e_se e_lh e_br e_we e_me e_ce e_wy e_ho e_ov)), (a_h, (oc1 e_wa e_le e_st e_fo e_lc a_l a_g a_b a_s a_p a_w e_gb a_bb)), (a_g, (oc6 6 5 a_gn e_g)), (a_gn, (arI G 30 f_g)), (a_b, (oc6 5 24 a_bn e_b)), (a_bn, (arI G 120 f_b)), (a_p, (oc6 8 5 a_pn e_p)), (a_pn, (arI G 40 f_p)), (a_bb, (arJ G 24 f_bb)), (a_j, (oc2 a_as a_sk)), (a_as, (arI G 8 f_as)), (a_sk, (arJ G 50 f_sk)), (a_l, (arW G 6 f_l)), (a_pt, (arI G 200 f_pt)), (a_wk, (oc9 a_h a_k a_go a_mt)), (a_go, (arJ G 24 f_go)), (a_mt, (arI G 1536 f_mt))], rfl, ⟨(-1), e_ln, e_se, e_lh, e_br, e_we, e_me, e_ce, e_wy, e_ho, e_ov, f_pt, f_as, f_sk, f_go, f_mt, h_e_ov, rfl, rfl⟩, by rw [ht]; exact hP.sub [15, 0, 16, 1, 2, 17, 3, 4, 5, 6, 7, 8, 9, 10, 11, 12, 13, 14] rfl, hD.sub [15, 0, 16, 1, 2, 17, 3, 4, 5, 6, 7, 8, 9, 10, 11, 12, 13, 14] (by decide +kernel) rfl⟩, hS.F ht⟩) hS.2.2 dX11_way_17
    ·
      exact absurd c_31 (by decide +kernel)
set_option maxHeartbeats 4000000 in
set_option maxRecDepth 100000 in
theorem x_lookL (l : Launch) (G : g5_G) (a_o a_k a_h a_g a_gn a_b a_bn a_p a_pn a_bb a_j a_as a_sk a_l a_lo a_sr a_cd a_hd a_pt a_im a_ke a_wa a_th a_ha a_wk a_r a_x a_wd a_rf a_s a_w : Nat) (sz : Nat) (e_tl : Int32) (e_fd : Int32) (e_fpl : Int32) (e_wn : Int32) (e_lr : Int32) (e_le : Int32) (e_st : Int32) (e_fo : Int32) (e_lc : Int32) (e_g : Int32) (e_b : Int32) (e_p : Int32) (e_cl : Int32) (e_ln : Int32) (e_se : Int32) (e_lh : Int32) (e_br : Int32) (e_we : Int32) (e_me : Int32) (e_ce : Int32) (e_wy : Int32) (e_ho : Int32) (e_ov : Int32) (p_c : Int32) (p_w : Int32) (p_h : Int32) (p_t : Int32) (e_wa : Int64) (e_gb : Int64) (f_g : Nat → Int32) (f_b : Nat → Int32) (f_p : Nat → Int32) (f_bb : Nat → Int64) (f_as : Nat → Int32) (f_sk : Nat → Int64) (f_l : Nat → Option Nat) (f_sr : Nat → Int32) (f_cd : Nat → Int32) (f_hd : Nat → Int32) (f_pt : Nat → Int32) (n_sr : Nat) (n_cd : Nat) (n_hd : Nat) (h_e_tl : 0 ≤ e_tl.toInt ∧ e_tl.toInt ≤ 400) (h_e_wn : 0 ≤ e_wn.toInt ∧ e_wn.toInt ≤ 1) (h_e_g : 0 ≤ e_g.toInt ∧ e_g.toInt ≤ 6) (h_e_b : 0 ≤ e_b.toInt ∧ e_b.toInt ≤ 5) (h_e_p : 0 ≤ e_p.toInt ∧ e_p.toInt ≤ 8) (h_e_cl : 0 ≤ e_cl.toInt ∧ e_cl.toInt ≤ 12) (h_e_ov : 0 ≤ e_ov.toInt ∧ e_ov.toInt ≤ 1) (e_gk : gOK f_g e_g.toInt) (e_pk : gOK f_p e_p.toInt) (e_gi : inT e_gb f_g e_g.toInt) (e_f : 0 ≤ e_fo.toInt ∧ e_fo.toInt < e_lc.toInt ∧ e_lc.toInt ≤ 6) (e_a : f_l e_fo.toNatClampNeg = some a_lo) (e_hn : n_cd ≤ 400) (e_hs : ∀ j : Nat, j < n_sr → 0 ≤ (f_sr j).toInt ∧ (f_sr j).toInt ≤ (n_cd : Int)) (e_hk : ∀ j : Nat, j < n_cd → (f_cd j >>> (12 &&& 31)).toInt = 1 → (f_cd j &&& 4095).toInt < 8) (e_c : (e_cl.toInt : Int) ≤ (n_hd : Int) ∧ (e_cl.toInt + 1 : Int) ≤ (n_sr : Int)) : Met l yX11_look (wsG yX11_look cX11_look 5 (some .int)) ({ frames := 14, cells := 0, slots := 0, locals := 556 }) (va_Pc [.ref a_o, .int p_c, .int p_w, .int p_h, .int p_t] (g5_P G [(a_o, (oc11 a_h a_im a_ke a_k a_wa a_th a_ha a_wk a_r a_x e_tl e_fd e_fpl a_wd e_wn a_rf e_lr)), (a_k, (oc5 a_h a_j a_pt e_ln e_se e_lh e_br e_we e_me e_ce e_wy e_ho e_ov)), (a_h, (oc1 e_wa e_le e_st e_fo e_lc a_l a_g a_b a_s a_p a_w e_gb a_bb)), (a_g, (oc6 6 5 a_gn e_g)), (a_gn, (arI G 30 f_g)), (a_b, (oc6 5 24 a_bn e_b)), (a_bn, (arI G 120 f_b)), (a_p, (oc6 8 5 a_pn e_p)), (a_pn, (arI G 40 f_p)), (a_bb, (arJ G 24 f_bb)), (a_j, (oc2 a_as a_sk)), (a_as, (arI G 8 f_as)), (a_sk, (arJ G 50 f_sk)), (a_l, (arW G 6 f_l)), (a_lo, (oc3 e_cl a_hd a_sr a_cd)), (a_sr, (arI G n_sr f_sr)), (a_cd, (arI G n_cd f_cd)), (a_hd, (arI G n_hd f_hd)), (a_pt, (arI G 200 f_pt))] sz)) (va_Qi (fun (r : Int32) (u : va_W) => (∃ (o_r : Int32) (o_ln : Int32) (o_se : Int32) (o_lh : Int32) (o_br : Int32) (o_we : Int32) (o_me : Int32) (o_ce : Int32) (o_wy : Int32) (o_ho : Int32) (o_ov : Int32) (o_pt : Nat → Int32) (o_as : Nat → Int32) (o_sk : Nat → Int64), (0 ≤ o_ov.toInt ∧ o_ov.toInt ≤ 1) ∧ (r = o_r) ∧ (u = [(a_o, (oc11 a_h a_im a_ke a_k a_wa a_th a_ha a_wk a_r a_x e_tl e_fd e_fpl a_wd e_wn a_rf e_lr)), (a_k, (oc5 a_h a_j a_pt o_ln o_se o_lh o_br o_we o_me o_ce o_wy o_ho o_ov)), (a_h, (oc1 e_wa e_le e_st e_fo e_lc a_l a_g a_b a_s a_p a_w e_gb a_bb)), (a_g, (oc6 6 5 a_gn e_g)), (a_gn, (arI G 30 f_g)), (a_b, (oc6 5 24 a_bn e_b)), (a_bn, (arI G 120 f_b)), (a_p, (oc6 8 5 a_pn e_p)), (a_pn, (arI G 40 f_p)), (a_bb, (arJ G 24 f_bb)), (a_j, (oc2 a_as a_sk)), (a_as, (arI G 8 o_as)), (a_sk, (arJ G 50 o_sk)), (a_l, (arW G 6 f_l)), (a_lo, (oc3 e_cl a_hd a_sr a_cd)), (a_sr, (arI G n_sr f_sr)), (a_cd, (arI G n_cd f_cd)), (a_hd, (arI G n_hd f_hd)), (a_pt, (arI G 200 o_pt))]))) (g5_B G (va_A [(a_o, (oc11 a_h a_im a_ke a_k a_wa a_th a_ha a_wk a_r a_x e_tl e_fd e_fpl a_wd e_wn a_rf e_lr)), (a_k, (oc5 a_h a_j a_pt e_ln e_se e_lh e_br e_we e_me e_ce e_wy e_ho e_ov)), (a_h, (oc1 e_wa e_le e_st e_fo e_lc a_l a_g a_b a_s a_p a_w e_gb a_bb)), (a_g, (oc6 6 5 a_gn e_g)), (a_gn, (arI G 30 f_g)), (a_b, (oc6 5 24 a_bn e_b)), (a_bn, (arI G 120 f_b)), (a_p, (oc6 8 5 a_pn e_p)), (a_pn, (arI G 40 f_p)), (a_bb, (arJ G 24 f_bb)), (a_j, (oc2 a_as a_sk)), (a_as, (arI G 8 f_as)), (a_sk, (arJ G 50 f_sk)), (a_l, (arW G 6 f_l)), (a_lo, (oc3 e_cl a_hd a_sr a_cd)), (a_sr, (arI G n_sr f_sr)), (a_cd, (arI G n_cd f_cd)), (a_hd, (arI G n_hd f_hd)), (a_pt, (arI G 200 f_pt))] sz)) (va_A [(a_o, (oc11 a_h a_im a_ke a_k a_wa a_th a_ha a_wk a_r a_x e_tl e_fd e_fpl a_wd e_wn a_rf e_lr)), (a_k, (oc5 a_h a_j a_pt e_ln e_se e_lh e_br e_we e_me e_ce e_wy e_ho e_ov)), (a_h, (oc1 e_wa e_le e_st e_fo e_lc a_l a_g a_b a_s a_p a_w e_gb a_bb)), (a_g, (oc6 6 5 a_gn e_g)), (a_gn, (arI G 30 f_g)), (a_b, (oc6 5 24 a_bn e_b)), (a_bn, (arI G 120 f_b)), (a_p, (oc6 8 5 a_pn e_p)), (a_pn, (arI G 40 f_p)), (a_bb, (arJ G 24 f_bb)), (a_j, (oc2 a_as a_sk)), (a_as, (arI G 8 f_as)), (a_sk, (arJ G 50 f_sk)), (a_l, (arW G 6 f_l)), (a_lo, (oc3 e_cl a_hd a_sr a_cd)), (a_sr, (arI G n_sr f_sr)), (a_cd, (arI G n_cd f_cd)), (a_hd, (arI G n_hd f_hd)), (a_pt, (arI G 200 f_pt))] sz)) 0 0 (va_A [(a_o, (oc11 a_h a_im a_ke a_k a_wa a_th a_ha a_wk a_r a_x e_tl e_fd e_fpl a_wd e_wn a_rf e_lr)), (a_k, (oc5 a_h a_j a_pt e_ln e_se e_lh e_br e_we e_me e_ce e_wy e_ho e_ov)), (a_h, (oc1 e_wa e_le e_st e_fo e_lc a_l a_g a_b a_s a_p a_w e_gb a_bb)), (a_g, (oc6 6 5 a_gn e_g)), (a_gn, (arI G 30 f_g)), (a_b, (oc6 5 24 a_bn e_b)), (a_bn, (arI G 120 f_b)), (a_p, (oc6 8 5 a_pn e_p)), (a_pn, (arI G 40 f_p)), (a_bb, (arJ G 24 f_bb)), (a_j, (oc2 a_as a_sk)), (a_as, (arI G 8 f_as)), (a_sk, (arJ G 50 f_sk)), (a_l, (arW G 6 f_l)), (a_lo, (oc3 e_cl a_hd a_sr a_cd)), (a_sr, (arI G n_sr f_sr)), (a_cd, (arI G n_cd f_cd)), (a_hd, (arI G n_hd f_hd)), (a_pt, (arI G 200 f_pt))] sz) := by
  refine Met.ofW (cc := cX11_look) (maxL := 5) (ret := (some .int)) (by decide +kernel) rfl ?_
  intro p e s m args below meth c s₁ B hml hv
  obtain ⟨rfl, hsz, hP, hK, hD0, hN, hT⟩ := hv
  have hx := B.exec
  have hb := B.bytes
  have hr := B.returns
  have hts : ∀ w ∈ tblG, w.before _ s = true := fun w h => atoms_spec (ws := (wsG yX11_look cX11_look 5 (some .int))) B.pre w (List.mem_cons_of_mem _ h)
  have hown : s.vm.findClass RX11 = some m.cls := findClass_of_methodNamed B.named
  have hlocks := B.notSynchronized
  subst hsz
  have hD := hD0.self (sz := s.heap.size)
  generalize hAe : va_A [(a_o, (oc11 a_h a_im a_ke a_k a_wa a_th a_ha a_wk a_r a_x e_tl e_fd e_fpl a_wd e_wn a_rf e_lr)), (a_k, (oc5 a_h a_j a_pt e_ln e_se e_lh e_br e_we e_me e_ce e_wy e_ho e_ov)), (a_h, (oc1 e_wa e_le e_st e_fo e_lc a_l a_g a_b a_s a_p a_w e_gb a_bb)), (a_g, (oc6 6 5 a_gn e_g)), (a_gn, (arI G 30 f_g)), (a_b, (oc6 5 24 a_bn e_b)), (a_bn, (arI G 120 f_b)), (a_p, (oc6 8 5 a_pn e_p)), (a_pn, (arI G 40 f_p)), (a_bb, (arJ G 24 f_bb)), (a_j, (oc2 a_as a_sk)), (a_as, (arI G 8 f_as)), (a_sk, (arJ G 50 f_sk)), (a_l, (arW G 6 f_l)), (a_lo, (oc3 e_cl a_hd a_sr a_cd)), (a_sr, (arI G n_sr f_sr)), (a_cd, (arI G n_cd f_cd)), (a_hd, (arI G n_hd f_hd)), (a_pt, (arI G 200 f_pt))] s.heap.size = A at hD hT ⊢
  have hA : ∀ q : Nat, s.heap.size ≤ q → A q := fun q h => by rw [← hAe]; exact Or.inr h
  have hS : va_S A s.heap s.heap [] := va_S.rf
  replace hP : va_P G.1 vwCl [(a_o, (oc11 a_h a_im a_ke a_k a_wa a_th a_ha a_wk a_r a_x e_tl e_fd e_fpl a_wd e_wn a_rf e_lr)), (a_k, (oc5 a_h a_j a_pt e_ln e_se e_lh e_br e_we e_me e_ce e_wy e_ho e_ov)), (a_h, (oc1 e_wa e_le e_st e_fo e_lc a_l a_g a_b a_s a_p a_w e_gb a_bb)), (a_g, (oc6 6 5 a_gn e_g)), (a_gn, (arI G 30 f_g)), (a_b, (oc6 5 24 a_bn e_b)), (a_bn, (arI G 120 f_b)), (a_p, (oc6 8 5 a_pn e_p)), (a_pn, (arI G 40 f_p)), (a_bb, (arJ G 24 f_bb)), (a_j, (oc2 a_as a_sk)), (a_as, (arI G 8 f_as)), (a_sk, (arJ G 50 f_sk)), (a_l, (arW G 6 f_l)), (a_lo, (oc3 e_cl a_hd a_sr a_cd)), (a_sr, (arI G n_sr f_sr)), (a_cd, (arI G n_cd f_cd)), (a_hd, (arI G n_hd f_hd)), (a_pt, (arI G 200 f_pt))] s.heap := hP
  have hl := lv_entry ([.ref a_o, .int p_c, .int p_w, .int p_h, .int p_t]) (n := 5) (Nat.le_of_ble_eq_true rfl)
  rw [lg_entry_eq]
  generalize (lg_sl ([.ref a_o, .int p_c, .int p_w, .int p_h, .int p_t]) ++ List.replicate (5 - (lg_sl ([.ref a_o, .int p_c, .int p_w, .int p_h, .int p_t])).length) Slot.unset).toArray = ls at hl ⊢
  replace hl : lv_has ls 5 [(0, .ref a_o), (1, .int p_c), (2, .int p_w), (3, .int p_h), (4, .int p_t)] := hl
  refine lv_iload_n hx hb dX11_look_0 rfl (lv_at hl 1 rfl) ?_
  refine lv_iload_n hx hb dX11_look_1 rfl (lv_at hl 2 rfl) ?_
  refine lv_iload_n hx hb dX11_look_2 rfl (lv_at hl 3 rfl) ?_
  obtain ⟨hPc, hDc, hFc⟩ := g5_sub3 (wc := []) hP hD hS hA [] (by decide +kernel) rfl
  refine va_calli (va_runS (As := [.int p_c, .int p_w, .int p_h]) (rest := []) ⟨hx, hb, hml, hown, hts⟩ (x_isLook l G s.heap.size p_c p_w p_h) (va_cwS 3 hts gS_X11_207 rfl rfl rfl hs_X11_isLook ⟨Nat.le_of_ble_eq_true rfl, Nat.le_of_ble_eq_true rfl⟩) (g5_preS hPc hK hDc hN hT hS hFc) rfl rfl hl.1 rfl (lv_room (Nat.le_of_ble_eq_true rfl)) dX11_look_3 ⟨Nat.le_of_ble_eq_true rfl, Nat.le_of_ble_eq_true rfl⟩) hS (fun q _ h => hFc q h) hFc (fun r u t H locs ht hvm hw hB hz1 hk1 hS => ?_)
  obtain ⟨hP1, hD1⟩ := hB
  have hP1 := g5_ht ht hP1
  rcases hw with ⟨(i_1 : (0 ≤ p_c.toInt ∧ p_c.toInt ≤ 63) ∧ (0 ≤ p_w.toInt ∧ p_w.toInt ≤ 3) ∧ (0 ≤ p_h.toInt ∧ p_h.toInt ≤ 23)), rfl, rfl⟩ | ⟨rfl, rfl⟩
  ·
    have hJ9 := g5_same hP hk1
    clear hP hPc hDc hFc ht hvm hz1 hk1 hP1 hD1
    have hP := hJ9
    clear hJ9
    refine lv_if_ne (tgt := 11) hx hb dX11_look_6 (by decide +kernel) (fun c_2 => ?_) (fun c_2 => ?_)
    ·
      refine lv_aload_n hx hb dX11_look_11 rfl (lv_at hl 0 rfl) ?_
      refine va_get (D := G.1) (ci := 11) (v := .ref a_k) (C := RX11) (T := TX11) (N := 17) hx hb hts inG_X11 hown hK hP 0 rfl rfl 3 (by decide +kernel) (hts _ fl_X11_29) (fun _ h9 => h9) rfl dX11_look_12 ?_
      refine lv_iload_n hx hb dX11_look_15 rfl (lv_at hl 1 rfl) ?_
      refine lv_iload_n hx hb dX11_look_16 rfl (lv_at hl 2 rfl) ?_
      refine W.eq (g2 := F0 m 17 ls [.int p_w, .int p_c, .ref a_k]) rfl ?_
      refine lv_iload_n hx hb dX11_look_17 rfl (lv_at hl 3 rfl) ?_
      refine lv_iconst (v := 0) hx hb dX11_look_18 (by decide +kernel) ?_
      obtain ⟨hPc, hDc, hFc⟩ := g5_sub3 (wc := [(a_k, (oc5 a_h a_j a_pt e_ln e_se e_lh e_br e_we e_me e_ce e_wy e_ho e_ov)), (a_h, (oc1 e_wa e_le e_st e_fo e_lc a_l a_g a_b a_s a_p a_w e_gb a_bb)), (a_g, (oc6 6 5 a_gn e_g)), (a_gn, (arI G 30 f_g)), (a_b, (oc6 5 24 a_bn e_b)), (a_bn, (arI G 120 f_b)), (a_p, (oc6 8 5 a_pn e_p)), (a_pn, (arI G 40 f_p)), (a_bb, (arJ G 24 f_bb)), (a_j, (oc2 a_as a_sk)), (a_as, (arI G 8 f_as)), (a_sk, (arJ G 50 f_sk)), (a_l, (arW G 6 f_l)), (a_lo, (oc3 e_cl a_hd a_sr a_cd)), (a_sr, (arI G n_sr f_sr)), (a_cd, (arI G n_cd f_cd)), (a_hd, (arI G n_hd f_hd)), (a_pt, (arI G 200 f_pt))]) hP hD hS hA [1, 2, 3, 4, 5, 6, 7, 8, 9, 10, 11, 12, 13, 14, 15, 16, 17, 18] (by decide +kernel) rfl
      refine va_callv (va_runV (As := [.int p_c, .int p_w, .int p_h, .int 0]) (rest := []) ⟨hx, hb, hml, hown, hts⟩ (k_runL l G a_k a_h a_g a_gn a_b a_bn a_p a_pn a_bb a_j a_as a_sk a_l a_lo a_sr a_cd a_hd a_pt a_s a_w H.size e_le e_st e_fo e_lc e_g e_b e_p e_cl e_ln e_se e_lh e_br e_we e_me e_ce e_wy e_ho e_ov p_c p_w p_h 0 e_wa e_gb f_g f_b f_p f_bb f_as f_sk f_l f_sr f_cd f_hd f_pt n_sr n_cd n_hd h_e_g h_e_b h_e_p h_e_cl h_e_ov (e_gk) (e_pk) (e_gi) (e_f) (e_a) (e_hn) (e_hs) (e_hk) (e_c)) (cwV 4 hts gV_X11_210 rfl rfl rfl hv_X5_run ⟨Nat.le_of_ble_eq_true rfl, Nat.le_of_ble_eq_true rfl⟩) (g5_preV hPc hK hDc hN hT hS hFc (ci := 5) (q0 := 0) rfl rfl) rfl rfl hl.1 rfl (lv_room (Nat.le_of_ble_eq_true rfl)) dX11_look_19 ⟨Nat.le_of_ble_eq_true rfl, Nat.le_of_ble_eq_true rfl⟩) hS (fun q _ h => hFc q h) hFc (fun u t H locs ht hvm hw hB hz1 hk1 hS => ?_)
      obtain ⟨hP1, hD1⟩ := hB
      have hP1 := g5_ht ht hP1
      obtain ⟨z6, z7, z8, z9, z10, z11, z12, z13, z14, z15, z16, z17, z18, (i_3 : 0 ≤ z6.toInt ∧ z6.toInt ≤ 200), (i_4 : 0 ≤ z15.toInt ∧ z15.toInt ≤ 1), (i_5 : ∀ j : Nat, (j : Int) < z6.toInt → 0 ≤ (z16 j).toInt ∧ (z16 j).toInt ≤ 1535), rfl⟩ := hw
      have hJ9 := va_join (wr := [(a_o, (oc11 a_h a_im a_ke a_k a_wa a_th a_ha a_wk a_r a_x e_tl e_fd e_fpl a_wd e_wn a_rf e_lr))]) hP hD [1, 2, 3, 4, 5, 6, 7, 8, 9, 10, 11, 12, 13, 14, 15, 16, 17, 18] [0] rfl rfl (by decide +kernel) (by decide +kernel) hk1 hFc hP1 hD1
      clear hP hD hPc hDc hFc ht hvm hz1 hk1 hP1 hD1
      obtain ⟨hP, hD⟩ := hJ9
      refine g5_rs [(a_o, (oc11 a_h a_im a_ke a_k a_wa a_th a_ha a_wk a_r a_x e_tl e_fd e_fpl a_wd e_wn a_rf e_lr)), (a_k, (oc5 a_h a_j a_pt z6 z7 z8 z9 z10 z11 z12 z13 z14 z15)), (a_h, (oc1 e_wa e_le e_st e_fo e_lc a_l a_g a_b a_s a_p a_w e_gb a_bb)), (a_g, (oc6 6 5 a_gn e_g)), (a_gn, (arI G 30 f_g)), (a_b, (oc6 5 24 a_bn e_b)), (a_bn, (arI G 120 f_b)), (a_p, (oc6 8 5 a_pn e_p)), (a_pn, (arI G 40 f_p)), (a_bb, (arJ G 24 f_bb)), (a_j, (oc2 a_as a_sk)), (a_as, (arI G 8 z17)), (a_sk, (arJ G 50 z18)), (a_l, (arW G 6 f_l)), (a_lo, (oc3 e_cl a_hd a_sr a_cd)), (a_sr, (arI G n_sr f_sr)), (a_cd, (arI G n_cd f_cd)), (a_hd, (arI G n_hd f_hd)), (a_pt, (arI G 200 z16))] hP hD ?_
      clear hP hD
      intro hP hD
      refine lv_iload hx hb dX11_look_22 (lv_at hl 4 rfl) ?_
      rcases (show p_t.toInt = 0 ∨ p_t.toInt = 1 ∨ p_t.toInt = 2 ∨ p_t.toInt = 3 ∨ p_t.toInt = 4 ∨ p_t.toInt < 0 ∨ p_t.toInt > 4 by omega) with s_19 | s_19 | s_19 | s_19 | s_19 | s_19 | s_19
      ·
        have i_19 : p_t.toInt = 0 := by omega
        refine lv_tableIn (tgt := 60) hx hb dX11_look_24 (by omega) (by omega) (by rw [s_19]; rfl) (by decide +kernel) ?_
        refine lv_aload_n hx hb dX11_look_60 rfl (lv_at hl 0 rfl) ?_
        refine va_get (D := G.1) (ci := 11) (v := .ref a_k) (C := RX11) (T := TX11) (N := 17) hx hb hts inG_X11 hown hK hP 0 rfl rfl 3 (by decide +kernel) (hts _ fl_X11_29) (fun _ h9 => h9) rfl dX11_look_61 ?_
        refine va_get (D := G.1) (ci := 5) (v := .int z7) (C := RX5) (T := TX5) (N := 13) hx hb hts inG_X5 hown hK hP 1 rfl rfl 4 (by decide +kernel) (hts _ fl_X11_213) (fun _ h9 => h9) rfl dX11_look_64 ?_
        exact W.iret (v := z7) hx hb hr (fun t ht hW => ⟨⟨z7, [(a_o, (oc11 a_h a_im a_ke a_k a_wa a_th a_ha a_wk a_r a_x e_tl e_fd e_fpl a_wd e_wn a_rf e_lr)), (a_k, (oc5 a_h a_j a_pt z6 z7 z8 z9 z10 z11 z12 z13 z14 z15)), (a_h, (oc1 e_wa e_le e_st e_fo e_lc a_l a_g a_b a_s a_p a_w e_gb a_bb)), (a_g, (oc6 6 5 a_gn e_g)), (a_gn, (arI G 30 f_g)), (a_b, (oc6 5 24 a_bn e_b)), (a_bn, (arI G 120 f_b)), (a_p, (oc6 8 5 a_pn e_p)), (a_pn, (arI G 40 f_p)), (a_bb, (arJ G 24 f_bb)), (a_j, (oc2 a_as a_sk)), (a_as, (arI G 8 z17)), (a_sk, (arJ G 50 z18)), (a_l, (arW G 6 f_l)), (a_lo, (oc3 e_cl a_hd a_sr a_cd)), (a_sr, (arI G n_sr f_sr)), (a_cd, (arI G n_cd f_cd)), (a_hd, (arI G n_hd f_hd)), (a_pt, (arI G 200 z16))], rfl, ⟨z7, z6, z7, z8, z9, z10, z11, z12, z13, z14, z15, z16, z17, z18, i_4, rfl, rfl⟩, by rw [ht]; exact hP.sub [0, 1, 2, 3, 4, 5, 6, 7, 8, 9, 10, 11, 12, 13, 14, 15, 16, 17, 18] rfl, hD.sub [0, 1, 2, 3, 4, 5, 6, 7, 8, 9, 10, 11, 12, 13, 14, 15, 16, 17, 18] (by decide +kernel) rfl⟩, hS.F ht⟩) hS.2.2 dX11_look_67
      ·
        have i_19 : p_t.toInt = 1 := by omega
        refine lv_tableIn (tgt := 68) hx hb dX11_look_24 (by omega) (by omega) (by rw [s_19]; rfl) (by decide +kernel) ?_
        refine lv_aload_n hx hb dX11_look_68 rfl (lv_at hl 0 rfl) ?_
        refine va_get (D := G.1) (ci := 11) (v := .ref a_k) (C := RX11) (T := TX11) (N := 17) hx hb hts inG_X11 hown hK hP 0 rfl rfl 3 (by decide +kernel) (hts _ fl_X11_29) (fun _ h9 => h9) rfl dX11_look_69 ?_
        refine va_get (D := G.1) (ci := 5) (v := .int z6) (C := RX5) (T := TX5) (N := 13) hx hb hts inG_X5 hown hK hP 1 rfl rfl 3 (by decide +kernel) (hts _ fl_X11_216) (fun _ h9 => h9) rfl dX11_look_72 ?_
        exact W.iret (v := z6) hx hb hr (fun t ht hW => ⟨⟨z6, [(a_o, (oc11 a_h a_im a_ke a_k a_wa a_th a_ha a_wk a_r a_x e_tl e_fd e_fpl a_wd e_wn a_rf e_lr)), (a_k, (oc5 a_h a_j a_pt z6 z7 z8 z9 z10 z11 z12 z13 z14 z15)), (a_h, (oc1 e_wa e_le e_st e_fo e_lc a_l a_g a_b a_s a_p a_w e_gb a_bb)), (a_g, (oc6 6 5 a_gn e_g)), (a_gn, (arI G 30 f_g)), (a_b, (oc6 5 24 a_bn e_b)), (a_bn, (arI G 120 f_b)), (a_p, (oc6 8 5 a_pn e_p)), (a_pn, (arI G 40 f_p)), (a_bb, (arJ G 24 f_bb)), (a_j, (oc2 a_as a_sk)), (a_as, (arI G 8 z17)), (a_sk, (arJ G 50 z18)), (a_l, (arW G 6 f_l)), (a_lo, (oc3 e_cl a_hd a_sr a_cd)), (a_sr, (arI G n_sr f_sr)), (a_cd, (arI G n_cd f_cd)), (a_hd, (arI G n_hd f_hd)), (a_pt, (arI G 200 z16))], rfl, ⟨z6, z6, z7, z8, z9, z10, z11, z12, z13, z14, z15, z16, z17, z18, i_4, rfl, rfl⟩, by rw [ht]; exact hP.sub [0, 1, 2, 3, 4, 5, 6, 7, 8, 9, 10, 11, 12, 13, 14, 15, 16, 17, 18] rfl, hD.sub [0, 1, 2, 3, 4, 5, 6, 7, 8, 9, 10, 11, 12, 13, 14, 15, 16, 17, 18] (by decide +kernel) rfl⟩, hS.F ht⟩) hS.2.2 dX11_look_75
      ·
        have i_19 : p_t.toInt = 2 := by omega
        refine lv_tableIn (tgt := 76) hx hb dX11_look_24 (by omega) (by omega) (by rw [s_19]; rfl) (by decide +kernel) ?_
        refine lv_aload_n hx hb dX11_look_76 rfl (lv_at hl 0 rfl) ?_
        refine va_get (D := G.1) (ci := 11) (v := .ref a_k) (C := RX11) (T := TX11) (N := 17) hx hb hts inG_X11 hown hK hP 0 rfl rfl 3 (by decide +kernel) (hts _ fl_X11_29) (fun _ h9 => h9) rfl dX11_look_77 ?_
        refine va_get (D := G.1) (ci := 5) (v := .int z8) (C := RX5) (T := TX5) (N := 13) hx hb hts inG_X5 hown hK hP 1 rfl rfl 5 (by decide +kernel) (hts _ fl_X11_219) (fun _ h9 => h9) rfl dX11_look_80 ?_
        exact W.iret (v := z8) hx hb hr (fun t ht hW => ⟨⟨z8, [(a_o, (oc11 a_h a_im a_ke a_k a_wa a_th a_ha a_wk a_r a_x e_tl e_fd e_fpl a_wd e_wn a_rf e_lr)), (a_k, (oc5 a_h a_j a_pt z6 z7 z8 z9 z10 z11 z12 z13 z14 z15)), (a_h, (oc1 e_wa e_le e_st e_fo e_lc a_l a_g a_b a_s a_p a_w e_gb a_bb)), (a_g, (oc6 6 5 a_gn e_g)), (a_gn, (arI G 30 f_g)), (a_b, (oc6 5 24 a_bn e_b)), (a_bn, (arI G 120 f_b)), (a_p, (oc6 8 5 a_pn e_p)), (a_pn, (arI G 40 f_p)), (a_bb, (arJ G 24 f_bb)), (a_j, (oc2 a_as a_sk)), (a_as, (arI G 8 z17)), (a_sk, (arJ G 50 z18)), (a_l, (arW G 6 f_l)), (a_lo, (oc3 e_cl a_hd a_sr a_cd)), (a_sr, (arI G n_sr f_sr)), (a_cd, (arI G n_cd f_cd)), (a_hd, (arI G n_hd f_hd)), (a_pt, (arI G 200 z16))], rfl, ⟨z8, z6, z7, z8, z9, z10, z11, z12, z13, z14, z15, z16, z17, z18, i_4, rfl, rfl⟩, by rw [ht]; exact hP.sub [0, 1, 2, 3, 4, 5, 6, 7, 8, 9, 10, 11, 12, 13, 14, 15, 16, 17, 18] rfl, hD.sub [0, 1, 2, 3, 4, 5, 6, 7, 8, 9, 10, 11, 12, 13, 14, 15, 16, 17, 18] (by decide +kernel) rfl⟩, hS.F ht⟩) hS.2.2 dX11_look_83
      ·
        have i_19 : p_t.toInt = 3 := by omega
        refine lv_tableIn (tgt := 84) hx hb dX11_look_24 (by omega) (by omega) (by rw [s_19]; rfl) (by decide +kernel) ?_
        refine lv_aload_n hx hb dX11_look_84 rfl (lv_at hl 0 rfl) ?_
        refine va_get (D := G.1) (ci := 11) (v := .ref a_k) (C := RX11) (T := TX11) (N := 17) hx hb hts inG_X11 hown hK hP 0 rfl rfl 3 (by decide +kernel) (hts _ fl_X11_29) (fun _ h9 => h9) rfl dX11_look_85 ?_
        refine va_get (D := G.1) (ci := 5) (v := .int z9) (C := RX5) (T := TX5) (N := 13) hx hb hts inG_X5 hown hK hP 1 rfl rfl 6 (by decide +kernel) (hts _ fl_X11_222) (fun _ h9 => h9) rfl dX11_look_88 ?_
        exact W.iret (v := z9) hx hb hr (fun t ht hW => ⟨⟨z9, [(a_o, (oc11 a_h a_im a_ke a_k a_wa a_th a_ha a_wk a_r a_x e_tl e_fd e_fpl a_wd e_wn a_rf e_lr)), (a_k, (oc5 a_h a_j a_pt z6 z7 z8 z9 z10 z11 z12 z13 z14 z15)), (a_h, (oc1 e_wa e_le e_st e_fo e_lc a_l a_g a_b a_s a_p a_w e_gb a_bb)), (a_g, (oc6 6 5 a_gn e_g)), (a_gn, (arI G 30 f_g)), (a_b, (oc6 5 24 a_bn e_b)), (a_bn, (arI G 120 f_b)), (a_p, (oc6 8 5 a_pn e_p)), (a_pn, (arI G 40 f_p)), (a_bb, (arJ G 24 f_bb)), (a_j, (oc2 a_as a_sk)), (a_as, (arI G 8 z17)), (a_sk, (arJ G 50 z18)), (a_l, (arW G 6 f_l)), (a_lo, (oc3 e_cl a_hd a_sr a_cd)), (a_sr, (arI G n_sr f_sr)), (a_cd, (arI G n_cd f_cd)), (a_hd, (arI G n_hd f_hd)), (a_pt, (arI G 200 z16))], rfl, ⟨z9, z6, z7, z8, z9, z10, z11, z12, z13, z14, z15, z16, z17, z18, i_4, rfl, rfl⟩, by rw [ht]; exact hP.sub [0, 1, 2, 3, 4, 5, 6, 7, 8, 9, 10, 11, 12, 13, 14, 15, 16, 17, 18] rfl, hD.sub [0, 1, 2, 3, 4, 5, 6, 7, 8, 9, 10, 11, 12, 13, 14, 15, 16, 17, 18] (by decide +kernel) rfl⟩, hS.F ht⟩) hS.2.2 dX11_look_91
      ·
        have i_19 : p_t.toInt = 4 := by omega
        refine lv_tableIn (tgt := 92) hx hb dX11_look_24 (by omega) (by omega) (by rw [s_19]; rfl) (by decide +kernel) ?_
        refine lv_aload_n hx hb dX11_look_92 rfl (lv_at hl 0 rfl) ?_
        refine va_get (D := G.1) (ci := 11) (v := .ref a_k) (C := RX11) (T := TX11) (N := 17) hx hb hts inG_X11 hown hK hP 0 rfl rfl 3 (by decide +kernel) (hts _ fl_X11_29) (fun _ h9 => h9) rfl dX11_look_93 ?_
        refine va_get (D := G.1) (ci := 5) (v := .int z10) (C := RX5) (T := TX5) (N := 13) hx hb hts inG_X5 hown hK hP 1 rfl rfl 7 (by decide +kernel) (hts _ fl_X11_225) (fun _ h9 => h9) rfl dX11_look_96 ?_
        exact W.iret (v := z10) hx hb hr (fun t ht hW => ⟨⟨z10, [(a_o, (oc11 a_h a_im a_ke a_k a_wa a_th a_ha a_wk a_r a_x e_tl e_fd e_fpl a_wd e_wn a_rf e_lr)), (a_k, (oc5 a_h a_j a_pt z6 z7 z8 z9 z10 z11 z12 z13 z14 z15)), (a_h, (oc1 e_wa e_le e_st e_fo e_lc a_l a_g a_b a_s a_p a_w e_gb a_bb)), (a_g, (oc6 6 5 a_gn e_g)), (a_gn, (arI G 30 f_g)), (a_b, (oc6 5 24 a_bn e_b)), (a_bn, (arI G 120 f_b)), (a_p, (oc6 8 5 a_pn e_p)), (a_pn, (arI G 40 f_p)), (a_bb, (arJ G 24 f_bb)), (a_j, (oc2 a_as a_sk)), (a_as, (arI G 8 z17)), (a_sk, (arJ G 50 z18)), (a_l, (arW G 6 f_l)), (a_lo, (oc3 e_cl a_hd a_sr a_cd)), (a_sr, (arI G n_sr f_sr)), (a_cd, (arI G n_cd f_cd)), (a_hd, (arI G n_hd f_hd)), (a_pt, (arI G 200 z16))], rfl, ⟨z10, z6, z7, z8, z9, z10, z11, z12, z13, z14, z15, z16, z17, z18, i_4, rfl, rfl⟩, by rw [ht]; exact hP.sub [0, 1, 2, 3, 4, 5, 6, 7, 8, 9, 10, 11, 12, 13, 14, 15, 16, 17, 18] rfl, hD.sub [0, 1, 2, 3, 4, 5, 6, 7, 8, 9, 10, 11, 12, 13, 14, 15, 16, 17, 18] (by decide +kernel) rfl⟩, hS.F ht⟩) hS.2.2 dX11_look_99
      ·
        have i_19 : p_t.toInt < 0 := by omega
        refine lv_tableOut (tgt := 100) hx hb dX11_look_24 (by omega) (by decide +kernel) ?_
        refine lv_iconst (v := (-1)) hx hb dX11_look_100 (by decide +kernel) ?_
        exact W.iret (v := (-1)) hx hb hr (fun t ht hW => ⟨⟨(-1), [(a_o, (oc11 a_h a_im a_ke a_k a_wa a_th a_ha a_wk a_r a_x e_tl e_fd e_fpl a_wd e_wn a_rf e_lr)), (a_k, (oc5 a_h a_j a_pt z6 z7 z8 z9 z10 z11 z12 z13 z14 z15)), (a_h, (oc1 e_wa e_le e_st e_fo e_lc a_l a_g a_b a_s a_p a_w e_gb a_bb)), (a_g, (oc6 6 5 a_gn e_g)), (a_gn, (arI G 30 f_g)), (a_b, (oc6 5 24 a_bn e_b)), (a_bn, (arI G 120 f_b)), (a_p, (oc6 8 5 a_pn e_p)), (a_pn, (arI G 40 f_p)), (a_bb, (arJ G 24 f_bb)), (a_j, (oc2 a_as a_sk)), (a_as, (arI G 8 z17)), (a_sk, (arJ G 50 z18)), (a_l, (arW G 6 f_l)), (a_lo, (oc3 e_cl a_hd a_sr a_cd)), (a_sr, (arI G n_sr f_sr)), (a_cd, (arI G n_cd f_cd)), (a_hd, (arI G n_hd f_hd)), (a_pt, (arI G 200 z16))], rfl, ⟨(-1), z6, z7, z8, z9, z10, z11, z12, z13, z14, z15, z16, z17, z18, i_4, rfl, rfl⟩, by rw [ht]; exact hP.sub [0, 1, 2, 3, 4, 5, 6, 7, 8, 9, 10, 11, 12, 13, 14, 15, 16, 17, 18] rfl, hD.sub [0, 1, 2, 3, 4, 5, 6, 7, 8, 9, 10, 11, 12, 13, 14, 15, 16, 17, 18] (by decide +kernel) rfl⟩, hS.F ht⟩) hS.2.2 dX11_look_101
      ·
        have i_19 : p_t.toInt > 4 := by omega
        refine lv_tableOut (tgt := 100) hx hb dX11_look_24 (by omega) (by decide +kernel) ?_
        refine lv_iconst (v := (-1)) hx hb dX11_look_100 (by decide +kernel) ?_
        exact W.iret (v := (-1)) hx hb hr (fun t ht hW => ⟨⟨(-1), [(a_o, (oc11 a_h a_im a_ke a_k a_wa a_th a_ha a_wk a_r a_x e_tl e_fd e_fpl a_wd e_wn a_rf e_lr)), (a_k, (oc5 a_h a_j a_pt z6 z7 z8 z9 z10 z11 z12 z13 z14 z15)), (a_h, (oc1 e_wa e_le e_st e_fo e_lc a_l a_g a_b a_s a_p a_w e_gb a_bb)), (a_g, (oc6 6 5 a_gn e_g)), (a_gn, (arI G 30 f_g)), (a_b, (oc6 5 24 a_bn e_b)), (a_bn, (arI G 120 f_b)), (a_p, (oc6 8 5 a_pn e_p)), (a_pn, (arI G 40 f_p)), (a_bb, (arJ G 24 f_bb)), (a_j, (oc2 a_as a_sk)), (a_as, (arI G 8 z17)), (a_sk, (arJ G 50 z18)), (a_l, (arW G 6 f_l)), (a_lo, (oc3 e_cl a_hd a_sr a_cd)), (a_sr, (arI G n_sr f_sr)), (a_cd, (arI G n_cd f_cd)), (a_hd, (arI G n_hd f_hd)), (a_pt, (arI G 200 z16))], rfl, ⟨(-1), z6, z7, z8, z9, z10, z11, z12, z13, z14, z15, z16, z17, z18, i_4, rfl, rfl⟩, by rw [ht]; exact hP.sub [0, 1, 2, 3, 4, 5, 6, 7, 8, 9, 10, 11, 12, 13, 14, 15, 16, 17, 18] rfl, hD.sub [0, 1, 2, 3, 4, 5, 6, 7, 8, 9, 10, 11, 12, 13, 14, 15, 16, 17, 18] (by decide +kernel) rfl⟩, hS.F ht⟩) hS.2.2 dX11_look_101
    ·
      exact absurd c_2 (by decide +kernel)
  ·
    have hJ9 := g5_same hP hk1
    clear hP hPc hDc hFc ht hvm hz1 hk1 hP1 hD1
    have hP := hJ9
    clear hJ9
    refine lv_if_ne (tgt := 11) hx hb dX11_look_6 (by decide +kernel) (fun c_20 => ?_) (fun c_20 => ?_)
    ·
      exact absurd c_20 (by decide +kernel)
    ·
      refine lv_iconst (v := (-1)) hx hb dX11_look_9 (by decide +kernel) ?_
      exact W.iret (v := (-1)) hx hb hr (fun t ht hW => ⟨⟨(-1), [(a_o, (oc11 a_h a_im a_ke a_k a_wa a_th a_ha a_wk a_r a_x e_tl e_fd e_fpl a_wd e_wn a_rf e_lr)), (a_k, (oc5 a_h a_j a_pt e_ln e_se e_lh e_br e_we e_me e_ce e_wy e_ho e_ov)), (a_h, (oc1 e_wa e_le e_st e_fo e_lc a_l a_g a_b a_s a_p a_w e_gb a_bb)), (a_g, (oc6 6 5 a_gn e_g)), (a_gn, (arI G 30 f_g)), (a_b, (oc6 5 24 a_bn e_b)), (a_bn, (arI G 120 f_b)), (a_p, (oc6 8 5 a_pn e_p)), (a_pn, (arI G 40 f_p)), (a_bb, (arJ G 24 f_bb)), (a_j, (oc2 a_as a_sk)), (a_as, (arI G 8 f_as)), (a_sk, (arJ G 50 f_sk)), (a_l, (arW G 6 f_l)), (a_lo, (oc3 e_cl a_hd a_sr a_cd)), (a_sr, (arI G n_sr f_sr)), (a_cd, (arI G n_cd f_cd)), (a_hd, (arI G n_hd f_hd)), (a_pt, (arI G 200 f_pt))], rfl, ⟨(-1), e_ln, e_se, e_lh, e_br, e_we, e_me, e_ce, e_wy, e_ho, e_ov, f_pt, f_as, f_sk, h_e_ov, rfl, rfl⟩, by rw [ht]; exact hP.sub [0, 1, 2, 3, 4, 5, 6, 7, 8, 9, 10, 11, 12, 13, 14, 15, 16, 17, 18] rfl, hD.sub [0, 1, 2, 3, 4, 5, 6, 7, 8, 9, 10, 11, 12, 13, 14, 15, 16, 17, 18] (by decide +kernel) rfl⟩, hS.F ht⟩) hS.2.2 dX11_look_10
set_option maxHeartbeats 4000000 in
set_option maxRecDepth 100000 in
theorem x_pointL (l : Launch) (G : g5_G) (a_o a_k a_h a_g a_gn a_b a_bn a_p a_pn a_bb a_j a_as a_sk a_l a_lo a_sr a_cd a_hd a_pt a_im a_ke a_wa a_th a_ha a_wk a_r a_x a_wd a_rf a_s a_w : Nat) (sz : Nat) (e_tl : Int32) (e_fd : Int32) (e_fpl : Int32) (e_wn : Int32) (e_lr : Int32) (e_le : Int32) (e_st : Int32) (e_fo : Int32) (e_lc : Int32) (e_g : Int32) (e_b : Int32) (e_p : Int32) (e_cl : Int32) (e_ln : Int32) (e_se : Int32) (e_lh : Int32) (e_br : Int32) (e_we : Int32) (e_me : Int32) (e_ce : Int32) (e_wy : Int32) (e_ho : Int32) (e_ov : Int32) (p_c : Int32) (p_w : Int32) (p_h : Int32) (p_i : Int32) (e_wa : Int64) (e_gb : Int64) (f_g : Nat → Int32) (f_b : Nat → Int32) (f_p : Nat → Int32) (f_bb : Nat → Int64) (f_as : Nat → Int32) (f_sk : Nat → Int64) (f_l : Nat → Option Nat) (f_sr : Nat → Int32) (f_cd : Nat → Int32) (f_hd : Nat → Int32) (f_pt : Nat → Int32) (n_sr : Nat) (n_cd : Nat) (n_hd : Nat) (h_e_tl : 0 ≤ e_tl.toInt ∧ e_tl.toInt ≤ 400) (h_e_wn : 0 ≤ e_wn.toInt ∧ e_wn.toInt ≤ 1) (h_e_g : 0 ≤ e_g.toInt ∧ e_g.toInt ≤ 6) (h_e_b : 0 ≤ e_b.toInt ∧ e_b.toInt ≤ 5) (h_e_p : 0 ≤ e_p.toInt ∧ e_p.toInt ≤ 8) (h_e_cl : 0 ≤ e_cl.toInt ∧ e_cl.toInt ≤ 12) (h_e_ov : 0 ≤ e_ov.toInt ∧ e_ov.toInt ≤ 1) (e_gk : gOK f_g e_g.toInt) (e_pk : gOK f_p e_p.toInt) (e_gi : inT e_gb f_g e_g.toInt) (e_f : 0 ≤ e_fo.toInt ∧ e_fo.toInt < e_lc.toInt ∧ e_lc.toInt ≤ 6) (e_a : f_l e_fo.toNatClampNeg = some a_lo) (e_hn : n_cd ≤ 400) (e_hs : ∀ j : Nat, j < n_sr → 0 ≤ (f_sr j).toInt ∧ (f_sr j).toInt ≤ (n_cd : Int)) (e_hk : ∀ j : Nat, j < n_cd → (f_cd j >>> (12 &&& 31)).toInt = 1 → (f_cd j &&& 4095).toInt < 8) (e_c : (e_cl.toInt : Int) ≤ (n_hd : Int) ∧ (e_cl.toInt + 1 : Int) ≤ (n_sr : Int)) : Met l yX11_point (wsG yX11_point cX11_point 5 (some .int)) ({ frames := 14, cells := 0, slots := 0, locals := 556 }) (va_Pc [.ref a_o, .int p_c, .int p_w, .int p_h, .int p_i] (g5_P G [(a_o, (oc11 a_h a_im a_ke a_k a_wa a_th a_ha a_wk a_r a_x e_tl e_fd e_fpl a_wd e_wn a_rf e_lr)), (a_k, (oc5 a_h a_j a_pt e_ln e_se e_lh e_br e_we e_me e_ce e_wy e_ho e_ov)), (a_h, (oc1 e_wa e_le e_st e_fo e_lc a_l a_g a_b a_s a_p a_w e_gb a_bb)), (a_g, (oc6 6 5 a_gn e_g)), (a_gn, (arI G 30 f_g)), (a_b, (oc6 5 24 a_bn e_b)), (a_bn, (arI G 120 f_b)), (a_p, (oc6 8 5 a_pn e_p)), (a_pn, (arI G 40 f_p)), (a_bb, (arJ G 24 f_bb)), (a_j, (oc2 a_as a_sk)), (a_as, (arI G 8 f_as)), (a_sk, (arJ G 50 f_sk)), (a_l, (arW G 6 f_l)), (a_lo, (oc3 e_cl a_hd a_sr a_cd)), (a_sr, (arI G n_sr f_sr)), (a_cd, (arI G n_cd f_cd)), (a_hd, (arI G n_hd f_hd)), (a_pt, (arI G 200 f_pt))] sz)) (va_Qi (fun (r : Int32) (u : va_W) => (∃ (o_r : Int32) (o_ln : Int32) (o_se : Int32) (o_lh : Int32) (o_br : Int32) (o_we : Int32) (o_me : Int32) (o_ce : Int32) (o_wy : Int32) (o_ho : Int32) (o_ov : Int32) (o_pt : Nat → Int32) (o_as : Nat → Int32) (o_sk : Nat → Int64), (0 ≤ o_ov.toInt ∧ o_ov.toInt ≤ 1) ∧ (r = o_r) ∧ (u = [(a_o, (oc11 a_h a_im a_ke a_k a_wa a_th a_ha a_wk a_r a_x e_tl e_fd e_fpl a_wd e_wn a_rf e_lr)), (a_k, (oc5 a_h a_j a_pt o_ln o_se o_lh o_br o_we o_me o_ce o_wy o_ho o_ov)), (a_h, (oc1 e_wa e_le e_st e_fo e_lc a_l a_g a_b a_s a_p a_w e_gb a_bb)), (a_g, (oc6 6 5 a_gn e_g)), (a_gn, (arI G 30 f_g)), (a_b, (oc6 5 24 a_bn e_b)), (a_bn, (arI G 120 f_b)), (a_p, (oc6 8 5 a_pn e_p)), (a_pn, (arI G 40 f_p)), (a_bb, (arJ G 24 f_bb)), (a_j, (oc2 a_as a_sk)), (a_as, (arI G 8 o_as)), (a_sk, (arJ G 50 o_sk)), (a_l, (arW G 6 f_l)), (a_lo, (oc3 e_cl a_hd a_sr a_cd)), (a_sr, (arI G n_sr f_sr)), (a_cd, (arI G n_cd f_cd)), (a_hd, (arI G n_hd f_hd)), (a_pt, (arI G 200 o_pt))]))) (g5_B G (va_A [(a_o, (oc11 a_h a_im a_ke a_k a_wa a_th a_ha a_wk a_r a_x e_tl e_fd e_fpl a_wd e_wn a_rf e_lr)), (a_k, (oc5 a_h a_j a_pt e_ln e_se e_lh e_br e_we e_me e_ce e_wy e_ho e_ov)), (a_h, (oc1 e_wa e_le e_st e_fo e_lc a_l a_g a_b a_s a_p a_w e_gb a_bb)), (a_g, (oc6 6 5 a_gn e_g)), (a_gn, (arI G 30 f_g)), (a_b, (oc6 5 24 a_bn e_b)), (a_bn, (arI G 120 f_b)), (a_p, (oc6 8 5 a_pn e_p)), (a_pn, (arI G 40 f_p)), (a_bb, (arJ G 24 f_bb)), (a_j, (oc2 a_as a_sk)), (a_as, (arI G 8 f_as)), (a_sk, (arJ G 50 f_sk)), (a_l, (arW G 6 f_l)), (a_lo, (oc3 e_cl a_hd a_sr a_cd)), (a_sr, (arI G n_sr f_sr)), (a_cd, (arI G n_cd f_cd)), (a_hd, (arI G n_hd f_hd)), (a_pt, (arI G 200 f_pt))] sz)) (va_A [(a_o, (oc11 a_h a_im a_ke a_k a_wa a_th a_ha a_wk a_r a_x e_tl e_fd e_fpl a_wd e_wn a_rf e_lr)), (a_k, (oc5 a_h a_j a_pt e_ln e_se e_lh e_br e_we e_me e_ce e_wy e_ho e_ov)), (a_h, (oc1 e_wa e_le e_st e_fo e_lc a_l a_g a_b a_s a_p a_w e_gb a_bb)), (a_g, (oc6 6 5 a_gn e_g)), (a_gn, (arI G 30 f_g)), (a_b, (oc6 5 24 a_bn e_b)), (a_bn, (arI G 120 f_b)), (a_p, (oc6 8 5 a_pn e_p)), (a_pn, (arI G 40 f_p)), (a_bb, (arJ G 24 f_bb)), (a_j, (oc2 a_as a_sk)), (a_as, (arI G 8 f_as)), (a_sk, (arJ G 50 f_sk)), (a_l, (arW G 6 f_l)), (a_lo, (oc3 e_cl a_hd a_sr a_cd)), (a_sr, (arI G n_sr f_sr)), (a_cd, (arI G n_cd f_cd)), (a_hd, (arI G n_hd f_hd)), (a_pt, (arI G 200 f_pt))] sz)) 0 0 (va_A [(a_o, (oc11 a_h a_im a_ke a_k a_wa a_th a_ha a_wk a_r a_x e_tl e_fd e_fpl a_wd e_wn a_rf e_lr)), (a_k, (oc5 a_h a_j a_pt e_ln e_se e_lh e_br e_we e_me e_ce e_wy e_ho e_ov)), (a_h, (oc1 e_wa e_le e_st e_fo e_lc a_l a_g a_b a_s a_p a_w e_gb a_bb)), (a_g, (oc6 6 5 a_gn e_g)), (a_gn, (arI G 30 f_g)), (a_b, (oc6 5 24 a_bn e_b)), (a_bn, (arI G 120 f_b)), (a_p, (oc6 8 5 a_pn e_p)), (a_pn, (arI G 40 f_p)), (a_bb, (arJ G 24 f_bb)), (a_j, (oc2 a_as a_sk)), (a_as, (arI G 8 f_as)), (a_sk, (arJ G 50 f_sk)), (a_l, (arW G 6 f_l)), (a_lo, (oc3 e_cl a_hd a_sr a_cd)), (a_sr, (arI G n_sr f_sr)), (a_cd, (arI G n_cd f_cd)), (a_hd, (arI G n_hd f_hd)), (a_pt, (arI G 200 f_pt))] sz) := by
  refine Met.ofW (cc := cX11_point) (maxL := 5) (ret := (some .int)) (by decide +kernel) rfl ?_
  intro p e s m args below meth c s₁ B hml hv
  obtain ⟨rfl, hsz, hP, hK, hD0, hN, hT⟩ := hv
  have hx := B.exec
  have hb := B.bytes
  have hr := B.returns
  have hts : ∀ w ∈ tblG, w.before _ s = true := fun w h => atoms_spec (ws := (wsG yX11_point cX11_point 5 (some .int))) B.pre w (List.mem_cons_of_mem _ h)
  have hown : s.vm.findClass RX11 = some m.cls := findClass_of_methodNamed B.named
  have hlocks := B.notSynchronized
  subst hsz
  have hD := hD0.self (sz := s.heap.size)
  generalize hAe : va_A [(a_o, (oc11 a_h a_im a_ke a_k a_wa a_th a_ha a_wk a_r a_x e_tl e_fd e_fpl a_wd e_wn a_rf e_lr)), (a_k, (oc5 a_h a_j a_pt e_ln e_se e_lh e_br e_we e_me e_ce e_wy e_ho e_ov)), (a_h, (oc1 e_wa e_le e_st e_fo e_lc a_l a_g a_b a_s a_p a_w e_gb a_bb)), (a_g, (oc6 6 5 a_gn e_g)), (a_gn, (arI G 30 f_g)), (a_b, (oc6 5 24 a_bn e_b)), (a_bn, (arI G 120 f_b)), (a_p, (oc6 8 5 a_pn e_p)), (a_pn, (arI G 40 f_p)), (a_bb, (arJ G 24 f_bb)), (a_j, (oc2 a_as a_sk)), (a_as, (arI G 8 f_as)), (a_sk, (arJ G 50 f_sk)), (a_l, (arW G 6 f_l)), (a_lo, (oc3 e_cl a_hd a_sr a_cd)), (a_sr, (arI G n_sr f_sr)), (a_cd, (arI G n_cd f_cd)), (a_hd, (arI G n_hd f_hd)), (a_pt, (arI G 200 f_pt))] s.heap.size = A at hD hT ⊢
  have hA : ∀ q : Nat, s.heap.size ≤ q → A q := fun q h => by rw [← hAe]; exact Or.inr h
  have hS : va_S A s.heap s.heap [] := va_S.rf
  replace hP : va_P G.1 vwCl [(a_o, (oc11 a_h a_im a_ke a_k a_wa a_th a_ha a_wk a_r a_x e_tl e_fd e_fpl a_wd e_wn a_rf e_lr)), (a_k, (oc5 a_h a_j a_pt e_ln e_se e_lh e_br e_we e_me e_ce e_wy e_ho e_ov)), (a_h, (oc1 e_wa e_le e_st e_fo e_lc a_l a_g a_b a_s a_p a_w e_gb a_bb)), (a_g, (oc6 6 5 a_gn e_g)), (a_gn, (arI G 30 f_g)), (a_b, (oc6 5 24 a_bn e_b)), (a_bn, (arI G 120 f_b)), (a_p, (oc6 8 5 a_pn e_p)), (a_pn, (arI G 40 f_p)), (a_bb, (arJ G 24 f_bb)), (a_j, (oc2 a_as a_sk)), (a_as, (arI G 8 f_as)), (a_sk, (arJ G 50 f_sk)), (a_l, (arW G 6 f_l)), (a_lo, (oc3 e_cl a_hd a_sr a_cd)), (a_sr, (arI G n_sr f_sr)), (a_cd, (arI G n_cd f_cd)), (a_hd, (arI G n_hd f_hd)), (a_pt, (arI G 200 f_pt))] s.heap := hP
  have hl := lv_entry ([.ref a_o, .int p_c, .int p_w, .int p_h, .int p_i]) (n := 5) (Nat.le_of_ble_eq_true rfl)
  rw [lg_entry_eq]
  generalize (lg_sl ([.ref a_o, .int p_c, .int p_w, .int p_h, .int p_i]) ++ List.replicate (5 - (lg_sl ([.ref a_o, .int p_c, .int p_w, .int p_h, .int p_i])).length) Slot.unset).toArray = ls at hl ⊢
  replace hl : lv_has ls 5 [(0, .ref a_o), (1, .int p_c), (2, .int p_w), (3, .int p_h), (4, .int p_i)] := hl
  refine lv_iload_n hx hb dX11_point_0 rfl (lv_at hl 1 rfl) ?_
  refine lv_iload_n hx hb dX11_point_1 rfl (lv_at hl 2 rfl) ?_
  refine lv_iload_n hx hb dX11_point_2 rfl (lv_at hl 3 rfl) ?_
  obtain ⟨hPc, hDc, hFc⟩ := g5_sub3 (wc := []) hP hD hS hA [] (by decide +kernel) rfl
  refine va_calli (va_runS (As := [.int p_c, .int p_w, .int p_h]) (rest := []) ⟨hx, hb, hml, hown, hts⟩ (x_isLook l G s.heap.size p_c p_w p_h) (va_cwS 3 hts gS_X11_207 rfl rfl rfl hs_X11_isLook ⟨Nat.le_of_ble_eq_true rfl, Nat.le_of_ble_eq_true rfl⟩) (g5_preS hPc hK hDc hN hT hS hFc) rfl rfl hl.1 rfl (lv_room (Nat.le_of_ble_eq_true rfl)) dX11_point_3 ⟨Nat.le_of_ble_eq_true rfl, Nat.le_of_ble_eq_true rfl⟩) hS (fun q _ h => hFc q h) hFc (fun r u t H locs ht hvm hw hB hz1 hk1 hS => ?_)
  obtain ⟨hP1, hD1⟩ := hB
  have hP1 := g5_ht ht hP1
  rcases hw with ⟨(i_1 : (0 ≤ p_c.toInt ∧ p_c.toInt ≤ 63) ∧ (0 ≤ p_w.toInt ∧ p_w.toInt ≤ 3) ∧ (0 ≤ p_h.toInt ∧ p_h.toInt ≤ 23)), rfl, rfl⟩ | ⟨rfl, rfl⟩
  ·
    have hJ9 := g5_same hP hk1
    clear hP hPc hDc hFc ht hvm hz1 hk1 hP1 hD1
    have hP := hJ9
    clear hJ9
    refine lv_if_ne (tgt := 11) hx hb dX11_point_6 (by decide +kernel) (fun c_2 => ?_) (fun c_2 => ?_)
    ·
      refine lv_aload_n hx hb dX11_point_11 rfl (lv_at hl 0 rfl) ?_
      refine va_get (D := G.1) (ci := 11) (v := .ref a_k) (C := RX11) (T := TX11) (N := 17) hx hb hts inG_X11 hown hK hP 0 rfl rfl 3 (by decide +kernel) (hts _ fl_X11_29) (fun _ h9 => h9) rfl dX11_point_12 ?_
      refine lv_iload_n hx hb dX11_point_15 rfl (lv_at hl 1 rfl) ?_
      refine lv_iload_n hx hb dX11_point_16 rfl (lv_at hl 2 rfl) ?_
      refine W.eq (g2 := F0 m 17 ls [.int p_w, .int p_c, .ref a_k]) rfl ?_
      refine lv_iload_n hx hb dX11_point_17 rfl (lv_at hl 3 rfl) ?_
      refine lv_iconst (v := 0) hx hb dX11_point_18 (by decide +kernel) ?_
      obtain ⟨hPc, hDc, hFc⟩ := g5_sub3 (wc := [(a_k, (oc5 a_h a_j a_pt e_ln e_se e_lh e_br e_we e_me e_ce e_wy e_ho e_ov)), (a_h, (oc1 e_wa e_le e_st e_fo e_lc a_l a_g a_b a_s a_p a_w e_gb a_bb)), (a_g, (oc6 6 5 a_gn e_g)), (a_gn, (arI G 30 f_g)), (a_b, (oc6 5 24 a_bn e_b)), (a_bn, (arI G 120 f_b)), (a_p, (oc6 8 5 a_pn e_p)), (a_pn, (arI G 40 f_p)), (a_bb, (arJ G 24 f_bb)), (a_j, (oc2 a_as a_sk)), (a_as, (arI G 8 f_as)), (a_sk, (arJ G 50 f_sk)), (a_l, (arW G 6 f_l)), (a_lo, (oc3 e_cl a_hd a_sr a_cd)), (a_sr, (arI G n_sr f_sr)), (a_cd, (arI G n_cd f_cd)), (a_hd, (arI G n_hd f_hd)), (a_pt, (arI G 200 f_pt))]) hP hD hS hA [1, 2, 3, 4, 5, 6, 7, 8, 9, 10, 11, 12, 13, 14, 15, 16, 17, 18] (by decide +kernel) rfl
      refine va_callv (va_runV (As := [.int p_c, .int p_w, .int p_h, .int 0]) (rest := []) ⟨hx, hb, hml, hown, hts⟩ (k_runL l G a_k a_h a_g a_gn a_b a_bn a_p a_pn a_bb a_j a_as a_sk a_l a_lo a_sr a_cd a_hd a_pt a_s a_w H.size e_le e_st e_fo e_lc e_g e_b e_p e_cl e_ln e_se e_lh e_br e_we e_me e_ce e_wy e_ho e_ov p_c p_w p_h 0 e_wa e_gb f_g f_b f_p f_bb f_as f_sk f_l f_sr f_cd f_hd f_pt n_sr n_cd n_hd h_e_g h_e_b h_e_p h_e_cl h_e_ov (e_gk) (e_pk) (e_gi) (e_f) (e_a) (e_hn) (e_hs) (e_hk) (e_c)) (cwV 4 hts gV_X11_210 rfl rfl rfl hv_X5_run ⟨Nat.le_of_ble_eq_true rfl, Nat.le_of_ble_eq_true rfl⟩) (g5_preV hPc hK hDc hN hT hS hFc (ci := 5) (q0 := 0) rfl rfl) rfl rfl hl.1 rfl (lv_room (Nat.le_of_ble_eq_true rfl)) dX11_point_19 ⟨Nat.le_of_ble_eq_true rfl, Nat.le_of_ble_eq_true rfl⟩) hS (fun q _ h => hFc q h) hFc (fun u t H locs ht hvm hw hB hz1 hk1 hS => ?_)
      obtain ⟨hP1, hD1⟩ := hB
      have hP1 := g5_ht ht hP1
      obtain ⟨z6, z7, z8, z9, z10, z11, z12, z13, z14, z15, z16, z17, z18, (i_3 : 0 ≤ z6.toInt ∧ z6.toInt ≤ 200), (i_4 : 0 ≤ z15.toInt ∧ z15.toInt ≤ 1), (i_5 : ∀ j : Nat, (j : Int) < z6.toInt → 0 ≤ (z16 j).toInt ∧ (z16 j).toInt ≤ 1535), rfl⟩ := hw
      have hJ9 := va_join (wr := [(a_o, (oc11 a_h a_im a_ke a_k a_wa a_th a_ha a_wk a_r a_x e_tl e_fd e_fpl a_wd e_wn a_rf e_lr))]) hP hD [1, 2, 3, 4, 5, 6, 7, 8, 9, 10, 11, 12, 13, 14, 15, 16, 17, 18] [0] rfl rfl (by decide +kernel) (by decide +kernel) hk1 hFc hP1 hD1
      clear hP hD hPc hDc hFc ht hvm hz1 hk1 hP1 hD1
      obtain ⟨hP, hD⟩ := hJ9
      refine g5_rs [(a_o, (oc11 a_h a_im a_ke a_k a_wa a_th a_ha a_wk a_r a_x e_tl e_fd e_fpl a_wd e_wn a_rf e_lr)), (a_k, (oc5 a_h a_j a_pt z6 z7 z8 z9 z10 z11 z12 z13 z14 z15)), (a_h, (oc1 e_wa e_le e_st e_fo e_lc a_l a_g a_b a_s a_p a_w e_gb a_bb)), (a_g, (oc6 6 5 a_gn e_g)), (a_gn, (arI G 30 f_g)), (a_b, (oc6 5 24 a_bn e_b)), (a_bn, (arI G 120 f_b)), (a_p, (oc6 8 5 a_pn e_p)), (a_pn, (arI G 40 f_p)), (a_bb, (arJ G 24 f_bb)), (a_j, (oc2 a_as a_sk)), (a_as, (arI G 8 z17)), (a_sk, (arJ G 50 z18)), (a_l, (arW G 6 f_l)), (a_lo, (oc3 e_cl a_hd a_sr a_cd)), (a_sr, (arI G n_sr f_sr)), (a_cd, (arI G n_cd f_cd)), (a_hd, (arI G n_hd f_hd)), (a_pt, (arI G 200 z16))] hP hD ?_
      clear hP hD
      intro hP hD
      refine lv_iload hx hb dX11_point_22 (lv_at hl 4 rfl) ?_
      refine lv_if_lt (tgt := 52) hx hb dX11_point_24 (by decide +kernel) (fun c_19 => ?_) (fun c_19 => ?_)
      ·
        have i_19 : p_i.toInt < 0 := g5_lt (a := p_i.toInt) (b := 0) rfl (by decide +kernel) c_19
        refine lv_iconst (v := (-1)) hx hb dX11_point_52 (by decide +kernel) ?_
        exact W.iret (v := (-1)) hx hb hr (fun t ht hW => ⟨⟨(-1), [(a_o, (oc11 a_h a_im a_ke a_k a_wa a_th a_ha a_wk a_r a_x e_tl e_fd e_fpl a_wd e_wn a_rf e_lr)), (a_k, (oc5 a_h a_j a_pt z6 z7 z8 z9 z10 z11 z12 z13 z14 z15)), (a_h, (oc1 e_wa e_le e_st e_fo e_lc a_l a_g a_b a_s a_p a_w e_gb a_bb)), (a_g, (oc6 6 5 a_gn e_g)), (a_gn, (arI G 30 f_g)), (a_b, (oc6 5 24 a_bn e_b)), (a_bn, (arI G 120 f_b)), (a_p, (oc6 8 5 a_pn e_p)), (a_pn, (arI G 40 f_p)), (a_bb, (arJ G 24 f_bb)), (a_j, (oc2 a_as a_sk)), (a_as, (arI G 8 z17)), (a_sk, (arJ G 50 z18)), (a_l, (arW G 6 f_l)), (a_lo, (oc3 e_cl a_hd a_sr a_cd)), (a_sr, (arI G n_sr f_sr)), (a_cd, (arI G n_cd f_cd)), (a_hd, (arI G n_hd f_hd)), (a_pt, (arI G 200 z16))], rfl, ⟨(-1), z6, z7, z8, z9, z10, z11, z12, z13, z14, z15, z16, z17, z18, i_4, rfl, rfl⟩, by rw [ht]; exact hP.sub [0, 1, 2, 3, 4, 5, 6, 7, 8, 9, 10, 11, 12, 13, 14, 15, 16, 17, 18] rfl, hD.sub [0, 1, 2, 3, 4, 5, 6, 7, 8, 9, 10, 11, 12, 13, 14, 15, 16, 17, 18] (by decide +kernel) rfl⟩, hS.F ht⟩) hS.2.2 dX11_point_53
      ·
        have i_19 : p_i.toInt ≥ 0 := g5_ltN (a := p_i.toInt) (b := 0) rfl (by decide +kernel) c_19
        refine lv_iload hx hb dX11_point_27 (lv_at hl 4 rfl) ?_
        refine lv_aload_n hx hb dX11_point_29 rfl (lv_at hl 0 rfl) ?_
        refine va_get (D := G.1) (ci := 11) (v := .ref a_k) (C := RX11) (T := TX11) (N := 17) hx hb hts inG_X11 hown hK hP 0 rfl rfl 3 (by decide +kernel) (hts _ fl_X11_29) (fun _ h9 => h9) rfl dX11_point_30 ?_
        refine va_get (D := G.1) (ci := 5) (v := .int z6) (C := RX5) (T := TX5) (N := 13) hx hb hts inG_X5 hown hK hP 1 rfl rfl 3 (by decide +kernel) (hts _ fl_X11_216) (fun _ h9 => h9) rfl dX11_point_33 ?_
        refine W.eq (g2 := F0 m 36 ls [.int z6, .int p_i]) rfl ?_
        refine lv_icmp_ge (tgt := 52) hx hb dX11_point_36 (by decide +kernel) (fun c_20 => ?_) (fun c_20 => ?_)
        ·
          have i_20 : p_i.toInt ≥ z6.toInt := g5_ge (a := p_i.toInt) (b := z6.toInt) rfl rfl c_20
          refine lv_iconst (v := (-1)) hx hb dX11_point_52 (by decide +kernel) ?_
          exact W.iret (v := (-1)) hx hb hr (fun t ht hW => ⟨⟨(-1), [(a_o, (oc11 a_h a_im a_ke a_k a_wa a_th a_ha a_wk a_r a_x e_tl e_fd e_fpl a_wd e_wn a_rf e_lr)), (a_k, (oc5 a_h a_j a_pt z6 z7 z8 z9 z10 z11 z12 z13 z14 z15)), (a_h, (oc1 e_wa e_le e_st e_fo e_lc a_l a_g a_b a_s a_p a_w e_gb a_bb)), (a_g, (oc6 6 5 a_gn e_g)), (a_gn, (arI G 30 f_g)), (a_b, (oc6 5 24 a_bn e_b)), (a_bn, (arI G 120 f_b)), (a_p, (oc6 8 5 a_pn e_p)), (a_pn, (arI G 40 f_p)), (a_bb, (arJ G 24 f_bb)), (a_j, (oc2 a_as a_sk)), (a_as, (arI G 8 z17)), (a_sk, (arJ G 50 z18)), (a_l, (arW G 6 f_l)), (a_lo, (oc3 e_cl a_hd a_sr a_cd)), (a_sr, (arI G n_sr f_sr)), (a_cd, (arI G n_cd f_cd)), (a_hd, (arI G n_hd f_hd)), (a_pt, (arI G 200 z16))], rfl, ⟨(-1), z6, z7, z8, z9, z10, z11, z12, z13, z14, z15, z16, z17, z18, i_4, rfl, rfl⟩, by rw [ht]; exact hP.sub [0, 1, 2, 3, 4, 5, 6, 7, 8, 9, 10, 11, 12, 13, 14, 15, 16, 17, 18] rfl, hD.sub [0, 1, 2, 3, 4, 5, 6, 7, 8, 9, 10, 11, 12, 13, 14, 15, 16, 17, 18] (by decide +kernel) rfl⟩, hS.F ht⟩) hS.2.2 dX11_point_53
        ·
          have i_20 : p_i.toInt < z6.toInt := g5_geN (a := p_i.toInt) (b := z6.toInt) rfl rfl c_20
          refine lv_aload_n hx hb dX11_point_39 rfl (lv_at hl 0 rfl) ?_
          refine va_get (D := G.1) (ci := 11) (v := .ref a_k) (C := RX11) (T := TX11) (N := 17) hx hb hts inG_X11 hown hK hP 0 rfl rfl 3 (by decide +kernel) (hts _ fl_X11_29) (fun _ h9 => h9) rfl dX11_point_40 ?_
          refine va_get (D := G.1) (ci := 5) (v := .ref a_pt) (C := RX5) (T := TX5) (N := 13) hx hb hts inG_X5 hown hK hP 1 rfl rfl 2 (by decide +kernel) (hts _ fl_X11_228) (fun _ h9 => h9) rfl dX11_point_43 ?_
          refine lv_iload hx hb dX11_point_46 (lv_at hl 4 rfl) ?_
          refine W.eq (g2 := F0 m 48 ls [.int p_i, .ref a_pt]) rfl ?_
          refine va_iald hx hb hK hP 18 0 rfl rfl (i := p_i) (vp_in_iff.mpr ⟨by omega, by omega⟩) dX11_point_48 ?_
          refine lv_goto (tgt := 53) hx hb dX11_point_49 (by decide +kernel) ?_
          exact W.iret (v := (z16 p_i.toNatClampNeg)) hx hb hr (fun t ht hW => ⟨⟨(z16 p_i.toNatClampNeg), [(a_o, (oc11 a_h a_im a_ke a_k a_wa a_th a_ha a_wk a_r a_x e_tl e_fd e_fpl a_wd e_wn a_rf e_lr)), (a_k, (oc5 a_h a_j a_pt z6 z7 z8 z9 z10 z11 z12 z13 z14 z15)), (a_h, (oc1 e_wa e_le e_st e_fo e_lc a_l a_g a_b a_s a_p a_w e_gb a_bb)), (a_g, (oc6 6 5 a_gn e_g)), (a_gn, (arI G 30 f_g)), (a_b, (oc6 5 24 a_bn e_b)), (a_bn, (arI G 120 f_b)), (a_p, (oc6 8 5 a_pn e_p)), (a_pn, (arI G 40 f_p)), (a_bb, (arJ G 24 f_bb)), (a_j, (oc2 a_as a_sk)), (a_as, (arI G 8 z17)), (a_sk, (arJ G 50 z18)), (a_l, (arW G 6 f_l)), (a_lo, (oc3 e_cl a_hd a_sr a_cd)), (a_sr, (arI G n_sr f_sr)), (a_cd, (arI G n_cd f_cd)), (a_hd, (arI G n_hd f_hd)), (a_pt, (arI G 200 z16))], rfl, ⟨(z16 p_i.toNatClampNeg), z6, z7, z8, z9, z10, z11, z12, z13, z14, z15, z16, z17, z18, i_4, rfl, rfl⟩, by rw [ht]; exact hP.sub [0, 1, 2, 3, 4, 5, 6, 7, 8, 9, 10, 11, 12, 13, 14, 15, 16, 17, 18] rfl, hD.sub [0, 1, 2, 3, 4, 5, 6, 7, 8, 9, 10, 11, 12, 13, 14, 15, 16, 17, 18] (by decide +kernel) rfl⟩, hS.F ht⟩) hS.2.2 dX11_point_53
    ·
      exact absurd c_2 (by decide +kernel)
  ·
    have hJ9 := g5_same hP hk1
    clear hP hPc hDc hFc ht hvm hz1 hk1 hP1 hD1
    have hP := hJ9
    clear hJ9
    refine lv_if_ne (tgt := 11) hx hb dX11_point_6 (by decide +kernel) (fun c_21 => ?_) (fun c_21 => ?_)
    ·
      exact absurd c_21 (by decide +kernel)
    ·
      refine lv_iconst (v := (-1)) hx hb dX11_point_9 (by decide +kernel) ?_
      exact W.iret (v := (-1)) hx hb hr (fun t ht hW => ⟨⟨(-1), [(a_o, (oc11 a_h a_im a_ke a_k a_wa a_th a_ha a_wk a_r a_x e_tl e_fd e_fpl a_wd e_wn a_rf e_lr)), (a_k, (oc5 a_h a_j a_pt e_ln e_se e_lh e_br e_we e_me e_ce e_wy e_ho e_ov)), (a_h, (oc1 e_wa e_le e_st e_fo e_lc a_l a_g a_b a_s a_p a_w e_gb a_bb)), (a_g, (oc6 6 5 a_gn e_g)), (a_gn, (arI G 30 f_g)), (a_b, (oc6 5 24 a_bn e_b)), (a_bn, (arI G 120 f_b)), (a_p, (oc6 8 5 a_pn e_p)), (a_pn, (arI G 40 f_p)), (a_bb, (arJ G 24 f_bb)), (a_j, (oc2 a_as a_sk)), (a_as, (arI G 8 f_as)), (a_sk, (arJ G 50 f_sk)), (a_l, (arW G 6 f_l)), (a_lo, (oc3 e_cl a_hd a_sr a_cd)), (a_sr, (arI G n_sr f_sr)), (a_cd, (arI G n_cd f_cd)), (a_hd, (arI G n_hd f_hd)), (a_pt, (arI G 200 f_pt))], rfl, ⟨(-1), e_ln, e_se, e_lh, e_br, e_we, e_me, e_ce, e_wy, e_ho, e_ov, f_pt, f_as, f_sk, h_e_ov, rfl, rfl⟩, by rw [ht]; exact hP.sub [0, 1, 2, 3, 4, 5, 6, 7, 8, 9, 10, 11, 12, 13, 14, 15, 16, 17, 18] rfl, hD.sub [0, 1, 2, 3, 4, 5, 6, 7, 8, 9, 10, 11, 12, 13, 14, 15, 16, 17, 18] (by decide +kernel) rfl⟩, hS.F ht⟩) hS.2.2 dX11_point_10
set_option maxHeartbeats 4000000 in
set_option maxRecDepth 100000 in
theorem x_seesL (l : Launch) (G : g5_G) (a_o a_k a_h a_g a_gn a_b a_bn a_p a_pn a_bb a_j a_as a_sk a_l a_lo a_sr a_cd a_hd a_pt a_im a_ke a_wa a_th a_ha a_wk a_r a_x a_wd a_rf a_s a_w : Nat) (sz : Nat) (e_tl : Int32) (e_fd : Int32) (e_fpl : Int32) (e_wn : Int32) (e_lr : Int32) (e_le : Int32) (e_st : Int32) (e_fo : Int32) (e_lc : Int32) (e_g : Int32) (e_b : Int32) (e_p : Int32) (e_cl : Int32) (e_ln : Int32) (e_se : Int32) (e_lh : Int32) (e_br : Int32) (e_we : Int32) (e_me : Int32) (e_ce : Int32) (e_wy : Int32) (e_ho : Int32) (e_ov : Int32) (p_c : Int32) (p_h : Int32) (e_wa : Int64) (e_gb : Int64) (f_g : Nat → Int32) (f_b : Nat → Int32) (f_p : Nat → Int32) (f_bb : Nat → Int64) (f_as : Nat → Int32) (f_sk : Nat → Int64) (f_l : Nat → Option Nat) (f_sr : Nat → Int32) (f_cd : Nat → Int32) (f_hd : Nat → Int32) (f_pt : Nat → Int32) (n_sr : Nat) (n_cd : Nat) (n_hd : Nat) (h_e_tl : 0 ≤ e_tl.toInt ∧ e_tl.toInt ≤ 400) (h_e_wn : 0 ≤ e_wn.toInt ∧ e_wn.toInt ≤ 1) (h_e_g : 0 ≤ e_g.toInt ∧ e_g.toInt ≤ 6) (h_e_b : 0 ≤ e_b.toInt ∧ e_b.toInt ≤ 5) (h_e_p : 0 ≤ e_p.toInt ∧ e_p.toInt ≤ 8) (h_e_cl : 0 ≤ e_cl.toInt ∧ e_cl.toInt ≤ 12) (h_e_ov : 0 ≤ e_ov.toInt ∧ e_ov.toInt ≤ 1) (e_gk : gOK f_g e_g.toInt) (e_pk : gOK f_p e_p.toInt) (e_gi : inT e_gb f_g e_g.toInt) (e_f : 0 ≤ e_fo.toInt ∧ e_fo.toInt < e_lc.toInt ∧ e_lc.toInt ≤ 6) (e_a : f_l e_fo.toNatClampNeg = some a_lo) (e_hn : n_cd ≤ 400) (e_hs : ∀ j : Nat, j < n_sr → 0 ≤ (f_sr j).toInt ∧ (f_sr j).toInt ≤ (n_cd : Int)) (e_hk : ∀ j : Nat, j < n_cd → (f_cd j >>> (12 &&& 31)).toInt = 1 → (f_cd j &&& 4095).toInt < 8) (e_c : (e_cl.toInt : Int) ≤ (n_hd : Int) ∧ (e_cl.toInt + 1 : Int) ≤ (n_sr : Int)) : Met l yX11_sees (wsG yX11_sees cX11_sees 3 (some .int)) ({ frames := 15, cells := 0, slots := 0, locals := 580 }) (va_Pc [.ref a_o, .int p_c, .int p_h] (g5_P G [(a_o, (oc11 a_h a_im a_ke a_k a_wa a_th a_ha a_wk a_r a_x e_tl e_fd e_fpl a_wd e_wn a_rf e_lr)), (a_k, (oc5 a_h a_j a_pt e_ln e_se e_lh e_br e_we e_me e_ce e_wy e_ho e_ov)), (a_h, (oc1 e_wa e_le e_st e_fo e_lc a_l a_g a_b a_s a_p a_w e_gb a_bb)), (a_g, (oc6 6 5 a_gn e_g)), (a_gn, (arI G 30 f_g)), (a_b, (oc6 5 24 a_bn e_b)), (a_bn, (arI G 120 f_b)), (a_p, (oc6 8 5 a_pn e_p)), (a_pn, (arI G 40 f_p)), (a_bb, (arJ G 24 f_bb)), (a_j, (oc2 a_as a_sk)), (a_as, (arI G 8 f_as)), (a_sk, (arJ G 50 f_sk)), (a_l, (arW G 6 f_l)), (a_lo, (oc3 e_cl a_hd a_sr a_cd)), (a_sr, (arI G n_sr f_sr)), (a_cd, (arI G n_cd f_cd)), (a_hd, (arI G n_hd f_hd)), (a_pt, (arI G 200 f_pt))] sz)) (va_Qi (fun (r : Int32) (u : va_W) => (∃ (o_r : Int32) (o_ln : Int32) (o_se : Int32) (o_lh : Int32) (o_br : Int32) (o_we : Int32) (o_me : Int32) (o_ce : Int32) (o_wy : Int32) (o_ho : Int32) (o_ov : Int32) (o_pt : Nat → Int32) (o_as : Nat → Int32) (o_sk : Nat → Int64), (0 ≤ o_ov.toInt ∧ o_ov.toInt ≤ 1) ∧ (r = o_r) ∧ (u = [(a_o, (oc11 a_h a_im a_ke a_k a_wa a_th a_ha a_wk a_r a_x e_tl e_fd e_fpl a_wd e_wn a_rf e_lr)), (a_k, (oc5 a_h a_j a_pt o_ln o_se o_lh o_br o_we o_me o_ce o_wy o_ho o_ov)), (a_h, (oc1 e_wa e_le e_st e_fo e_lc a_l a_g a_b a_s a_p a_w e_gb a_bb)), (a_g, (oc6 6 5 a_gn e_g)), (a_gn, (arI G 30 f_g)), (a_b, (oc6 5 24 a_bn e_b)), (a_bn, (arI G 120 f_b)), (a_p, (oc6 8 5 a_pn e_p)), (a_pn, (arI G 40 f_p)), (a_bb, (arJ G 24 f_bb)), (a_j, (oc2 a_as a_sk)), (a_as, (arI G 8 o_as)), (a_sk, (arJ G 50 o_sk)), (a_l, (arW G 6 f_l)), (a_lo, (oc3 e_cl a_hd a_sr a_cd)), (a_sr, (arI G n_sr f_sr)), (a_cd, (arI G n_cd f_cd)), (a_hd, (arI G n_hd f_hd)), (a_pt, (arI G 200 o_pt))]))) (g5_B G (va_A [(a_o, (oc11 a_h a_im a_ke a_k a_wa a_th a_ha a_wk a_r a_x e_tl e_fd e_fpl a_wd e_wn a_rf e_lr)), (a_k, (oc5 a_h a_j a_pt e_ln e_se e_lh e_br e_we e_me e_ce e_wy e_ho e_ov)), (a_h, (oc1 e_wa e_le e_st e_fo e_lc a_l a_g a_b a_s a_p a_w e_gb a_bb)), (a_g, (oc6 6 5 a_gn e_g)), (a_gn, (arI G 30 f_g)), (a_b, (oc6 5 24 a_bn e_b)), (a_bn, (arI G 120 f_b)), (a_p, (oc6 8 5 a_pn e_p)), (a_pn, (arI G 40 f_p)), (a_bb, (arJ G 24 f_bb)), (a_j, (oc2 a_as a_sk)), (a_as, (arI G 8 f_as)), (a_sk, (arJ G 50 f_sk)), (a_l, (arW G 6 f_l)), (a_lo, (oc3 e_cl a_hd a_sr a_cd)), (a_sr, (arI G n_sr f_sr)), (a_cd, (arI G n_cd f_cd)), (a_hd, (arI G n_hd f_hd)), (a_pt, (arI G 200 f_pt))] sz)) (va_A [(a_o, (oc11 a_h a_im a_ke a_k a_wa a_th a_ha a_wk a_r a_x e_tl e_fd e_fpl a_wd e_wn a_rf e_lr)), (a_k, (oc5 a_h a_j a_pt e_ln e_se e_lh e_br e_we e_me e_ce e_wy e_ho e_ov)), (a_h, (oc1 e_wa e_le e_st e_fo e_lc a_l a_g a_b a_s a_p a_w e_gb a_bb)), (a_g, (oc6 6 5 a_gn e_g)), (a_gn, (arI G 30 f_g)), (a_b, (oc6 5 24 a_bn e_b)), (a_bn, (arI G 120 f_b)), (a_p, (oc6 8 5 a_pn e_p)), (a_pn, (arI G 40 f_p)), (a_bb, (arJ G 24 f_bb)), (a_j, (oc2 a_as a_sk)), (a_as, (arI G 8 f_as)), (a_sk, (arJ G 50 f_sk)), (a_l, (arW G 6 f_l)), (a_lo, (oc3 e_cl a_hd a_sr a_cd)), (a_sr, (arI G n_sr f_sr)), (a_cd, (arI G n_cd f_cd)), (a_hd, (arI G n_hd f_hd)), (a_pt, (arI G 200 f_pt))] sz)) 0 0 (va_A [(a_o, (oc11 a_h a_im a_ke a_k a_wa a_th a_ha a_wk a_r a_x e_tl e_fd e_fpl a_wd e_wn a_rf e_lr)), (a_k, (oc5 a_h a_j a_pt e_ln e_se e_lh e_br e_we e_me e_ce e_wy e_ho e_ov)), (a_h, (oc1 e_wa e_le e_st e_fo e_lc a_l a_g a_b a_s a_p a_w e_gb a_bb)), (a_g, (oc6 6 5 a_gn e_g)), (a_gn, (arI G 30 f_g)), (a_b, (oc6 5 24 a_bn e_b)), (a_bn, (arI G 120 f_b)), (a_p, (oc6 8 5 a_pn e_p)), (a_pn, (arI G 40 f_p)), (a_bb, (arJ G 24 f_bb)), (a_j, (oc2 a_as a_sk)), (a_as, (arI G 8 f_as)), (a_sk, (arJ G 50 f_sk)), (a_l, (arW G 6 f_l)), (a_lo, (oc3 e_cl a_hd a_sr a_cd)), (a_sr, (arI G n_sr f_sr)), (a_cd, (arI G n_cd f_cd)), (a_hd, (arI G n_hd f_hd)), (a_pt, (arI G 200 f_pt))] sz) := by
  refine Met.ofW (cc := cX11_sees) (maxL := 3) (ret := (some .int)) (by decide +kernel) rfl ?_
  intro p e s m args below meth c s₁ B hml hv
  obtain ⟨rfl, hsz, hP, hK, hD0, hN, hT⟩ := hv
  have hx := B.exec
  have hb := B.bytes
  have hr := B.returns
  have hts : ∀ w ∈ tblG, w.before _ s = true := fun w h => atoms_spec (ws := (wsG yX11_sees cX11_sees 3 (some .int))) B.pre w (List.mem_cons_of_mem _ h)
  have hown : s.vm.findClass RX11 = some m.cls := findClass_of_methodNamed B.named
  have hlocks := B.notSynchronized
  subst hsz
  have hD := hD0.self (sz := s.heap.size)
  generalize hAe : va_A [(a_o, (oc11 a_h a_im a_ke a_k a_wa a_th a_ha a_wk a_r a_x e_tl e_fd e_fpl a_wd e_wn a_rf e_lr)), (a_k, (oc5 a_h a_j a_pt e_ln e_se e_lh e_br e_we e_me e_ce e_wy e_ho e_ov)), (a_h, (oc1 e_wa e_le e_st e_fo e_lc a_l a_g a_b a_s a_p a_w e_gb a_bb)), (a_g, (oc6 6 5 a_gn e_g)), (a_gn, (arI G 30 f_g)), (a_b, (oc6 5 24 a_bn e_b)), (a_bn, (arI G 120 f_b)), (a_p, (oc6 8 5 a_pn e_p)), (a_pn, (arI G 40 f_p)), (a_bb, (arJ G 24 f_bb)), (a_j, (oc2 a_as a_sk)), (a_as, (arI G 8 f_as)), (a_sk, (arJ G 50 f_sk)), (a_l, (arW G 6 f_l)), (a_lo, (oc3 e_cl a_hd a_sr a_cd)), (a_sr, (arI G n_sr f_sr)), (a_cd, (arI G n_cd f_cd)), (a_hd, (arI G n_hd f_hd)), (a_pt, (arI G 200 f_pt))] s.heap.size = A at hD hT ⊢
  have hA : ∀ q : Nat, s.heap.size ≤ q → A q := fun q h => by rw [← hAe]; exact Or.inr h
  have hS : va_S A s.heap s.heap [] := va_S.rf
  replace hP : va_P G.1 vwCl [(a_o, (oc11 a_h a_im a_ke a_k a_wa a_th a_ha a_wk a_r a_x e_tl e_fd e_fpl a_wd e_wn a_rf e_lr)), (a_k, (oc5 a_h a_j a_pt e_ln e_se e_lh e_br e_we e_me e_ce e_wy e_ho e_ov)), (a_h, (oc1 e_wa e_le e_st e_fo e_lc a_l a_g a_b a_s a_p a_w e_gb a_bb)), (a_g, (oc6 6 5 a_gn e_g)), (a_gn, (arI G 30 f_g)), (a_b, (oc6 5 24 a_bn e_b)), (a_bn, (arI G 120 f_b)), (a_p, (oc6 8 5 a_pn e_p)), (a_pn, (arI G 40 f_p)), (a_bb, (arJ G 24 f_bb)), (a_j, (oc2 a_as a_sk)), (a_as, (arI G 8 f_as)), (a_sk, (arJ G 50 f_sk)), (a_l, (arW G 6 f_l)), (a_lo, (oc3 e_cl a_hd a_sr a_cd)), (a_sr, (arI G n_sr f_sr)), (a_cd, (arI G n_cd f_cd)), (a_hd, (arI G n_hd f_hd)), (a_pt, (arI G 200 f_pt))] s.heap := hP
  have hl := lv_entry ([.ref a_o, .int p_c, .int p_h]) (n := 3) (Nat.le_of_ble_eq_true rfl)
  rw [lg_entry_eq]
  generalize (lg_sl ([.ref a_o, .int p_c, .int p_h]) ++ List.replicate (3 - (lg_sl ([.ref a_o, .int p_c, .int p_h])).length) Slot.unset).toArray = ls at hl ⊢
  replace hl : lv_has ls 3 [(0, .ref a_o), (1, .int p_c), (2, .int p_h)] := hl
  refine lv_iload_n hx hb dX11_sees_0 rfl (lv_at hl 1 rfl) ?_
  obtain ⟨hPc, hDc, hFc⟩ := g5_sub3 (wc := []) hP hD hS hA [] (by decide +kernel) rfl
  refine va_calli (va_runS (As := [.int p_c]) (rest := []) ⟨hx, hb, hml, hown, hts⟩ (x_isCell l G s.heap.size p_c) (va_cwS 1 hts gS_X11_97 rfl rfl rfl hs_X11_isCell ⟨Nat.le_of_ble_eq_true rfl, Nat.le_of_ble_eq_true rfl⟩) (g5_preS hPc hK hDc hN hT hS hFc) rfl rfl hl.1 rfl (lv_room (Nat.le_of_ble_eq_true rfl)) dX11_sees_1 ⟨Nat.le_of_ble_eq_true rfl, Nat.le_of_ble_eq_true rfl⟩) hS (fun q _ h => hFc q h) hFc (fun r u t H locs ht hvm hw hB hz1 hk1 hS => ?_)
  obtain ⟨hP1, hD1⟩ := hB
  have hP1 := g5_ht ht hP1
  rcases hw with ⟨(i_1 : 0 ≤ p_c.toInt ∧ p_c.toInt ≤ 63), rfl, rfl⟩ | ⟨rfl, rfl⟩
  ·
    have hJ9 := g5_same hP hk1
    clear hP hPc hDc hFc ht hvm hz1 hk1 hP1 hD1
    have hP := hJ9
    clear hJ9
    refine lv_if_eq (tgt := 14) hx hb dX11_sees_4 (by decide +kernel) (fun c_2 => ?_) (fun c_2 => ?_)
    ·
      exact absurd c_2 (by decide +kernel)
    ·
      refine lv_iload_n hx hb dX11_sees_7 rfl (lv_at hl 2 rfl) ?_
      obtain ⟨hPc, hDc, hFc⟩ := g5_sub3 (wc := []) hP hD hS hA [] (by decide +kernel) rfl
      refine va_calli (va_runS (As := [.int p_h]) (rest := []) ⟨hx, hb, hml, hown, hts⟩ (x_isHour l G H.size p_h) (va_cwS 1 hts gS_X11_127 rfl rfl rfl hs_X11_isHour ⟨Nat.le_of_ble_eq_true rfl, Nat.le_of_ble_eq_true rfl⟩) (g5_preS hPc hK hDc hN hT hS hFc) rfl rfl hl.1 rfl (lv_room (Nat.le_of_ble_eq_true rfl)) dX11_sees_8 ⟨Nat.le_of_ble_eq_true rfl, Nat.le_of_ble_eq_true rfl⟩) hS (fun q _ h => hFc q h) hFc (fun r u t H locs ht hvm hw hB hz1 hk1 hS => ?_)
      obtain ⟨hP1, hD1⟩ := hB
      have hP1 := g5_ht ht hP1
      rcases hw with ⟨(i_3 : 0 ≤ p_h.toInt ∧ p_h.toInt ≤ 23), rfl, rfl⟩ | ⟨rfl, rfl⟩
      ·
        have hJ9 := g5_same hP hk1
        clear hP hPc hDc hFc ht hvm hz1 hk1 hP1 hD1
        have hP := hJ9
        clear hJ9
        refine lv_if_ne (tgt := 16) hx hb dX11_sees_11 (by decide +kernel) (fun c_4 => ?_) (fun c_4 => ?_)
        ·
          refine lv_aload_n hx hb dX11_sees_16 rfl (lv_at hl 0 rfl) ?_
          refine va_get (D := G.1) (ci := 11) (v := .ref a_k) (C := RX11) (T := TX11) (N := 17) hx hb hts inG_X11 hown hK hP 0 rfl rfl 3 (by decide +kernel) (hts _ fl_X11_29) (fun _ h9 => h9) rfl dX11_sees_17 ?_
          refine lv_iload_n hx hb dX11_sees_20 rfl (lv_at hl 1 rfl) ?_
          refine lv_iload_n hx hb dX11_sees_21 rfl (lv_at hl 2 rfl) ?_
          refine W.eq (g2 := F0 m 22 ls [.int p_h, .int p_c, .ref a_k]) rfl ?_
          obtain ⟨hPc, hDc, hFc⟩ := g5_sub3 (wc := [(a_k, (oc5 a_h a_j a_pt e_ln e_se e_lh e_br e_we e_me e_ce e_wy e_ho e_ov)), (a_h, (oc1 e_wa e_le e_st e_fo e_lc a_l a_g a_b a_s a_p a_w e_gb a_bb)), (a_g, (oc6 6 5 a_gn e_g)), (a_gn, (arI G 30 f_g)), (a_b, (oc6 5 24 a_bn e_b)), (a_bn, (arI G 120 f_b)), (a_p, (oc6 8 5 a_pn e_p)), (a_pn, (arI G 40 f_p)), (a_bb, (arJ G 24 f_bb)), (a_j, (oc2 a_as a_sk)), (a_as, (arI G 8 f_as)), (a_sk, (arJ G 50 f_sk)), (a_l, (arW G 6 f_l)), (a_lo, (oc3 e_cl a_hd a_sr a_cd)), (a_sr, (arI G n_sr f_sr)), (a_cd, (arI G n_cd f_cd)), (a_hd, (arI G n_hd f_hd)), (a_pt, (arI G 200 f_pt))]) hP hD hS hA [1, 2, 3, 4, 5, 6, 7, 8, 9, 10, 11, 12, 13, 14, 15, 16, 17, 18] (by decide +kernel) rfl
          refine va_calli (va_runV (As := [.int p_c, .int p_h]) (rest := []) ⟨hx, hb, hml, hown, hts⟩ (s_bodiesFromL l G a_k a_h a_g a_gn a_b a_bn a_p a_pn a_bb a_j a_as a_sk a_l a_lo a_sr a_cd a_hd a_pt a_s a_w H.size e_le e_st e_fo e_lc e_g e_b e_p e_cl e_ln e_se e_lh e_br e_we e_me e_ce e_wy e_ho e_ov p_c p_h e_wa e_gb f_g f_b f_p f_bb f_as f_sk f_l f_sr f_cd f_hd f_pt n_sr n_cd n_hd h_e_g h_e_b h_e_p h_e_cl h_e_ov (e_gk) (e_pk) (e_gi) (e_f) (e_a) (e_hn) (e_hs) (e_hk) (e_c)) (cwV 2 hts gV_X11_231 rfl rfl rfl hv_X5_bodiesFrom ⟨Nat.le_of_ble_eq_true rfl, Nat.le_of_ble_eq_true rfl⟩) (g5_preV hPc hK hDc hN hT hS hFc (ci := 5) (q0 := 0) rfl rfl) rfl rfl hl.1 rfl (lv_room (Nat.le_of_ble_eq_true rfl)) dX11_sees_22 ⟨Nat.le_of_ble_eq_true rfl, Nat.le_of_ble_eq_true rfl⟩) hS (fun q _ h => hFc q h) hFc (fun r u t H locs ht hvm hw hB hz1 hk1 hS => ?_)
          obtain ⟨hP1, hD1⟩ := hB
          have hP1 := g5_ht ht hP1
          obtain ⟨z6, z7, z8, z9, z10, z11, z12, z13, z14, z15, z16, z17, z18, z19, (i_5 : 0 ≤ z16.toInt ∧ z16.toInt ≤ 1), y20, rfl⟩ := hw
          have hJ9 := va_join (wr := [(a_o, (oc11 a_h a_im a_ke a_k a_wa a_th a_ha a_wk a_r a_x e_tl e_fd e_fpl a_wd e_wn a_rf e_lr))]) hP hD [1, 2, 3, 4, 5, 6, 7, 8, 9, 10, 11, 12, 13, 14, 15, 16, 17, 18] [0] rfl rfl (by decide +kernel) (by decide +kernel) hk1 hFc hP1 hD1
          clear hP hD hPc hDc hFc ht hvm hz1 hk1 hP1 hD1
          obtain ⟨hP, hD⟩ := hJ9
          refine g5_rs [(a_o, (oc11 a_h a_im a_ke a_k a_wa a_th a_ha a_wk a_r a_x e_tl e_fd e_fpl a_wd e_wn a_rf e_lr)), (a_k, (oc5 a_h a_j a_pt z7 z8 z9 z10 z11 z12 z13 z14 z15 z16)), (a_h, (oc1 e_wa e_le e_st e_fo e_lc a_l a_g a_b a_s a_p a_w e_gb a_bb)), (a_g, (oc6 6 5 a_gn e_g)), (a_gn, (arI G 30 f_g)), (a_b, (oc6 5 24 a_bn e_b)), (a_bn, (arI G 120 f_b)), (a_p, (oc6 8 5 a_pn e_p)), (a_pn, (arI G 40 f_p)), (a_bb, (arJ G 24 f_bb)), (a_j, (oc2 a_as a_sk)), (a_as, (arI G 8 z18)), (a_sk, (arJ G 50 z19)), (a_l, (arW G 6 f_l)), (a_lo, (oc3 e_cl a_hd a_sr a_cd)), (a_sr, (arI G n_sr f_sr)), (a_cd, (arI G n_cd f_cd)), (a_hd, (arI G n_hd f_hd)), (a_pt, (arI G 200 z17))] hP hD ?_
          clear hP hD
          intro hP hD
          refine g5_ti (v := z6) y20 ?_
          exact W.iret (v := z6) hx hb hr (fun t ht hW => ⟨⟨z6, [(a_o, (oc11 a_h a_im a_ke a_k a_wa a_th a_ha a_wk a_r a_x e_tl e_fd e_fpl a_wd e_wn a_rf e_lr)), (a_k, (oc5 a_h a_j a_pt z7 z8 z9 z10 z11 z12 z13 z14 z15 z16)), (a_h, (oc1 e_wa e_le e_st e_fo e_lc a_l a_g a_b a_s a_p a_w e_gb a_bb)), (a_g, (oc6 6 5 a_gn e_g)), (a_gn, (arI G 30 f_g)), (a_b, (oc6 5 24 a_bn e_b)), (a_bn, (arI G 120 f_b)), (a_p, (oc6 8 5 a_pn e_p)), (a_pn, (arI G 40 f_p)), (a_bb, (arJ G 24 f_bb)), (a_j, (oc2 a_as a_sk)), (a_as, (arI G 8 z18)), (a_sk, (arJ G 50 z19)), (a_l, (arW G 6 f_l)), (a_lo, (oc3 e_cl a_hd a_sr a_cd)), (a_sr, (arI G n_sr f_sr)), (a_cd, (arI G n_cd f_cd)), (a_hd, (arI G n_hd f_hd)), (a_pt, (arI G 200 z17))], rfl, ⟨z6, z7, z8, z9, z10, z11, z12, z13, z14, z15, z16, z17, z18, z19, i_5, rfl, rfl⟩, by rw [ht]; exact hP.sub [0, 1, 2, 3, 4, 5, 6, 7, 8, 9, 10, 11, 12, 13, 14, 15, 16, 17, 18] rfl, hD.sub [0, 1, 2, 3, 4, 5, 6, 7, 8, 9, 10, 11, 12, 13, 14, 15, 16, 17, 18] (by decide +kernel) rfl⟩, hS.F ht⟩) hS.2.2 dX11_sees_25
        ·
          exact absurd c_4 (by decide +kernel)
      ·
        have hJ9 := g5_same hP hk1
        clear hP hPc hDc hFc ht hvm hz1 hk1 hP1 hD1
        have hP := hJ9
        clear hJ9
        refine lv_if_ne (tgt := 16) hx hb dX11_sees_11 (by decide +kernel) (fun c_21 => ?_) (fun c_21 => ?_)
        ·
          exact absurd c_21 (by decide +kernel)
        ·
          refine lv_iconst (v := (-1)) hx hb dX11_sees_14 (by decide +kernel) ?_
          exact W.iret (v := (-1)) hx hb hr (fun t ht hW => ⟨⟨(-1), [(a_o, (oc11 a_h a_im a_ke a_k a_wa a_th a_ha a_wk a_r a_x e_tl e_fd e_fpl a_wd e_wn a_rf e_lr)), (a_k, (oc5 a_h a_j a_pt e_ln e_se e_lh e_br e_we e_me e_ce e_wy e_ho e_ov)), (a_h, (oc1 e_wa e_le e_st e_fo e_lc a_l a_g a_b a_s a_p a_w e_gb a_bb)), (a_g, (oc6 6 5 a_gn e_g)), (a_gn, (arI G 30 f_g)), (a_b, (oc6 5 24 a_bn e_b)), (a_bn, (arI G 120 f_b)), (a_p, (oc6 8 5 a_pn e_p)), (a_pn, (arI G 40 f_p)), (a_bb, (arJ G 24 f_bb)), (a_j, (oc2 a_as a_sk)), (a_as, (arI G 8 f_as)), (a_sk, (arJ G 50 f_sk)), (a_l, (arW G 6 f_l)), (a_lo, (oc3 e_cl a_hd a_sr a_cd)), (a_sr, (arI G n_sr f_sr)), (a_cd, (arI G n_cd f_cd)), (a_hd, (arI G n_hd f_hd)), (a_pt, (arI G 200 f_pt))], rfl, ⟨(-1), e_ln, e_se, e_lh, e_br, e_we, e_me, e_ce, e_wy, e_ho, e_ov, f_pt, f_as, f_sk, h_e_ov, rfl, rfl⟩, by rw [ht]; exact hP.sub [0, 1, 2, 3, 4, 5, 6, 7, 8, 9, 10, 11, 12, 13, 14, 15, 16, 17, 18] rfl, hD.sub [0, 1, 2, 3, 4, 5, 6, 7, 8, 9, 10, 11, 12, 13, 14, 15, 16, 17, 18] (by decide +kernel) rfl⟩, hS.F ht⟩) hS.2.2 dX11_sees_15
  ·
    have hJ9 := g5_same hP hk1
    clear hP hPc hDc hFc ht hvm hz1 hk1 hP1 hD1
    have hP := hJ9
    clear hJ9
    refine lv_if_eq (tgt := 14) hx hb dX11_sees_4 (by decide +kernel) (fun c_22 => ?_) (fun c_22 => ?_)
    ·
      refine lv_iconst (v := (-1)) hx hb dX11_sees_14 (by decide +kernel) ?_
      exact W.iret (v := (-1)) hx hb hr (fun t ht hW => ⟨⟨(-1), [(a_o, (oc11 a_h a_im a_ke a_k a_wa a_th a_ha a_wk a_r a_x e_tl e_fd e_fpl a_wd e_wn a_rf e_lr)), (a_k, (oc5 a_h a_j a_pt e_ln e_se e_lh e_br e_we e_me e_ce e_wy e_ho e_ov)), (a_h, (oc1 e_wa e_le e_st e_fo e_lc a_l a_g a_b a_s a_p a_w e_gb a_bb)), (a_g, (oc6 6 5 a_gn e_g)), (a_gn, (arI G 30 f_g)), (a_b, (oc6 5 24 a_bn e_b)), (a_bn, (arI G 120 f_b)), (a_p, (oc6 8 5 a_pn e_p)), (a_pn, (arI G 40 f_p)), (a_bb, (arJ G 24 f_bb)), (a_j, (oc2 a_as a_sk)), (a_as, (arI G 8 f_as)), (a_sk, (arJ G 50 f_sk)), (a_l, (arW G 6 f_l)), (a_lo, (oc3 e_cl a_hd a_sr a_cd)), (a_sr, (arI G n_sr f_sr)), (a_cd, (arI G n_cd f_cd)), (a_hd, (arI G n_hd f_hd)), (a_pt, (arI G 200 f_pt))], rfl, ⟨(-1), e_ln, e_se, e_lh, e_br, e_we, e_me, e_ce, e_wy, e_ho, e_ov, f_pt, f_as, f_sk, h_e_ov, rfl, rfl⟩, by rw [ht]; exact hP.sub [0, 1, 2, 3, 4, 5, 6, 7, 8, 9, 10, 11, 12, 13, 14, 15, 16, 17, 18] rfl, hD.sub [0, 1, 2, 3, 4, 5, 6, 7, 8, 9, 10, 11, 12, 13, 14, 15, 16, 17, 18] (by decide +kernel) rfl⟩, hS.F ht⟩) hS.2.2 dX11_sees_15
    ·
      exact absurd c_22 (by decide +kernel)
set_option maxHeartbeats 4000000 in
set_option maxRecDepth 100000 in
theorem x_lateL (l : Launch) (G : g5_G) (a_o a_k a_h a_g a_gn a_b a_bn a_p a_pn a_bb a_j a_as a_sk a_l a_lo a_sr a_cd a_hd a_pt a_im a_ke a_wa a_th a_ha a_wk a_r a_x a_wd a_rf a_s a_w : Nat) (sz : Nat) (e_tl : Int32) (e_fd : Int32) (e_fpl : Int32) (e_wn : Int32) (e_lr : Int32) (e_le : Int32) (e_st : Int32) (e_fo : Int32) (e_lc : Int32) (e_g : Int32) (e_b : Int32) (e_p : Int32) (e_cl : Int32) (e_ln : Int32) (e_se : Int32) (e_lh : Int32) (e_br : Int32) (e_we : Int32) (e_me : Int32) (e_ce : Int32) (e_wy : Int32) (e_ho : Int32) (e_ov : Int32) (p_b : Int32) (p_t : Int32) (p_h : Int32) (e_wa : Int64) (e_gb : Int64) (f_g : Nat → Int32) (f_b : Nat → Int32) (f_p : Nat → Int32) (f_bb : Nat → Int64) (f_as : Nat → Int32) (f_sk : Nat → Int64) (f_l : Nat → Option Nat) (f_sr : Nat → Int32) (f_cd : Nat → Int32) (f_hd : Nat → Int32) (f_pt : Nat → Int32) (n_sr : Nat) (n_cd : Nat) (n_hd : Nat) (h_e_tl : 0 ≤ e_tl.toInt ∧ e_tl.toInt ≤ 400) (h_e_wn : 0 ≤ e_wn.toInt ∧ e_wn.toInt ≤ 1) (h_e_g : 0 ≤ e_g.toInt ∧ e_g.toInt ≤ 6) (h_e_b : 0 ≤ e_b.toInt ∧ e_b.toInt ≤ 5) (h_e_p : 0 ≤ e_p.toInt ∧ e_p.toInt ≤ 8) (h_e_cl : 0 ≤ e_cl.toInt ∧ e_cl.toInt ≤ 12) (h_e_ov : 0 ≤ e_ov.toInt ∧ e_ov.toInt ≤ 1) (e_gk : gOK f_g e_g.toInt) (e_pk : gOK f_p e_p.toInt) (e_gi : inT e_gb f_g e_g.toInt) (e_f : 0 ≤ e_fo.toInt ∧ e_fo.toInt < e_lc.toInt ∧ e_lc.toInt ≤ 6) (e_a : f_l e_fo.toNatClampNeg = some a_lo) (e_hn : n_cd ≤ 400) (e_hs : ∀ j : Nat, j < n_sr → 0 ≤ (f_sr j).toInt ∧ (f_sr j).toInt ≤ (n_cd : Int)) (e_hk : ∀ j : Nat, j < n_cd → (f_cd j >>> (12 &&& 31)).toInt = 1 → (f_cd j &&& 4095).toInt < 8) (e_c : (e_cl.toInt : Int) ≤ (n_hd : Int) ∧ (e_cl.toInt + 1 : Int) ≤ (n_sr : Int)) : Met l yX11_late (wsG yX11_late cX11_late 5 (some .int)) ({ frames := 15, cells := 0, slots := 0, locals := 582 }) (va_Pc [.ref a_o, .int p_b, .int p_t, .int p_h] (g5_P G [(a_o, (oc11 a_h a_im a_ke a_k a_wa a_th a_ha a_wk a_r a_x e_tl e_fd e_fpl a_wd e_wn a_rf e_lr)), (a_k, (oc5 a_h a_j a_pt e_ln e_se e_lh e_br e_we e_me e_ce e_wy e_ho e_ov)), (a_h, (oc1 e_wa e_le e_st e_fo e_lc a_l a_g a_b a_s a_p a_w e_gb a_bb)), (a_g, (oc6 6 5 a_gn e_g)), (a_gn, (arI G 30 f_g)), (a_b, (oc6 5 24 a_bn e_b)), (a_bn, (arI G 120 f_b)), (a_p, (oc6 8 5 a_pn e_p)), (a_pn, (arI G 40 f_p)), (a_bb, (arJ G 24 f_bb)), (a_j, (oc2 a_as a_sk)), (a_as, (arI G 8 f_as)), (a_sk, (arJ G 50 f_sk)), (a_l, (arW G 6 f_l)), (a_lo, (oc3 e_cl a_hd a_sr a_cd)), (a_sr, (arI G n_sr f_sr)), (a_cd, (arI G n_cd f_cd)), (a_hd, (arI G n_hd f_hd)), (a_pt, (arI G 200 f_pt))] sz)) (va_Qi (fun (r : Int32) (u : va_W) => (∃ (o_r : Int32) (o_ln : Int32) (o_se : Int32) (o_lh : Int32) (o_br : Int32) (o_we : Int32) (o_me : Int32) (o_ce : Int32) (o_wy : Int32) (o_ho : Int32) (o_ov : Int32) (o_pt : Nat → Int32) (o_as : Nat → Int32) (o_sk : Nat → Int64), (0 ≤ o_ov.toInt ∧ o_ov.toInt ≤ 1) ∧ (r = o_r) ∧ (u = [(a_o, (oc11 a_h a_im a_ke a_k a_wa a_th a_ha a_wk a_r a_x e_tl e_fd e_fpl a_wd e_wn a_rf e_lr)), (a_k, (oc5 a_h a_j a_pt o_ln o_se o_lh o_br o_we o_me o_ce o_wy o_ho o_ov)), (a_h, (oc1 e_wa e_le e_st e_fo e_lc a_l a_g a_b a_s a_p a_w e_gb a_bb)), (a_g, (oc6 6 5 a_gn e_g)), (a_gn, (arI G 30 f_g)), (a_b, (oc6 5 24 a_bn e_b)), (a_bn, (arI G 120 f_b)), (a_p, (oc6 8 5 a_pn e_p)), (a_pn, (arI G 40 f_p)), (a_bb, (arJ G 24 f_bb)), (a_j, (oc2 a_as a_sk)), (a_as, (arI G 8 o_as)), (a_sk, (arJ G 50 o_sk)), (a_l, (arW G 6 f_l)), (a_lo, (oc3 e_cl a_hd a_sr a_cd)), (a_sr, (arI G n_sr f_sr)), (a_cd, (arI G n_cd f_cd)), (a_hd, (arI G n_hd f_hd)), (a_pt, (arI G 200 o_pt))]))) (g5_B G (va_A [(a_o, (oc11 a_h a_im a_ke a_k a_wa a_th a_ha a_wk a_r a_x e_tl e_fd e_fpl a_wd e_wn a_rf e_lr)), (a_k, (oc5 a_h a_j a_pt e_ln e_se e_lh e_br e_we e_me e_ce e_wy e_ho e_ov)), (a_h, (oc1 e_wa e_le e_st e_fo e_lc a_l a_g a_b a_s a_p a_w e_gb a_bb)), (a_g, (oc6 6 5 a_gn e_g)), (a_gn, (arI G 30 f_g)), (a_b, (oc6 5 24 a_bn e_b)), (a_bn, (arI G 120 f_b)), (a_p, (oc6 8 5 a_pn e_p)), (a_pn, (arI G 40 f_p)), (a_bb, (arJ G 24 f_bb)), (a_j, (oc2 a_as a_sk)), (a_as, (arI G 8 f_as)), (a_sk, (arJ G 50 f_sk)), (a_l, (arW G 6 f_l)), (a_lo, (oc3 e_cl a_hd a_sr a_cd)), (a_sr, (arI G n_sr f_sr)), (a_cd, (arI G n_cd f_cd)), (a_hd, (arI G n_hd f_hd)), (a_pt, (arI G 200 f_pt))] sz)) (va_A [(a_o, (oc11 a_h a_im a_ke a_k a_wa a_th a_ha a_wk a_r a_x e_tl e_fd e_fpl a_wd e_wn a_rf e_lr)), (a_k, (oc5 a_h a_j a_pt e_ln e_se e_lh e_br e_we e_me e_ce e_wy e_ho e_ov)), (a_h, (oc1 e_wa e_le e_st e_fo e_lc a_l a_g a_b a_s a_p a_w e_gb a_bb)), (a_g, (oc6 6 5 a_gn e_g)), (a_gn, (arI G 30 f_g)), (a_b, (oc6 5 24 a_bn e_b)), (a_bn, (arI G 120 f_b)), (a_p, (oc6 8 5 a_pn e_p)), (a_pn, (arI G 40 f_p)), (a_bb, (arJ G 24 f_bb)), (a_j, (oc2 a_as a_sk)), (a_as, (arI G 8 f_as)), (a_sk, (arJ G 50 f_sk)), (a_l, (arW G 6 f_l)), (a_lo, (oc3 e_cl a_hd a_sr a_cd)), (a_sr, (arI G n_sr f_sr)), (a_cd, (arI G n_cd f_cd)), (a_hd, (arI G n_hd f_hd)), (a_pt, (arI G 200 f_pt))] sz)) 0 0 (va_A [(a_o, (oc11 a_h a_im a_ke a_k a_wa a_th a_ha a_wk a_r a_x e_tl e_fd e_fpl a_wd e_wn a_rf e_lr)), (a_k, (oc5 a_h a_j a_pt e_ln e_se e_lh e_br e_we e_me e_ce e_wy e_ho e_ov)), (a_h, (oc1 e_wa e_le e_st e_fo e_lc a_l a_g a_b a_s a_p a_w e_gb a_bb)), (a_g, (oc6 6 5 a_gn e_g)), (a_gn, (arI G 30 f_g)), (a_b, (oc6 5 24 a_bn e_b)), (a_bn, (arI G 120 f_b)), (a_p, (oc6 8 5 a_pn e_p)), (a_pn, (arI G 40 f_p)), (a_bb, (arJ G 24 f_bb)), (a_j, (oc2 a_as a_sk)), (a_as, (arI G 8 f_as)), (a_sk, (arJ G 50 f_sk)), (a_l, (arW G 6 f_l)), (a_lo, (oc3 e_cl a_hd a_sr a_cd)), (a_sr, (arI G n_sr f_sr)), (a_cd, (arI G n_cd f_cd)), (a_hd, (arI G n_hd f_hd)), (a_pt, (arI G 200 f_pt))] sz) := by
  refine Met.ofW (cc := cX11_late) (maxL := 5) (ret := (some .int)) (by decide +kernel) rfl ?_
  intro p e s m args below meth c s₁ B hml hv
  obtain ⟨rfl, hsz, hP, hK, hD0, hN, hT⟩ := hv
  have hx := B.exec
  have hb := B.bytes
  have hr := B.returns
  have hts : ∀ w ∈ tblG, w.before _ s = true := fun w h => atoms_spec (ws := (wsG yX11_late cX11_late 5 (some .int))) B.pre w (List.mem_cons_of_mem _ h)
  have hown : s.vm.findClass RX11 = some m.cls := findClass_of_methodNamed B.named
  have hlocks := B.notSynchronized
  subst hsz
  have hD := hD0.self (sz := s.heap.size)
  generalize hAe : va_A [(a_o, (oc11 a_h a_im a_ke a_k a_wa a_th a_ha a_wk a_r a_x e_tl e_fd e_fpl a_wd e_wn a_rf e_lr)), (a_k, (oc5 a_h a_j a_pt e_ln e_se e_lh e_br e_we e_me e_ce e_wy e_ho e_ov)), (a_h, (oc1 e_wa e_le e_st e_fo e_lc a_l a_g a_b a_s a_p a_w e_gb a_bb)), (a_g, (oc6 6 5 a_gn e_g)), (a_gn, (arI G 30 f_g)), (a_b, (oc6 5 24 a_bn e_b)), (a_bn, (arI G 120 f_b)), (a_p, (oc6 8 5 a_pn e_p)), (a_pn, (arI G 40 f_p)), (a_bb, (arJ G 24 f_bb)), (a_j, (oc2 a_as a_sk)), (a_as, (arI G 8 f_as)), (a_sk, (arJ G 50 f_sk)), (a_l, (arW G 6 f_l)), (a_lo, (oc3 e_cl a_hd a_sr a_cd)), (a_sr, (arI G n_sr f_sr)), (a_cd, (arI G n_cd f_cd)), (a_hd, (arI G n_hd f_hd)), (a_pt, (arI G 200 f_pt))] s.heap.size = A at hD hT ⊢
  have hA : ∀ q : Nat, s.heap.size ≤ q → A q := fun q h => by rw [← hAe]; exact Or.inr h
  have hS : va_S A s.heap s.heap [] := va_S.rf
  replace hP : va_P G.1 vwCl [(a_o, (oc11 a_h a_im a_ke a_k a_wa a_th a_ha a_wk a_r a_x e_tl e_fd e_fpl a_wd e_wn a_rf e_lr)), (a_k, (oc5 a_h a_j a_pt e_ln e_se e_lh e_br e_we e_me e_ce e_wy e_ho e_ov)), (a_h, (oc1 e_wa e_le e_st e_fo e_lc a_l a_g a_b a_s a_p a_w e_gb a_bb)), (a_g, (oc6 6 5 a_gn e_g)), (a_gn, (arI G 30 f_g)), (a_b, (oc6 5 24 a_bn e_b)), (a_bn, (arI G 120 f_b)), (a_p, (oc6 8 5 a_pn e_p)), (a_pn, (arI G 40 f_p)), (a_bb, (arJ G 24 f_bb)), (a_j, (oc2 a_as a_sk)), (a_as, (arI G 8 f_as)), (a_sk, (arJ G 50 f_sk)), (a_l, (arW G 6 f_l)), (a_lo, (oc3 e_cl a_hd a_sr a_cd)), (a_sr, (arI G n_sr f_sr)), (a_cd, (arI G n_cd f_cd)), (a_hd, (arI G n_hd f_hd)), (a_pt, (arI G 200 f_pt))] s.heap := hP
  have hl := lv_entry ([.ref a_o, .int p_b, .int p_t, .int p_h]) (n := 5) (Nat.le_of_ble_eq_true rfl)
  rw [lg_entry_eq]
  generalize (lg_sl ([.ref a_o, .int p_b, .int p_t, .int p_h]) ++ List.replicate (5 - (lg_sl ([.ref a_o, .int p_b, .int p_t, .int p_h])).length) Slot.unset).toArray = ls at hl ⊢
  replace hl : lv_has ls 5 [(0, .ref a_o), (1, .int p_b), (2, .int p_t), (3, .int p_h)] := hl
  refine lv_aload_n hx hb dX11_late_0 rfl (lv_at hl 0 rfl) ?_
  refine va_get (D := G.1) (ci := 11) (v := .ref a_h) (C := RX11) (T := TX11) (N := 17) hx hb hts inG_X11 hown hK hP 0 rfl rfl 0 (by decide +kernel) (hts _ fl_X11_12) (fun _ h9 => h9) rfl dX11_late_1 ?_
  refine va_get (D := G.1) (ci := 1) (v := .ref a_b) (C := RX1) (T := TX1) (N := 13) hx hb hts inG_X1 hown hK hP 2 rfl rfl 7 (by decide +kernel) (hts _ fl_X11_167) (fun _ h9 => h9) rfl dX11_late_4 ?_
  refine lv_iload_n hx hb dX11_late_7 rfl (lv_at hl 2 rfl) ?_
  refine W.eq (g2 := F0 m 8 ls [.int p_t, .ref a_b]) rfl ?_
  obtain ⟨hPc, hDc, hFc⟩ := g5_sub3 (wc := [(a_b, (oc6 5 24 a_bn e_b))]) hP hD hS hA [5] (by decide +kernel) rfl
  refine va_calli (va_runV (As := [.int p_t]) (rest := []) ⟨hx, hb, hml, hown, hts⟩ (t_has_B l G a_b a_bn s.heap.size e_b p_t h_e_b) (cwV 1 hts gV_X11_160 rfl rfl rfl hv_X6_has ⟨Nat.le_of_ble_eq_true rfl, Nat.le_of_ble_eq_true rfl⟩) (g5_preV hPc hK hDc hN hT hS hFc (ci := 6) (q0 := 0) rfl rfl) rfl rfl hl.1 rfl (lv_room (Nat.le_of_ble_eq_true rfl)) dX11_late_8 ⟨Nat.le_of_ble_eq_true rfl, Nat.le_of_ble_eq_true rfl⟩) hS (fun q _ h => hFc q h) hFc (fun r u t H locs ht hvm hw hB hz1 hk1 hS => ?_)
  obtain ⟨hP1, hD1⟩ := hB
  have hP1 := g5_ht ht hP1
  rcases hw with ⟨(i_1 : 0 ≤ p_t.toInt ∧ p_t.toInt < e_b.toInt), rfl, rfl⟩ | ⟨(i_2 : p_t.toInt < 0 ∨ e_b.toInt ≤ p_t.toInt), rfl, rfl⟩
  ·
    have hJ9 := va_join (wr := [(a_o, (oc11 a_h a_im a_ke a_k a_wa a_th a_ha a_wk a_r a_x e_tl e_fd e_fpl a_wd e_wn a_rf e_lr)), (a_k, (oc5 a_h a_j a_pt e_ln e_se e_lh e_br e_we e_me e_ce e_wy e_ho e_ov)), (a_h, (oc1 e_wa e_le e_st e_fo e_lc a_l a_g a_b a_s a_p a_w e_gb a_bb)), (a_g, (oc6 6 5 a_gn e_g)), (a_gn, (arI G 30 f_g)), (a_bn, (arI G 120 f_b)), (a_p, (oc6 8 5 a_pn e_p)), (a_pn, (arI G 40 f_p)), (a_bb, (arJ G 24 f_bb)), (a_j, (oc2 a_as a_sk)), (a_as, (arI G 8 f_as)), (a_sk, (arJ G 50 f_sk)), (a_l, (arW G 6 f_l)), (a_lo, (oc3 e_cl a_hd a_sr a_cd)), (a_sr, (arI G n_sr f_sr)), (a_cd, (arI G n_cd f_cd)), (a_hd, (arI G n_hd f_hd)), (a_pt, (arI G 200 f_pt))]) hP hD [5] [0, 1, 2, 3, 4, 6, 7, 8, 9, 10, 11, 12, 13, 14, 15, 16, 17, 18] rfl rfl (by decide +kernel) (by decide +kernel) hk1 hFc hP1 hD1
    clear hP hD hPc hDc hFc ht hvm hz1 hk1 hP1 hD1
    obtain ⟨hP, hD⟩ := hJ9
    refine g5_rs [(a_o, (oc11 a_h a_im a_ke a_k a_wa a_th a_ha a_wk a_r a_x e_tl e_fd e_fpl a_wd e_wn a_rf e_lr)), (a_k, (oc5 a_h a_j a_pt e_ln e_se e_lh e_br e_we e_me e_ce e_wy e_ho e_ov)), (a_h, (oc1 e_wa e_le e_st e_fo e_lc a_l a_g a_b a_s a_p a_w e_gb a_bb)), (a_g, (oc6 6 5 a_gn e_g)), (a_gn, (arI G 30 f_g)), (a_bn, (arI G 120 f_b)), (a_p, (oc6 8 5 a_pn e_p)), (a_pn, (arI G 40 f_p)), (a_bb, (arJ G 24 f_bb)), (a_j, (oc2 a_as a_sk)), (a_as, (arI G 8 f_as)), (a_sk, (arJ G 50 f_sk)), (a_l, (arW G 6 f_l)), (a_lo, (oc3 e_cl a_hd a_sr a_cd)), (a_sr, (arI G n_sr f_sr)), (a_cd, (arI G n_cd f_cd)), (a_hd, (arI G n_hd f_hd)), (a_pt, (arI G 200 f_pt)), (a_b, (oc6 5 24 a_bn e_b))] hP hD ?_
    clear hP hD
    intro hP hD
    refine lv_if_ne (tgt := 16) hx hb dX11_late_11 (by decide +kernel) (fun c_3 => ?_) (fun c_3 => ?_)
    ·
      refine lv_aload_n hx hb dX11_late_16 rfl (lv_at hl 0 rfl) ?_
      refine va_get (D := G.1) (ci := 11) (v := .ref a_h) (C := RX11) (T := TX11) (N := 17) hx hb hts inG_X11 hown hK hP 0 rfl rfl 0 (by decide +kernel) (hts _ fl_X11_12) (fun _ h9 => h9) rfl dX11_late_17 ?_
      refine va_get (D := G.1) (ci := 1) (v := .ref a_b) (C := RX1) (T := TX1) (N := 13) hx hb hts inG_X1 hown hK hP 2 rfl rfl 7 (by decide +kernel) (hts _ fl_X11_167) (fun _ h9 => h9) rfl dX11_late_20 ?_
      refine lv_iload_n hx hb dX11_late_23 rfl (lv_at hl 1 rfl) ?_
      refine W.eq (g2 := F0 m 24 ls [.int p_b, .ref a_b]) rfl ?_
      refine lv_iload_n hx hb dX11_late_24 rfl (lv_at hl 3 rfl) ?_
      obtain ⟨hPc, hDc, hFc⟩ := g5_sub3 (wc := [(a_b, (oc6 5 24 a_bn e_b)), (a_bn, (arI G 120 f_b))]) hP hD hS hA [18, 5] (by decide +kernel) rfl
      refine va_calli (va_runV (As := [.int p_b, .int p_h]) (rest := []) ⟨hx, hb, hml, hown, hts⟩ (t_get_B l G a_b a_bn H.size e_b p_b p_h f_b h_e_b) (cwV 2 hts gV_X11_163 rfl rfl rfl hv_X6_get ⟨Nat.le_of_ble_eq_true rfl, Nat.le_of_ble_eq_true rfl⟩) (g5_preV hPc hK hDc hN hT hS hFc (ci := 6) (q0 := 0) rfl rfl) rfl rfl hl.1 rfl (lv_room (Nat.le_of_ble_eq_true rfl)) dX11_late_25 ⟨Nat.le_of_ble_eq_true rfl, Nat.le_of_ble_eq_true rfl⟩) hS (fun q _ h => hFc q h) hFc (fun r u t H locs ht hvm hw hB hz1 hk1 hS => ?_)
      obtain ⟨hP1, hD1⟩ := hB
      have hP1 := g5_ht ht hP1
      obtain ⟨z5, (i_4 : z5 = tget f_b e_b.toInt 24 p_b.toInt p_h.toInt), y6, rfl⟩ := hw
      have hJ9 := va_join (wr := [(a_o, (oc11 a_h a_im a_ke a_k a_wa a_th a_ha a_wk a_r a_x e_tl e_fd e_fpl a_wd e_wn a_rf e_lr)), (a_k, (oc5 a_h a_j a_pt e_ln e_se e_lh e_br e_we e_me e_ce e_wy e_ho e_ov)), (a_h, (oc1 e_wa e_le e_st e_fo e_lc a_l a_g a_b a_s a_p a_w e_gb a_bb)), (a_g, (oc6 6 5 a_gn e_g)), (a_gn, (arI G 30 f_g)), (a_p, (oc6 8 5 a_pn e_p)), (a_pn, (arI G 40 f_p)), (a_bb, (arJ G 24 f_bb)), (a_j, (oc2 a_as a_sk)), (a_as, (arI G 8 f_as)), (a_sk, (arJ G 50 f_sk)), (a_l, (arW G 6 f_l)), (a_lo, (oc3 e_cl a_hd a_sr a_cd)), (a_sr, (arI G n_sr f_sr)), (a_cd, (arI G n_cd f_cd)), (a_hd, (arI G n_hd f_hd)), (a_pt, (arI G 200 f_pt))]) hP hD [18, 5] [0, 1, 2, 3, 4, 6, 7, 8, 9, 10, 11, 12, 13, 14, 15, 16, 17] rfl rfl (by decide +kernel) (by decide +kernel) hk1 hFc hP1 hD1
      clear hP hD hPc hDc hFc ht hvm hz1 hk1 hP1 hD1
      obtain ⟨hP, hD⟩ := hJ9
      refine g5_rs [(a_o, (oc11 a_h a_im a_ke a_k a_wa a_th a_ha a_wk a_r a_x e_tl e_fd e_fpl a_wd e_wn a_rf e_lr)), (a_k, (oc5 a_h a_j a_pt e_ln e_se e_lh e_br e_we e_me e_ce e_wy e_ho e_ov)), (a_h, (oc1 e_wa e_le e_st e_fo e_lc a_l a_g a_b a_s a_p a_w e_gb a_bb)), (a_g, (oc6 6 5 a_gn e_g)), (a_gn, (arI G 30 f_g)), (a_p, (oc6 8 5 a_pn e_p)), (a_pn, (arI G 40 f_p)), (a_bb, (arJ G 24 f_bb)), (a_j, (oc2 a_as a_sk)), (a_as, (arI G 8 f_as)), (a_sk, (arJ G 50 f_sk)), (a_l, (arW G 6 f_l)), (a_lo, (oc3 e_cl a_hd a_sr a_cd)), (a_sr, (arI G n_sr f_sr)), (a_cd, (arI G n_cd f_cd)), (a_hd, (arI G n_hd f_hd)), (a_pt, (arI G 200 f_pt)), (a_b, (oc6 5 24 a_bn e_b)), (a_bn, (arI G 120 f_b))] hP hD ?_
      clear hP hD
      intro hP hD
      refine g5_ti (v := z5) y6 ?_
      refine lv_istore (lv' := [(4, .int z5), (0, .ref a_o), (1, .int p_b), (2, .int p_t), (3, .int p_h)]) hx hb dX11_late_28 hl (by decide +kernel) rfl ?_
      clear hl
      intro ls hl
      refine lv_iload hx hb dX11_late_30 (lv_at hl 0 rfl) ?_
      refine lv_iconst (v := (-1)) hx hb dX11_late_32 (by decide +kernel) ?_
      refine W.eq (g2 := F0 m 33 ls [.int (-1), .int z5]) rfl ?_
      refine lv_icmp_ne (tgt := 40) hx hb dX11_late_33 (by decide +kernel) (fun c_7 => ?_) (fun c_7 => ?_)
      ·
        have n_7 : gNe (z5.toInt) ((-1)) := g5_ne (a := z5.toInt) (b := (-1)) rfl (by decide +kernel) c_7
        refine lv_aload_n hx hb dX11_late_40 rfl (lv_at hl 1 rfl) ?_
        refine va_get (D := G.1) (ci := 11) (v := .ref a_k) (C := RX11) (T := TX11) (N := 17) hx hb hts inG_X11 hown hK hP 0 rfl rfl 3 (by decide +kernel) (hts _ fl_X11_29) (fun _ h9 => h9) rfl dX11_late_41 ?_
        refine lv_iload hx hb dX11_late_44 (lv_at hl 0 rfl) ?_
        refine lv_iload_n hx hb dX11_late_46 rfl (lv_at hl 4 rfl) ?_
        refine W.eq (g2 := F0 m 47 ls [.int p_h, .int z5, .ref a_k]) rfl ?_
        refine lv_iload_n hx hb dX11_late_47 rfl (lv_at hl 3 rfl) ?_
        obtain ⟨hPc, hDc, hFc⟩ := g5_sub3 (wc := [(a_k, (oc5 a_h a_j a_pt e_ln e_se e_lh e_br e_we e_me e_ce e_wy e_ho e_ov)), (a_h, (oc1 e_wa e_le e_st e_fo e_lc a_l a_g a_b a_s a_p a_w e_gb a_bb)), (a_g, (oc6 6 5 a_gn e_g)), (a_gn, (arI G 30 f_g)), (a_b, (oc6 5 24 a_bn e_b)), (a_bn, (arI G 120 f_b)), (a_p, (oc6 8 5 a_pn e_p)), (a_pn, (arI G 40 f_p)), (a_bb, (arJ G 24 f_bb)), (a_j, (oc2 a_as a_sk)), (a_as, (arI G 8 f_as)), (a_sk, (arJ G 50 f_sk)), (a_l, (arW G 6 f_l)), (a_lo, (oc3 e_cl a_hd a_sr a_cd)), (a_sr, (arI G n_sr f_sr)), (a_cd, (arI G n_cd f_cd)), (a_hd, (arI G n_hd f_hd)), (a_pt, (arI G 200 f_pt))]) hP hD hS hA [1, 2, 3, 4, 17, 18, 5, 6, 7, 8, 9, 10, 11, 12, 13, 14, 15, 16] (by decide +kernel) rfl
        refine va_calli (va_runV (As := [.int z5, .int p_h, .int p_t]) (rest := []) ⟨hx, hb, hml, hown, hts⟩ (s_latenessL l G a_k a_h a_g a_gn a_b a_bn a_p a_pn a_bb a_j a_as a_sk a_l a_lo a_sr a_cd a_hd a_pt a_s a_w H.size e_le e_st e_fo e_lc e_g e_b e_p e_cl e_ln e_se e_lh e_br e_we e_me e_ce e_wy e_ho e_ov z5 p_h p_t e_wa e_gb f_g f_b f_p f_bb f_as f_sk f_l f_sr f_cd f_hd f_pt n_sr n_cd n_hd h_e_g h_e_b h_e_p h_e_cl h_e_ov (e_gk) (e_pk) (e_gi) (e_f) (e_a) (e_hn) (e_hs) (e_hk) (e_c)) (cwV 3 hts gV_X11_234 rfl rfl rfl hv_X5_lateness ⟨Nat.le_of_ble_eq_true rfl, Nat.le_of_ble_eq_true rfl⟩) (g5_preV hPc hK hDc hN hT hS hFc (ci := 5) (q0 := 0) rfl rfl) rfl rfl hl.1 rfl (lv_room (Nat.le_of_ble_eq_true rfl)) dX11_late_48 ⟨Nat.le_of_ble_eq_true rfl, Nat.le_of_ble_eq_true rfl⟩) hS (fun q _ h => hFc q h) hFc (fun r u t H locs ht hvm hw hB hz1 hk1 hS => ?_)
        obtain ⟨hP1, hD1⟩ := hB
        have hP1 := g5_ht ht hP1
        obtain ⟨z9, z10, z11, z12, z13, z14, z15, z16, z17, z18, z19, z20, z21, z22, (i_8 : 0 ≤ z19.toInt ∧ z19.toInt ≤ 1), y23, rfl⟩ := hw
        have hJ9 := va_join (wr := [(a_o, (oc11 a_h a_im a_ke a_k a_wa a_th a_ha a_wk a_r a_x e_tl e_fd e_fpl a_wd e_wn a_rf e_lr))]) hP hD [1, 2, 3, 4, 17, 18, 5, 6, 7, 8, 9, 10, 11, 12, 13, 14, 15, 16] [0] rfl rfl (by decide +kernel) (by decide +kernel) hk1 hFc hP1 hD1
        clear hP hD hPc hDc hFc ht hvm hz1 hk1 hP1 hD1
        obtain ⟨hP, hD⟩ := hJ9
        refine g5_rs [(a_o, (oc11 a_h a_im a_ke a_k a_wa a_th a_ha a_wk a_r a_x e_tl e_fd e_fpl a_wd e_wn a_rf e_lr)), (a_k, (oc5 a_h a_j a_pt z10 z11 z12 z13 z14 z15 z16 z17 z18 z19)), (a_h, (oc1 e_wa e_le e_st e_fo e_lc a_l a_g a_b a_s a_p a_w e_gb a_bb)), (a_g, (oc6 6 5 a_gn e_g)), (a_gn, (arI G 30 f_g)), (a_b, (oc6 5 24 a_bn e_b)), (a_bn, (arI G 120 f_b)), (a_p, (oc6 8 5 a_pn e_p)), (a_pn, (arI G 40 f_p)), (a_bb, (arJ G 24 f_bb)), (a_j, (oc2 a_as a_sk)), (a_as, (arI G 8 z21)), (a_sk, (arJ G 50 z22)), (a_l, (arW G 6 f_l)), (a_lo, (oc3 e_cl a_hd a_sr a_cd)), (a_sr, (arI G n_sr f_sr)), (a_cd, (arI G n_cd f_cd)), (a_hd, (arI G n_hd f_hd)), (a_pt, (arI G 200 z20))] hP hD ?_
        clear hP hD
        intro hP hD
        refine g5_ti (v := z9) y23 ?_
        exact W.iret (v := z9) hx hb hr (fun t ht hW => ⟨⟨z9, [(a_o, (oc11 a_h a_im a_ke a_k a_wa a_th a_ha a_wk a_r a_x e_tl e_fd e_fpl a_wd e_wn a_rf e_lr)), (a_k, (oc5 a_h a_j a_pt z10 z11 z12 z13 z14 z15 z16 z17 z18 z19)), (a_h, (oc1 e_wa e_le e_st e_fo e_lc a_l a_g a_b a_s a_p a_w e_gb a_bb)), (a_g, (oc6 6 5 a_gn e_g)), (a_gn, (arI G 30 f_g)), (a_b, (oc6 5 24 a_bn e_b)), (a_bn, (arI G 120 f_b)), (a_p, (oc6 8 5 a_pn e_p)), (a_pn, (arI G 40 f_p)), (a_bb, (arJ G 24 f_bb)), (a_j, (oc2 a_as a_sk)), (a_as, (arI G 8 z21)), (a_sk, (arJ G 50 z22)), (a_l, (arW G 6 f_l)), (a_lo, (oc3 e_cl a_hd a_sr a_cd)), (a_sr, (arI G n_sr f_sr)), (a_cd, (arI G n_cd f_cd)), (a_hd, (arI G n_hd f_hd)), (a_pt, (arI G 200 z20))], rfl, ⟨z9, z10, z11, z12, z13, z14, z15, z16, z17, z18, z19, z20, z21, z22, i_8, rfl, rfl⟩, by rw [ht]; exact hP.sub [0, 1, 2, 3, 4, 5, 6, 7, 8, 9, 10, 11, 12, 13, 14, 15, 16, 17, 18] rfl, hD.sub [0, 1, 2, 3, 4, 5, 6, 7, 8, 9, 10, 11, 12, 13, 14, 15, 16, 17, 18] (by decide +kernel) rfl⟩, hS.F ht⟩) hS.2.2 dX11_late_51
      ·
        have i_7 : z5.toInt = (-1) := g5_neN (a := z5.toInt) (b := (-1)) rfl (by decide +kernel) c_7
        refine lv_iconst (v := (-1)) hx hb dX11_late_36 (by decide +kernel) ?_
        refine lv_goto (tgt := 51) hx hb dX11_late_37 (by decide +kernel) ?_
        exact W.iret (v := (-1)) hx hb hr (fun t ht hW => ⟨⟨(-1), [(a_o, (oc11 a_h a_im a_ke a_k a_wa a_th a_ha a_wk a_r a_x e_tl e_fd e_fpl a_wd e_wn a_rf e_lr)), (a_k, (oc5 a_h a_j a_pt e_ln e_se e_lh e_br e_we e_me e_ce e_wy e_ho e_ov)), (a_h, (oc1 e_wa e_le e_st e_fo e_lc a_l a_g a_b a_s a_p a_w e_gb a_bb)), (a_g, (oc6 6 5 a_gn e_g)), (a_gn, (arI G 30 f_g)), (a_b, (oc6 5 24 a_bn e_b)), (a_bn, (arI G 120 f_b)), (a_p, (oc6 8 5 a_pn e_p)), (a_pn, (arI G 40 f_p)), (a_bb, (arJ G 24 f_bb)), (a_j, (oc2 a_as a_sk)), (a_as, (arI G 8 f_as)), (a_sk, (arJ G 50 f_sk)), (a_l, (arW G 6 f_l)), (a_lo, (oc3 e_cl a_hd a_sr a_cd)), (a_sr, (arI G n_sr f_sr)), (a_cd, (arI G n_cd f_cd)), (a_hd, (arI G n_hd f_hd)), (a_pt, (arI G 200 f_pt))], rfl, ⟨(-1), e_ln, e_se, e_lh, e_br, e_we, e_me, e_ce, e_wy, e_ho, e_ov, f_pt, f_as, f_sk, h_e_ov, rfl, rfl⟩, by rw [ht]; exact hP.sub [0, 1, 2, 3, 4, 17, 18, 5, 6, 7, 8, 9, 10, 11, 12, 13, 14, 15, 16] rfl, hD.sub [0, 1, 2, 3, 4, 17, 18, 5, 6, 7, 8, 9, 10, 11, 12, 13, 14, 15, 16] (by decide +kernel) rfl⟩, hS.F ht⟩) hS.2.2 dX11_late_51
    ·
      exact absurd c_3 (by decide +kernel)
  ·
    have hJ9 := va_join (wr := [(a_o, (oc11 a_h a_im a_ke a_k a_wa a_th a_ha a_wk a_r a_x e_tl e_fd e_fpl a_wd e_wn a_rf e_lr)), (a_k, (oc5 a_h a_j a_pt e_ln e_se e_lh e_br e_we e_me e_ce e_wy e_ho e_ov)), (a_h, (oc1 e_wa e_le e_st e_fo e_lc a_l a_g a_b a_s a_p a_w e_gb a_bb)), (a_g, (oc6 6 5 a_gn e_g)), (a_gn, (arI G 30 f_g)), (a_bn, (arI G 120 f_b)), (a_p, (oc6 8 5 a_pn e_p)), (a_pn, (arI G 40 f_p)), (a_bb, (arJ G 24 f_bb)), (a_j, (oc2 a_as a_sk)), (a_as, (arI G 8 f_as)), (a_sk, (arJ G 50 f_sk)), (a_l, (arW G 6 f_l)), (a_lo, (oc3 e_cl a_hd a_sr a_cd)), (a_sr, (arI G n_sr f_sr)), (a_cd, (arI G n_cd f_cd)), (a_hd, (arI G n_hd f_hd)), (a_pt, (arI G 200 f_pt))]) hP hD [5] [0, 1, 2, 3, 4, 6, 7, 8, 9, 10, 11, 12, 13, 14, 15, 16, 17, 18] rfl rfl (by decide +kernel) (by decide +kernel) hk1 hFc hP1 hD1
    clear hP hD hPc hDc hFc ht hvm hz1 hk1 hP1 hD1
    obtain ⟨hP, hD⟩ := hJ9
    refine g5_rs [(a_o, (oc11 a_h a_im a_ke a_k a_wa a_th a_ha a_wk a_r a_x e_tl e_fd e_fpl a_wd e_wn a_rf e_lr)), (a_k, (oc5 a_h a_j a_pt e_ln e_se e_lh e_br e_we e_me e_ce e_wy e_ho e_ov)), (a_h, (oc1 e_wa e_le e_st e_fo e_lc a_l a_g a_b a_s a_p a_w e_gb a_bb)), (a_g, (oc6 6 5 a_gn e_g)), (a_gn, (arI G 30 f_g)), (a_bn, (arI G 120 f_b)), (a_p, (oc6 8 5 a_pn e_p)), (a_pn, (arI G 40 f_p)), (a_bb, (arJ G 24 f_bb)), (a_j, (oc2 a_as a_sk)), (a_as, (arI G 8 f_as)), (a_sk, (arJ G 50 f_sk)), (a_l, (arW G 6 f_l)), (a_lo, (oc3 e_cl a_hd a_sr a_cd)), (a_sr, (arI G n_sr f_sr)), (a_cd, (arI G n_cd f_cd)), (a_hd, (arI G n_hd f_hd)), (a_pt, (arI G 200 f_pt)), (a_b, (oc6 5 24 a_bn e_b))] hP hD ?_
    clear hP hD
    intro hP hD
    refine lv_if_ne (tgt := 16) hx hb dX11_late_11 (by decide +kernel) (fun c_24 => ?_) (fun c_24 => ?_)
    ·
      exact absurd c_24 (by decide +kernel)
    ·
      refine lv_iconst (v := (-1)) hx hb dX11_late_14 (by decide +kernel) ?_
      exact W.iret (v := (-1)) hx hb hr (fun t ht hW => ⟨⟨(-1), [(a_o, (oc11 a_h a_im a_ke a_k a_wa a_th a_ha a_wk a_r a_x e_tl e_fd e_fpl a_wd e_wn a_rf e_lr)), (a_k, (oc5 a_h a_j a_pt e_ln e_se e_lh e_br e_we e_me e_ce e_wy e_ho e_ov)), (a_h, (oc1 e_wa e_le e_st e_fo e_lc a_l a_g a_b a_s a_p a_w e_gb a_bb)), (a_g, (oc6 6 5 a_gn e_g)), (a_gn, (arI G 30 f_g)), (a_b, (oc6 5 24 a_bn e_b)), (a_bn, (arI G 120 f_b)), (a_p, (oc6 8 5 a_pn e_p)), (a_pn, (arI G 40 f_p)), (a_bb, (arJ G 24 f_bb)), (a_j, (oc2 a_as a_sk)), (a_as, (arI G 8 f_as)), (a_sk, (arJ G 50 f_sk)), (a_l, (arW G 6 f_l)), (a_lo, (oc3 e_cl a_hd a_sr a_cd)), (a_sr, (arI G n_sr f_sr)), (a_cd, (arI G n_cd f_cd)), (a_hd, (arI G n_hd f_hd)), (a_pt, (arI G 200 f_pt))], rfl, ⟨(-1), e_ln, e_se, e_lh, e_br, e_we, e_me, e_ce, e_wy, e_ho, e_ov, f_pt, f_as, f_sk, h_e_ov, rfl, rfl⟩, by rw [ht]; exact hP.sub [0, 1, 2, 3, 4, 18, 5, 6, 7, 8, 9, 10, 11, 12, 13, 14, 15, 16, 17] rfl, hD.sub [0, 1, 2, 3, 4, 18, 5, 6, 7, 8, 9, 10, 11, 12, 13, 14, 15, 16, 17] (by decide +kernel) rfl⟩, hS.F ht⟩) hS.2.2 dX11_late_15
set_option maxHeartbeats 4000000 in
set_option maxRecDepth 100000 in
theorem x_firstL (l : Launch) (G : g5_G) (a_o a_k a_h a_g a_gn a_b a_bn a_p a_pn a_bb a_j a_as a_sk a_l a_lo a_sr a_cd a_hd a_pt a_im a_ke a_wa a_th a_ha a_wk a_r a_x a_wd a_rf a_s a_w : Nat) (sz : Nat) (e_tl : Int32) (e_fd : Int32) (e_fpl : Int32) (e_wn : Int32) (e_lr : Int32) (e_le : Int32) (e_st : Int32) (e_fo : Int32) (e_lc : Int32) (e_g : Int32) (e_b : Int32) (e_p : Int32) (e_cl : Int32) (e_ln : Int32) (e_se : Int32) (e_lh : Int32) (e_br : Int32) (e_we : Int32) (e_me : Int32) (e_ce : Int32) (e_wy : Int32) (e_ho : Int32) (e_ov : Int32) (p_b : Int32) (p_t : Int32) (e_wa : Int64) (e_gb : Int64) (f_g : Nat → Int32) (f_b : Nat → Int32) (f_p : Nat → Int32) (f_bb : Nat → Int64) (f_as : Nat → Int32) (f_sk : Nat → Int64) (f_l : Nat → Option Nat) (f_sr : Nat → Int32) (f_cd : Nat → Int32) (f_hd : Nat → Int32) (f_pt : Nat → Int32) (n_sr : Nat) (n_cd : Nat) (n_hd : Nat) (h_e_tl : 0 ≤ e_tl.toInt ∧ e_tl.toInt ≤ 400) (h_e_wn : 0 ≤ e_wn.toInt ∧ e_wn.toInt ≤ 1) (h_e_g : 0 ≤ e_g.toInt ∧ e_g.toInt ≤ 6) (h_e_b : 0 ≤ e_b.toInt ∧ e_b.toInt ≤ 5) (h_e_p : 0 ≤ e_p.toInt ∧ e_p.toInt ≤ 8) (h_e_cl : 0 ≤ e_cl.toInt ∧ e_cl.toInt ≤ 12) (h_e_ov : 0 ≤ e_ov.toInt ∧ e_ov.toInt ≤ 1) (e_gk : gOK f_g e_g.toInt) (e_pk : gOK f_p e_p.toInt) (e_gi : inT e_gb f_g e_g.toInt) (e_f : 0 ≤ e_fo.toInt ∧ e_fo.toInt < e_lc.toInt ∧ e_lc.toInt ≤ 6) (e_a : f_l e_fo.toNatClampNeg = some a_lo) (e_hn : n_cd ≤ 400) (e_hs : ∀ j : Nat, j < n_sr → 0 ≤ (f_sr j).toInt ∧ (f_sr j).toInt ≤ (n_cd : Int)) (e_hk : ∀ j : Nat, j < n_cd → (f_cd j >>> (12 &&& 31)).toInt = 1 → (f_cd j &&& 4095).toInt < 8) (e_c : (e_cl.toInt : Int) ≤ (n_hd : Int) ∧ (e_cl.toInt + 1 : Int) ≤ (n_sr : Int)) : Met l yX11_first (wsG yX11_first cX11_first 7 (some .int)) ({ frames := 15, cells := 0, slots := 0, locals := 582 }) (va_Pc [.ref a_o, .int p_b, .int p_t] (g5_P G [(a_o, (oc11 a_h a_im a_ke a_k a_wa a_th a_ha a_wk a_r a_x e_tl e_fd e_fpl a_wd e_wn a_rf e_lr)), (a_k, (oc5 a_h a_j a_pt e_ln e_se e_lh e_br e_we e_me e_ce e_wy e_ho e_ov)), (a_h, (oc1 e_wa e_le e_st e_fo e_lc a_l a_g a_b a_s a_p a_w e_gb a_bb)), (a_g, (oc6 6 5 a_gn e_g)), (a_gn, (arI G 30 f_g)), (a_b, (oc6 5 24 a_bn e_b)), (a_bn, (arI G 120 f_b)), (a_p, (oc6 8 5 a_pn e_p)), (a_pn, (arI G 40 f_p)), (a_bb, (arJ G 24 f_bb)), (a_j, (oc2 a_as a_sk)), (a_as, (arI G 8 f_as)), (a_sk, (arJ G 50 f_sk)), (a_l, (arW G 6 f_l)), (a_lo, (oc3 e_cl a_hd a_sr a_cd)), (a_sr, (arI G n_sr f_sr)), (a_cd, (arI G n_cd f_cd)), (a_hd, (arI G n_hd f_hd)), (a_pt, (arI G 200 f_pt))] sz)) (va_Qi (fun (r : Int32) (u : va_W) => (∃ (o_r : Int32) (o_ln : Int32) (o_se : Int32) (o_lh : Int32) (o_br : Int32) (o_we : Int32) (o_me : Int32) (o_ce : Int32) (o_wy : Int32) (o_ho : Int32) (o_ov : Int32) (o_pt : Nat → Int32) (o_as : Nat → Int32) (o_sk : Nat → Int64), (0 ≤ o_ov.toInt ∧ o_ov.toInt ≤ 1) ∧ (r = o_r) ∧ (u = [(a_o, (oc11 a_h a_im a_ke a_k a_wa a_th a_ha a_wk a_r a_x e_tl e_fd e_fpl a_wd e_wn a_rf e_lr)), (a_k, (oc5 a_h a_j a_pt o_ln o_se o_lh o_br o_we o_me o_ce o_wy o_ho o_ov)), (a_h, (oc1 e_wa e_le e_st e_fo e_lc a_l a_g a_b a_s a_p a_w e_gb a_bb)), (a_g, (oc6 6 5 a_gn e_g)), (a_gn, (arI G 30 f_g)), (a_b, (oc6 5 24 a_bn e_b)), (a_bn, (arI G 120 f_b)), (a_p, (oc6 8 5 a_pn e_p)), (a_pn, (arI G 40 f_p)), (a_bb, (arJ G 24 f_bb)), (a_j, (oc2 a_as a_sk)), (a_as, (arI G 8 o_as)), (a_sk, (arJ G 50 o_sk)), (a_l, (arW G 6 f_l)), (a_lo, (oc3 e_cl a_hd a_sr a_cd)), (a_sr, (arI G n_sr f_sr)), (a_cd, (arI G n_cd f_cd)), (a_hd, (arI G n_hd f_hd)), (a_pt, (arI G 200 o_pt))]))) (g5_B G (va_A [(a_o, (oc11 a_h a_im a_ke a_k a_wa a_th a_ha a_wk a_r a_x e_tl e_fd e_fpl a_wd e_wn a_rf e_lr)), (a_k, (oc5 a_h a_j a_pt e_ln e_se e_lh e_br e_we e_me e_ce e_wy e_ho e_ov)), (a_h, (oc1 e_wa e_le e_st e_fo e_lc a_l a_g a_b a_s a_p a_w e_gb a_bb)), (a_g, (oc6 6 5 a_gn e_g)), (a_gn, (arI G 30 f_g)), (a_b, (oc6 5 24 a_bn e_b)), (a_bn, (arI G 120 f_b)), (a_p, (oc6 8 5 a_pn e_p)), (a_pn, (arI G 40 f_p)), (a_bb, (arJ G 24 f_bb)), (a_j, (oc2 a_as a_sk)), (a_as, (arI G 8 f_as)), (a_sk, (arJ G 50 f_sk)), (a_l, (arW G 6 f_l)), (a_lo, (oc3 e_cl a_hd a_sr a_cd)), (a_sr, (arI G n_sr f_sr)), (a_cd, (arI G n_cd f_cd)), (a_hd, (arI G n_hd f_hd)), (a_pt, (arI G 200 f_pt))] sz)) (va_A [(a_o, (oc11 a_h a_im a_ke a_k a_wa a_th a_ha a_wk a_r a_x e_tl e_fd e_fpl a_wd e_wn a_rf e_lr)), (a_k, (oc5 a_h a_j a_pt e_ln e_se e_lh e_br e_we e_me e_ce e_wy e_ho e_ov)), (a_h, (oc1 e_wa e_le e_st e_fo e_lc a_l a_g a_b a_s a_p a_w e_gb a_bb)), (a_g, (oc6 6 5 a_gn e_g)), (a_gn, (arI G 30 f_g)), (a_b, (oc6 5 24 a_bn e_b)), (a_bn, (arI G 120 f_b)), (a_p, (oc6 8 5 a_pn e_p)), (a_pn, (arI G 40 f_p)), (a_bb, (arJ G 24 f_bb)), (a_j, (oc2 a_as a_sk)), (a_as, (arI G 8 f_as)), (a_sk, (arJ G 50 f_sk)), (a_l, (arW G 6 f_l)), (a_lo, (oc3 e_cl a_hd a_sr a_cd)), (a_sr, (arI G n_sr f_sr)), (a_cd, (arI G n_cd f_cd)), (a_hd, (arI G n_hd f_hd)), (a_pt, (arI G 200 f_pt))] sz)) 0 0 (va_A [(a_o, (oc11 a_h a_im a_ke a_k a_wa a_th a_ha a_wk a_r a_x e_tl e_fd e_fpl a_wd e_wn a_rf e_lr)), (a_k, (oc5 a_h a_j a_pt e_ln e_se e_lh e_br e_we e_me e_ce e_wy e_ho e_ov)), (a_h, (oc1 e_wa e_le e_st e_fo e_lc a_l a_g a_b a_s a_p a_w e_gb a_bb)), (a_g, (oc6 6 5 a_gn e_g)), (a_gn, (arI G 30 f_g)), (a_b, (oc6 5 24 a_bn e_b)), (a_bn, (arI G 120 f_b)), (a_p, (oc6 8 5 a_pn e_p)), (a_pn, (arI G 40 f_p)), (a_bb, (arJ G 24 f_bb)), (a_j, (oc2 a_as a_sk)), (a_as, (arI G 8 f_as)), (a_sk, (arJ G 50 f_sk)), (a_l, (arW G 6 f_l)), (a_lo, (oc3 e_cl a_hd a_sr a_cd)), (a_sr, (arI G n_sr f_sr)), (a_cd, (arI G n_cd f_cd)), (a_hd, (arI G n_hd f_hd)), (a_pt, (arI G 200 f_pt))] sz) := by
  refine Met.ofW (cc := cX11_first) (maxL := 7) (ret := (some .int)) (by decide +kernel) rfl ?_
  intro p e s m args below meth c s₁ B hml hv
  obtain ⟨rfl, hsz, hP, hK, hD0, hN, hT⟩ := hv
  have hx := B.exec
  have hb := B.bytes
  have hr := B.returns
  have hts : ∀ w ∈ tblG, w.before _ s = true := fun w h => atoms_spec (ws := (wsG yX11_first cX11_first 7 (some .int))) B.pre w (List.mem_cons_of_mem _ h)
  have hown : s.vm.findClass RX11 = some m.cls := findClass_of_methodNamed B.named
  have hlocks := B.notSynchronized
  subst hsz
  have hD := hD0.self (sz := s.heap.size)
  generalize hAe : va_A [(a_o, (oc11 a_h a_im a_ke a_k a_wa a_th a_ha a_wk a_r a_x e_tl e_fd e_fpl a_wd e_wn a_rf e_lr)), (a_k, (oc5 a_h a_j a_pt e_ln e_se e_lh e_br e_we e_me e_ce e_wy e_ho e_ov)), (a_h, (oc1 e_wa e_le e_st e_fo e_lc a_l a_g a_b a_s a_p a_w e_gb a_bb)), (a_g, (oc6 6 5 a_gn e_g)), (a_gn, (arI G 30 f_g)), (a_b, (oc6 5 24 a_bn e_b)), (a_bn, (arI G 120 f_b)), (a_p, (oc6 8 5 a_pn e_p)), (a_pn, (arI G 40 f_p)), (a_bb, (arJ G 24 f_bb)), (a_j, (oc2 a_as a_sk)), (a_as, (arI G 8 f_as)), (a_sk, (arJ G 50 f_sk)), (a_l, (arW G 6 f_l)), (a_lo, (oc3 e_cl a_hd a_sr a_cd)), (a_sr, (arI G n_sr f_sr)), (a_cd, (arI G n_cd f_cd)), (a_hd, (arI G n_hd f_hd)), (a_pt, (arI G 200 f_pt))] s.heap.size = A at hD hT ⊢
  have hA : ∀ q : Nat, s.heap.size ≤ q → A q := fun q h => by rw [← hAe]; exact Or.inr h
  have hS : va_S A s.heap s.heap [] := va_S.rf
  replace hP : va_P G.1 vwCl [(a_o, (oc11 a_h a_im a_ke a_k a_wa a_th a_ha a_wk a_r a_x e_tl e_fd e_fpl a_wd e_wn a_rf e_lr)), (a_k, (oc5 a_h a_j a_pt e_ln e_se e_lh e_br e_we e_me e_ce e_wy e_ho e_ov)), (a_h, (oc1 e_wa e_le e_st e_fo e_lc a_l a_g a_b a_s a_p a_w e_gb a_bb)), (a_g, (oc6 6 5 a_gn e_g)), (a_gn, (arI G 30 f_g)), (a_b, (oc6 5 24 a_bn e_b)), (a_bn, (arI G 120 f_b)), (a_p, (oc6 8 5 a_pn e_p)), (a_pn, (arI G 40 f_p)), (a_bb, (arJ G 24 f_bb)), (a_j, (oc2 a_as a_sk)), (a_as, (arI G 8 f_as)), (a_sk, (arJ G 50 f_sk)), (a_l, (arW G 6 f_l)), (a_lo, (oc3 e_cl a_hd a_sr a_cd)), (a_sr, (arI G n_sr f_sr)), (a_cd, (arI G n_cd f_cd)), (a_hd, (arI G n_hd f_hd)), (a_pt, (arI G 200 f_pt))] s.heap := hP
  have hl := lv_entry ([.ref a_o, .int p_b, .int p_t]) (n := 7) (Nat.le_of_ble_eq_true rfl)
  rw [lg_entry_eq]
  generalize (lg_sl ([.ref a_o, .int p_b, .int p_t]) ++ List.replicate (7 - (lg_sl ([.ref a_o, .int p_b, .int p_t])).length) Slot.unset).toArray = ls at hl ⊢
  replace hl : lv_has ls 7 [(0, .ref a_o), (1, .int p_b), (2, .int p_t)] := hl
  refine lv_aload_n hx hb dX11_first_0 rfl (lv_at hl 0 rfl) ?_
  refine va_get (D := G.1) (ci := 11) (v := .ref a_h) (C := RX11) (T := TX11) (N := 17) hx hb hts inG_X11 hown hK hP 0 rfl rfl 0 (by decide +kernel) (hts _ fl_X11_12) (fun _ h9 => h9) rfl dX11_first_1 ?_
  refine va_get (D := G.1) (ci := 1) (v := .ref a_b) (C := RX1) (T := TX1) (N := 13) hx hb hts inG_X1 hown hK hP 2 rfl rfl 7 (by decide +kernel) (hts _ fl_X11_167) (fun _ h9 => h9) rfl dX11_first_4 ?_
  refine lv_iload_n hx hb dX11_first_7 rfl (lv_at hl 1 rfl) ?_
  refine W.eq (g2 := F0 m 8 ls [.int p_b, .ref a_b]) rfl ?_
  obtain ⟨hPc, hDc, hFc⟩ := g5_sub3 (wc := [(a_b, (oc6 5 24 a_bn e_b))]) hP hD hS hA [5] (by decide +kernel) rfl
  refine va_calli (va_runV (As := [.int p_b]) (rest := []) ⟨hx, hb, hml, hown, hts⟩ (t_has_B l G a_b a_bn s.heap.size e_b p_b h_e_b) (cwV 1 hts gV_X11_160 rfl rfl rfl hv_X6_has ⟨Nat.le_of_ble_eq_true rfl, Nat.le_of_ble_eq_true rfl⟩) (g5_preV hPc hK hDc hN hT hS hFc (ci := 6) (q0 := 0) rfl rfl) rfl rfl hl.1 rfl (lv_room (Nat.le_of_ble_eq_true rfl)) dX11_first_8 ⟨Nat.le_of_ble_eq_true rfl, Nat.le_of_ble_eq_true rfl⟩) hS (fun q _ h => hFc q h) hFc (fun r u t H locs ht hvm hw hB hz1 hk1 hS => ?_)
  obtain ⟨hP1, hD1⟩ := hB
  have hP1 := g5_ht ht hP1
  rcases hw with ⟨(i_1 : 0 ≤ p_b.toInt ∧ p_b.toInt < e_b.toInt), rfl, rfl⟩ | ⟨(i_2 : p_b.toInt < 0 ∨ e_b.toInt ≤ p_b.toInt), rfl, rfl⟩
  ·
    have hJ9 := va_join (wr := [(a_o, (oc11 a_h a_im a_ke a_k a_wa a_th a_ha a_wk a_r a_x e_tl e_fd e_fpl a_wd e_wn a_rf e_lr)), (a_k, (oc5 a_h a_j a_pt e_ln e_se e_lh e_br e_we e_me e_ce e_wy e_ho e_ov)), (a_h, (oc1 e_wa e_le e_st e_fo e_lc a_l a_g a_b a_s a_p a_w e_gb a_bb)), (a_g, (oc6 6 5 a_gn e_g)), (a_gn, (arI G 30 f_g)), (a_bn, (arI G 120 f_b)), (a_p, (oc6 8 5 a_pn e_p)), (a_pn, (arI G 40 f_p)), (a_bb, (arJ G 24 f_bb)), (a_j, (oc2 a_as a_sk)), (a_as, (arI G 8 f_as)), (a_sk, (arJ G 50 f_sk)), (a_l, (arW G 6 f_l)), (a_lo, (oc3 e_cl a_hd a_sr a_cd)), (a_sr, (arI G n_sr f_sr)), (a_cd, (arI G n_cd f_cd)), (a_hd, (arI G n_hd f_hd)), (a_pt, (arI G 200 f_pt))]) hP hD [5] [0, 1, 2, 3, 4, 6, 7, 8, 9, 10, 11, 12, 13, 14, 15, 16, 17, 18] rfl rfl (by decide +kernel) (by decide +kernel) hk1 hFc hP1 hD1
    clear hP hD hPc hDc hFc ht hvm hz1 hk1 hP1 hD1
    obtain ⟨hP, hD⟩ := hJ9
    refine g5_rs [(a_o, (oc11 a_h a_im a_ke a_k a_wa a_th a_ha a_wk a_r a_x e_tl e_fd e_fpl a_wd e_wn a_rf e_lr)), (a_k, (oc5 a_h a_j a_pt e_ln e_se e_lh e_br e_we e_me e_ce e_wy e_ho e_ov)), (a_h, (oc1 e_wa e_le e_st e_fo e_lc a_l a_g a_b a_s a_p a_w e_gb a_bb)), (a_g, (oc6 6 5 a_gn e_g)), (a_gn, (arI G 30 f_g)), (a_bn, (arI G 120 f_b)), (a_p, (oc6 8 5 a_pn e_p)), (a_pn, (arI G 40 f_p)), (a_bb, (arJ G 24 f_bb)), (a_j, (oc2 a_as a_sk)), (a_as, (arI G 8 f_as)), (a_sk, (arJ G 50 f_sk)), (a_l, (arW G 6 f_l)), (a_lo, (oc3 e_cl a_hd a_sr a_cd)), (a_sr, (arI G n_sr f_sr)), (a_cd, (arI G n_cd f_cd)), (a_hd, (arI G n_hd f_hd)), (a_pt, (arI G 200 f_pt)), (a_b, (oc6 5 24 a_bn e_b))] hP hD ?_
    clear hP hD
    intro hP hD
    refine lv_if_eq (tgt := 23) hx hb dX11_first_11 (by decide +kernel) (fun c_3 => ?_) (fun c_3 => ?_)
    ·
      exact absurd c_3 (by decide +kernel)
    ·
      refine lv_iload_n hx hb dX11_first_14 rfl (lv_at hl 2 rfl) ?_
      refine lv_if_lt (tgt := 23) hx hb dX11_first_15 (by decide +kernel) (fun c_4 => ?_) (fun c_4 => ?_)
      ·
        have i_4 : p_t.toInt < 0 := g5_lt (a := p_t.toInt) (b := 0) rfl (by decide +kernel) c_4
        refine lv_iconst (v := (-1)) hx hb dX11_first_23 (by decide +kernel) ?_
        exact W.iret (v := (-1)) hx hb hr (fun t ht hW => ⟨⟨(-1), [(a_o, (oc11 a_h a_im a_ke a_k a_wa a_th a_ha a_wk a_r a_x e_tl e_fd e_fpl a_wd e_wn a_rf e_lr)), (a_k, (oc5 a_h a_j a_pt e_ln e_se e_lh e_br e_we e_me e_ce e_wy e_ho e_ov)), (a_h, (oc1 e_wa e_le e_st e_fo e_lc a_l a_g a_b a_s a_p a_w e_gb a_bb)), (a_g, (oc6 6 5 a_gn e_g)), (a_gn, (arI G 30 f_g)), (a_b, (oc6 5 24 a_bn e_b)), (a_bn, (arI G 120 f_b)), (a_p, (oc6 8 5 a_pn e_p)), (a_pn, (arI G 40 f_p)), (a_bb, (arJ G 24 f_bb)), (a_j, (oc2 a_as a_sk)), (a_as, (arI G 8 f_as)), (a_sk, (arJ G 50 f_sk)), (a_l, (arW G 6 f_l)), (a_lo, (oc3 e_cl a_hd a_sr a_cd)), (a_sr, (arI G n_sr f_sr)), (a_cd, (arI G n_cd f_cd)), (a_hd, (arI G n_hd f_hd)), (a_pt, (arI G 200 f_pt))], rfl, ⟨(-1), e_ln, e_se, e_lh, e_br, e_we, e_me, e_ce, e_wy, e_ho, e_ov, f_pt, f_as, f_sk, h_e_ov, rfl, rfl⟩, by rw [ht]; exact hP.sub [0, 1, 2, 3, 4, 18, 5, 6, 7, 8, 9, 10, 11, 12, 13, 14, 15, 16, 17] rfl, hD.sub [0, 1, 2, 3, 4, 18, 5, 6, 7, 8, 9, 10, 11, 12, 13, 14, 15, 16, 17] (by decide +kernel) rfl⟩, hS.F ht⟩) hS.2.2 dX11_first_24
      ·
        have i_4 : p_t.toInt ≥ 0 := g5_ltN (a := p_t.toInt) (b := 0) rfl (by decide +kernel) c_4
        refine lv_iload_n hx hb dX11_first_18 rfl (lv_at hl 2 rfl) ?_
        refine lv_iconst (v := 2) hx hb dX11_first_19 (by decide +kernel) ?_
        refine lv_icmp_le (tgt := 25) hx hb dX11_first_20 (by decide +kernel) (fun c_5 => ?_) (fun c_5 => ?_)
        ·
          have i_5 : p_t.toInt ≤ 2 := g5_le (a := p_t.toInt) (b := 2) rfl (by decide +kernel) c_5
          refine lv_iconst (v := 0) hx hb dX11_first_25 (by decide +kernel) ?_
          refine lv_istore_n (lv' := [(3, .int 0), (0, .ref a_o), (1, .int p_b), (2, .int p_t)]) hx hb dX11_first_26 rfl hl (by decide +kernel) rfl ?_
          clear hl
          intro ls hl
          refine g5_loop (α := (Int32) × (Int32) × (Int32) × (Int32) × (Int32) × (Int32) × (Int32) × (Int32) × (Int32) × (Int32) × (Nat → Int32) × (Nat → Int32) × (Nat → Int64) × (Int32)) (fun (q : (Int32) × (Int32) × (Int32) × (Int32) × (Int32) × (Int32) × (Int32) × (Int32) × (Int32) × (Int32) × (Nat → Int32) × (Nat → Int32) × (Nat → Int64) × (Int32)) (ls : Array Slot) (H : Heap) (locs : List Loc) => match q with | (k_h, k_se, k_lh, k_br, k_we, k_me, k_ce, k_wy, k_ho, k_ov, k_pt, k_as, k_sk, k_ln) => lv_has ls 7 [(3, .int k_h), (0, .ref a_o), (1, .int p_b), (2, .int p_t)] ∧ va_P G.1 vwCl [(a_o, (oc11 a_h a_im a_ke a_k a_wa a_th a_ha a_wk a_r a_x e_tl e_fd e_fpl a_wd e_wn a_rf e_lr)), (a_k, (oc5 a_h a_j a_pt k_ln k_se k_lh k_br k_we k_me k_ce k_wy k_ho k_ov)), (a_h, (oc1 e_wa e_le e_st e_fo e_lc a_l a_g a_b a_s a_p a_w e_gb a_bb)), (a_g, (oc6 6 5 a_gn e_g)), (a_gn, (arI G 30 f_g)), (a_bn, (arI G 120 f_b)), (a_p, (oc6 8 5 a_pn e_p)), (a_pn, (arI G 40 f_p)), (a_bb, (arJ G 24 f_bb)), (a_j, (oc2 a_as a_sk)), (a_as, (arI G 8 k_as)), (a_sk, (arJ G 50 k_sk)), (a_l, (arW G 6 f_l)), (a_lo, (oc3 e_cl a_hd a_sr a_cd)), (a_sr, (arI G n_sr f_sr)), (a_cd, (arI G n_cd f_cd)), (a_hd, (arI G n_hd f_hd)), (a_pt, (arI G 200 k_pt)), (a_b, (oc6 5 24 a_bn e_b))] H ∧ va_D A [(a_o, (oc11 a_h a_im a_ke a_k a_wa a_th a_ha a_wk a_r a_x e_tl e_fd e_fpl a_wd e_wn a_rf e_lr)), (a_k, (oc5 a_h a_j a_pt k_ln k_se k_lh k_br k_we k_me k_ce k_wy k_ho k_ov)), (a_h, (oc1 e_wa e_le e_st e_fo e_lc a_l a_g a_b a_s a_p a_w e_gb a_bb)), (a_g, (oc6 6 5 a_gn e_g)), (a_gn, (arI G 30 f_g)), (a_bn, (arI G 120 f_b)), (a_p, (oc6 8 5 a_pn e_p)), (a_pn, (arI G 40 f_p)), (a_bb, (arJ G 24 f_bb)), (a_j, (oc2 a_as a_sk)), (a_as, (arI G 8 k_as)), (a_sk, (arJ G 50 k_sk)), (a_l, (arW G 6 f_l)), (a_lo, (oc3 e_cl a_hd a_sr a_cd)), (a_sr, (arI G n_sr f_sr)), (a_cd, (arI G n_cd f_cd)), (a_hd, (arI G n_hd f_hd)), (a_pt, (arI G 200 k_pt)), (a_b, (oc6 5 24 a_bn e_b))] ∧ va_S A s.heap H locs ∧ (0 ≤ k_h.toInt ∧ k_h.toInt ≤ 24) ∧ (0 ≤ k_ov.toInt ∧ k_ov.toInt ≤ 1)) (fun (q : (Int32) × (Int32) × (Int32) × (Int32) × (Int32) × (Int32) × (Int32) × (Int32) × (Int32) × (Int32) × (Nat → Int32) × (Nat → Int32) × (Nat → Int64) × (Int32)) => match q with | (k_h, k_se, k_lh, k_br, k_we, k_me, k_ce, k_wy, k_ho, k_ov, k_pt, k_as, k_sk, k_ln) => Int.toNat (24 - k_h.toInt)) (0, e_se, e_lh, e_br, e_we, e_me, e_ce, e_wy, e_ho, e_ov, f_pt, f_as, f_sk, e_ln) ⟨lv_sub hl [0, 1, 2, 3] rfl, hP, hD, hS, ⟨by decide, by decide⟩, h_e_ov⟩ ?_
          rintro ⟨k_h, k_se, k_lh, k_br, k_we, k_me, k_ce, k_wy, k_ho, k_ov, k_pt, k_as, k_sk, k_ln⟩ ls H locs ⟨hl, hP, hD, hS, (i_6 : 0 ≤ k_h.toInt ∧ k_h.toInt ≤ 24), (i_7 : 0 ≤ k_ov.toInt ∧ k_ov.toInt ≤ 1)⟩ ih_27_8
          replace hl : lv_has ls 7 [(3, .int k_h), (0, .ref a_o), (1, .int p_b), (2, .int p_t)] := hl
          refine g5_rs [(a_o, (oc11 a_h a_im a_ke a_k a_wa a_th a_ha a_wk a_r a_x e_tl e_fd e_fpl a_wd e_wn a_rf e_lr)), (a_k, (oc5 a_h a_j a_pt k_ln k_se k_lh k_br k_we k_me k_ce k_wy k_ho k_ov)), (a_h, (oc1 e_wa e_le e_st e_fo e_lc a_l a_g a_b a_s a_p a_w e_gb a_bb)), (a_g, (oc6 6 5 a_gn e_g)), (a_gn, (arI G 30 f_g)), (a_bn, (arI G 120 f_b)), (a_p, (oc6 8 5 a_pn e_p)), (a_pn, (arI G 40 f_p)), (a_bb, (arJ G 24 f_bb)), (a_j, (oc2 a_as a_sk)), (a_as, (arI G 8 k_as)), (a_sk, (arJ G 50 k_sk)), (a_l, (arW G 6 f_l)), (a_lo, (oc3 e_cl a_hd a_sr a_cd)), (a_sr, (arI G n_sr f_sr)), (a_cd, (arI G n_cd f_cd)), (a_hd, (arI G n_hd f_hd)), (a_pt, (arI G 200 k_pt)), (a_b, (oc6 5 24 a_bn e_b))] hP hD ?_
          clear hP hD
          intro hP hD
          refine lv_iload_n hx hb dX11_first_27 rfl (lv_at hl 0 rfl) ?_
          refine lv_bipush (v := 24) hx hb dX11_first_28 (by decide +kernel) ?_
          refine lv_icmp_ge (tgt := 138) hx hb dX11_first_30 (by decide +kernel) (fun c_9 => ?_) (fun c_9 => ?_)
          ·
            have i_9 : k_h.toInt ≥ 24 := g5_ge (a := k_h.toInt) (b := 24) rfl (by decide +kernel) c_9
            refine lv_iconst (v := (-1)) hx hb dX11_first_138 (by decide +kernel) ?_
            exact W.iret (v := (-1)) hx hb hr (fun t ht hW => ⟨⟨(-1), [(a_o, (oc11 a_h a_im a_ke a_k a_wa a_th a_ha a_wk a_r a_x e_tl e_fd e_fpl a_wd e_wn a_rf e_lr)), (a_k, (oc5 a_h a_j a_pt k_ln k_se k_lh k_br k_we k_me k_ce k_wy k_ho k_ov)), (a_h, (oc1 e_wa e_le e_st e_fo e_lc a_l a_g a_b a_s a_p a_w e_gb a_bb)), (a_g, (oc6 6 5 a_gn e_g)), (a_gn, (arI G 30 f_g)), (a_b, (oc6 5 24 a_bn e_b)), (a_bn, (arI G 120 f_b)), (a_p, (oc6 8 5 a_pn e_p)), (a_pn, (arI G 40 f_p)), (a_bb, (arJ G 24 f_bb)), (a_j, (oc2 a_as a_sk)), (a_as, (arI G 8 k_as)), (a_sk, (arJ G 50 k_sk)), (a_l, (arW G 6 f_l)), (a_lo, (oc3 e_cl a_hd a_sr a_cd)), (a_sr, (arI G n_sr f_sr)), (a_cd, (arI G n_cd f_cd)), (a_hd, (arI G n_hd f_hd)), (a_pt, (arI G 200 k_pt))], rfl, ⟨(-1), k_ln, k_se, k_lh, k_br, k_we, k_me, k_ce, k_wy, k_ho, k_ov, k_pt, k_as, k_sk, i_7, rfl, rfl⟩, by rw [ht]; exact hP.sub [0, 1, 2, 3, 4, 18, 5, 6, 7, 8, 9, 10, 11, 12, 13, 14, 15, 16, 17] rfl, hD.sub [0, 1, 2, 3, 4, 18, 5, 6, 7, 8, 9, 10, 11, 12, 13, 14, 15, 16, 17] (by decide +kernel) rfl⟩, hS.F ht⟩) hS.2.2 dX11_first_139
          ·
            have i_9 : k_h.toInt < 24 := g5_geN (a := k_h.toInt) (b := 24) rfl (by decide +kernel) c_9
            refine lv_iconst (v := 0) hx hb dX11_first_33 (by decide +kernel) ?_
            refine lv_istore (lv' := [(4, .int 0), (3, .int k_h), (0, .ref a_o), (1, .int p_b), (2, .int p_t)]) hx hb dX11_first_34 hl (by decide +kernel) rfl ?_
            clear hl
            intro ls hl
            refine g5_loop (α := (Int32) × (Int32) × (Int32) × (Int32) × (Int32) × (Int32) × (Int32) × (Int32) × (Int32) × (Int32) × (Nat → Int32) × (Nat → Int32) × (Nat → Int64) × (Int32)) (fun (q : (Int32) × (Int32) × (Int32) × (Int32) × (Int32) × (Int32) × (Int32) × (Int32) × (Int32) × (Int32) × (Nat → Int32) × (Nat → Int32) × (Nat → Int64) × (Int32)) (ls : Array Slot) (H : Heap) (locs : List Loc) => match q with | (m_b, m_se, m_lh, m_br, m_we, m_me, m_ce, m_wy, m_ho, m_ov, m_pt, m_as, m_sk, m_ln) => lv_has ls 7 [(4, .int m_b), (3, .int k_h), (0, .ref a_o), (1, .int p_b), (2, .int p_t)] ∧ va_P G.1 vwCl [(a_o, (oc11 a_h a_im a_ke a_k a_wa a_th a_ha a_wk a_r a_x e_tl e_fd e_fpl a_wd e_wn a_rf e_lr)), (a_k, (oc5 a_h a_j a_pt m_ln m_se m_lh m_br m_we m_me m_ce m_wy m_ho m_ov)), (a_h, (oc1 e_wa e_le e_st e_fo e_lc a_l a_g a_b a_s a_p a_w e_gb a_bb)), (a_g, (oc6 6 5 a_gn e_g)), (a_gn, (arI G 30 f_g)), (a_bn, (arI G 120 f_b)), (a_p, (oc6 8 5 a_pn e_p)), (a_pn, (arI G 40 f_p)), (a_bb, (arJ G 24 f_bb)), (a_j, (oc2 a_as a_sk)), (a_as, (arI G 8 m_as)), (a_sk, (arJ G 50 m_sk)), (a_l, (arW G 6 f_l)), (a_lo, (oc3 e_cl a_hd a_sr a_cd)), (a_sr, (arI G n_sr f_sr)), (a_cd, (arI G n_cd f_cd)), (a_hd, (arI G n_hd f_hd)), (a_pt, (arI G 200 m_pt)), (a_b, (oc6 5 24 a_bn e_b))] H ∧ va_D A [(a_o, (oc11 a_h a_im a_ke a_k a_wa a_th a_ha a_wk a_r a_x e_tl e_fd e_fpl a_wd e_wn a_rf e_lr)), (a_k, (oc5 a_h a_j a_pt m_ln m_se m_lh m_br m_we m_me m_ce m_wy m_ho m_ov)), (a_h, (oc1 e_wa e_le e_st e_fo e_lc a_l a_g a_b a_s a_p a_w e_gb a_bb)), (a_g, (oc6 6 5 a_gn e_g)), (a_gn, (arI G 30 f_g)), (a_bn, (arI G 120 f_b)), (a_p, (oc6 8 5 a_pn e_p)), (a_pn, (arI G 40 f_p)), (a_bb, (arJ G 24 f_bb)), (a_j, (oc2 a_as a_sk)), (a_as, (arI G 8 m_as)), (a_sk, (arJ G 50 m_sk)), (a_l, (arW G 6 f_l)), (a_lo, (oc3 e_cl a_hd a_sr a_cd)), (a_sr, (arI G n_sr f_sr)), (a_cd, (arI G n_cd f_cd)), (a_hd, (arI G n_hd f_hd)), (a_pt, (arI G 200 m_pt)), (a_b, (oc6 5 24 a_bn e_b))] ∧ va_S A s.heap H locs ∧ (0 ≤ m_b.toInt ∧ m_b.toInt ≤ 5) ∧ (0 ≤ m_ov.toInt ∧ m_ov.toInt ≤ 1)) (fun (q : (Int32) × (Int32) × (Int32) × (Int32) × (Int32) × (Int32) × (Int32) × (Int32) × (Int32) × (Int32) × (Nat → Int32) × (Nat → Int32) × (Nat → Int64) × (Int32)) => match q with | (m_b, m_se, m_lh, m_br, m_we, m_me, m_ce, m_wy, m_ho, m_ov, m_pt, m_as, m_sk, m_ln) => Int.toNat (5 - m_b.toInt)) (0, k_se, k_lh, k_br, k_we, k_me, k_ce, k_wy, k_ho, k_ov, k_pt, k_as, k_sk, k_ln) ⟨lv_sub hl [0, 1, 2, 3, 4] rfl, hP, hD, hS, ⟨by decide, by decide⟩, i_7⟩ ?_
            rintro ⟨m_b, m_se, m_lh, m_br, m_we, m_me, m_ce, m_wy, m_ho, m_ov, m_pt, m_as, m_sk, m_ln⟩ ls H locs ⟨hl, hP, hD, hS, (i_10 : 0 ≤ m_b.toInt ∧ m_b.toInt ≤ 5), (i_11 : 0 ≤ m_ov.toInt ∧ m_ov.toInt ≤ 1)⟩ ih_36_12
            replace hl : lv_has ls 7 [(4, .int m_b), (3, .int k_h), (0, .ref a_o), (1, .int p_b), (2, .int p_t)] := hl
            refine g5_rs [(a_o, (oc11 a_h a_im a_ke a_k a_wa a_th a_ha a_wk a_r a_x e_tl e_fd e_fpl a_wd e_wn a_rf e_lr)), (a_k, (oc5 a_h a_j a_pt m_ln m_se m_lh m_br m_we m_me m_ce m_wy m_ho m_ov)), (a_h, (oc1 e_wa e_le e_st e_fo e_lc a_l a_g a_b a_s a_p a_w e_gb a_bb)), (a_g, (oc6 6 5 a_gn e_g)), (a_gn, (arI G 30 f_g)), (a_bn, (arI G 120 f_b)), (a_p, (oc6 8 5 a_pn e_p)), (a_pn, (arI G 40 f_p)), (a_bb, (arJ G 24 f_bb)), (a_j, (oc2 a_as a_sk)), (a_as, (arI G 8 m_as)), (a_sk, (arJ G 50 m_sk)), (a_l, (arW G 6 f_l)), (a_lo, (oc3 e_cl a_hd a_sr a_cd)), (a_sr, (arI G n_sr f_sr)), (a_cd, (arI G n_cd f_cd)), (a_hd, (arI G n_hd f_hd)), (a_pt, (arI G 200 m_pt)), (a_b, (oc6 5 24 a_bn e_b))] hP hD ?_
            clear hP hD
            intro hP hD
            refine lv_iload hx hb dX11_first_36 (lv_at hl 0 rfl) ?_
            refine lv_aload_n hx hb dX11_first_38 rfl (lv_at hl 2 rfl) ?_
            refine va_get (D := G.1) (ci := 11) (v := .ref a_h) (C := RX11) (T := TX11) (N := 17) hx hb hts inG_X11 hown hK hP 0 rfl rfl 0 (by decide +kernel) (hts _ fl_X11_12) (fun _ h9 => h9) rfl dX11_first_39 ?_
            refine va_get (D := G.1) (ci := 1) (v := .ref a_b) (C := RX1) (T := TX1) (N := 13) hx hb hts inG_X1 hown hK hP 2 rfl rfl 7 (by decide +kernel) (hts _ fl_X11_167) (fun _ h9 => h9) rfl dX11_first_42 ?_
            refine W.eq (g2 := F0 m 45 ls [.ref a_b, .int m_b]) rfl ?_
            refine va_get (D := G.1) (ci := 6) (v := .int e_b) (C := RX6) (T := TX6) (N := 4) hx hb hts inG_X6 hown hK hP 18 rfl rfl 3 (by decide +kernel) (hts _ fl_X11_238) (fun _ h9 => h9) rfl dX11_first_45 ?_
            refine lv_icmp_ge (tgt := 132) hx hb dX11_first_48 (by decide +kernel) (fun c_13 => ?_) (fun c_13 => ?_)
            ·
              have i_13 : m_b.toInt ≥ e_b.toInt := g5_ge (a := m_b.toInt) (b := e_b.toInt) rfl rfl c_13
              refine lv_iinc (v := (k_h + 1)) (lv' := [(3, .int (k_h + 1)), (4, .int m_b), (0, .ref a_o), (1, .int p_b), (2, .int p_t)]) hx hb dX11_first_132 hl (k := 1) rfl rfl (by decide +kernel) rfl ?_
              clear hl
              intro ls hl
              have t_14 : (k_h + 1).toInt = k_h.toInt + 1 := g5_iadd (a := k_h.toInt) (b := 1) rfl (by decide +kernel) (by omega) (by omega)
              refine lv_goto (tgt := 27) hx hb dX11_first_135 (by decide +kernel) ?_
              exact ih_27_8 ((k_h + 1), m_se, m_lh, m_br, m_we, m_me, m_ce, m_wy, m_ho, m_ov, m_pt, m_as, m_sk, m_ln) ls H locs (show Int.toNat (24 - (k_h + 1).toInt) < Int.toNat (24 - k_h.toInt) from g_up (show k_h.toInt < (k_h + 1).toInt by omega) (show k_h.toInt < 24 by omega)) ⟨lv_sub hl [0, 2, 3, 4] rfl, hP, hD, hS, ⟨by omega, by omega⟩, i_11⟩
            ·
              have i_13 : m_b.toInt < e_b.toInt := g5_geN (a := m_b.toInt) (b := e_b.toInt) rfl rfl c_13
              refine lv_iload hx hb dX11_first_51 (lv_at hl 0 rfl) ?_
              refine lv_iload_n hx hb dX11_first_53 rfl (lv_at hl 3 rfl) ?_
              refine lv_icmp_ne (tgt := 61) hx hb dX11_first_54 (by decide +kernel) (fun c_15 => ?_) (fun c_15 => ?_)
              ·
                have n_15 : gNe (m_b.toInt) (p_b.toInt) := g5_ne (a := m_b.toInt) (b := p_b.toInt) rfl rfl c_15
                refine lv_aload_n hx hb dX11_first_61 rfl (lv_at hl 2 rfl) ?_
                refine va_get (D := G.1) (ci := 11) (v := .ref a_h) (C := RX11) (T := TX11) (N := 17) hx hb hts inG_X11 hown hK hP 0 rfl rfl 0 (by decide +kernel) (hts _ fl_X11_12) (fun _ h9 => h9) rfl dX11_first_62 ?_
                refine va_get (D := G.1) (ci := 1) (v := .ref a_b) (C := RX1) (T := TX1) (N := 13) hx hb hts inG_X1 hown hK hP 2 rfl rfl 7 (by decide +kernel) (hts _ fl_X11_167) (fun _ h9 => h9) rfl dX11_first_65 ?_
                refine lv_iload hx hb dX11_first_68 (lv_at hl 0 rfl) ?_
                refine W.eq (g2 := F0 m 70 ls [.int m_b, .ref a_b]) rfl ?_
                refine lv_iload_n hx hb dX11_first_70 rfl (lv_at hl 1 rfl) ?_
                obtain ⟨hPc, hDc, hFc⟩ := g5_sub3 (wc := [(a_b, (oc6 5 24 a_bn e_b)), (a_bn, (arI G 120 f_b))]) hP hD hS hA [18, 5] (by decide +kernel) rfl
                refine va_calli (va_runV (As := [.int m_b, .int k_h]) (rest := []) ⟨hx, hb, hml, hown, hts⟩ (t_get_B l G a_b a_bn H.size e_b m_b k_h f_b h_e_b) (cwV 2 hts gV_X11_163 rfl rfl rfl hv_X6_get ⟨Nat.le_of_ble_eq_true rfl, Nat.le_of_ble_eq_true rfl⟩) (g5_preV hPc hK hDc hN hT hS hFc (ci := 6) (q0 := 0) rfl rfl) rfl rfl hl.1 rfl (lv_room (Nat.le_of_ble_eq_true rfl)) dX11_first_71 ⟨Nat.le_of_ble_eq_true rfl, Nat.le_of_ble_eq_true rfl⟩) hS (fun q _ h => hFc q h) hFc (fun r u t H locs ht hvm hw hB hz1 hk1 hS => ?_)
                obtain ⟨hP1, hD1⟩ := hB
                have hP1 := g5_ht ht hP1
                obtain ⟨z17, (i_16 : z17 = tget f_b e_b.toInt 24 m_b.toInt k_h.toInt), y18, rfl⟩ := hw
                have hJ9 := va_join (wr := [(a_o, (oc11 a_h a_im a_ke a_k a_wa a_th a_ha a_wk a_r a_x e_tl e_fd e_fpl a_wd e_wn a_rf e_lr)), (a_k, (oc5 a_h a_j a_pt m_ln m_se m_lh m_br m_we m_me m_ce m_wy m_ho m_ov)), (a_h, (oc1 e_wa e_le e_st e_fo e_lc a_l a_g a_b a_s a_p a_w e_gb a_bb)), (a_g, (oc6 6 5 a_gn e_g)), (a_gn, (arI G 30 f_g)), (a_p, (oc6 8 5 a_pn e_p)), (a_pn, (arI G 40 f_p)), (a_bb, (arJ G 24 f_bb)), (a_j, (oc2 a_as a_sk)), (a_as, (arI G 8 m_as)), (a_sk, (arJ G 50 m_sk)), (a_l, (arW G 6 f_l)), (a_lo, (oc3 e_cl a_hd a_sr a_cd)), (a_sr, (arI G n_sr f_sr)), (a_cd, (arI G n_cd f_cd)), (a_hd, (arI G n_hd f_hd)), (a_pt, (arI G 200 m_pt))]) hP hD [18, 5] [0, 1, 2, 3, 4, 6, 7, 8, 9, 10, 11, 12, 13, 14, 15, 16, 17] rfl rfl (by decide +kernel) (by decide +kernel) hk1 hFc hP1 hD1
                clear hP hD hPc hDc hFc ht hvm hz1 hk1 hP1 hD1
                obtain ⟨hP, hD⟩ := hJ9
                refine g5_rs [(a_o, (oc11 a_h a_im a_ke a_k a_wa a_th a_ha a_wk a_r a_x e_tl e_fd e_fpl a_wd e_wn a_rf e_lr)), (a_k, (oc5 a_h a_j a_pt m_ln m_se m_lh m_br m_we m_me m_ce m_wy m_ho m_ov)), (a_h, (oc1 e_wa e_le e_st e_fo e_lc a_l a_g a_b a_s a_p a_w e_gb a_bb)), (a_g, (oc6 6 5 a_gn e_g)), (a_gn, (arI G 30 f_g)), (a_p, (oc6 8 5 a_pn e_p)), (a_pn, (arI G 40 f_p)), (a_bb, (arJ G 24 f_bb)), (a_j, (oc2 a_as a_sk)), (a_as, (arI G 8 m_as)), (a_sk, (arJ G 50 m_sk)), (a_l, (arW G 6 f_l)), (a_lo, (oc3 e_cl a_hd a_sr a_cd)), (a_sr, (arI G n_sr f_sr)), (a_cd, (arI G n_cd f_cd)), (a_hd, (arI G n_hd f_hd)), (a_pt, (arI G 200 m_pt)), (a_b, (oc6 5 24 a_bn e_b)), (a_bn, (arI G 120 f_b))] hP hD ?_
                clear hP hD
                intro hP hD
                refine g5_ti (v := z17) y18 ?_
                refine lv_istore (lv' := [(5, .int z17), (4, .int m_b), (3, .int k_h), (0, .ref a_o), (1, .int p_b), (2, .int p_t)]) hx hb dX11_first_74 hl (by decide +kernel) rfl ?_
                clear hl
                intro ls hl
                refine lv_iload hx hb dX11_first_76 (lv_at hl 0 rfl) ?_
                refine lv_iconst (v := (-1)) hx hb dX11_first_78 (by decide +kernel) ?_
                refine W.eq (g2 := F0 m 79 ls [.int (-1), .int z17]) rfl ?_
                refine lv_icmp_ne (tgt := 86) hx hb dX11_first_79 (by decide +kernel) (fun c_19 => ?_) (fun c_19 => ?_)
                ·
                  have n_19 : gNe (z17.toInt) ((-1)) := g5_ne (a := z17.toInt) (b := (-1)) rfl (by decide +kernel) c_19
                  refine lv_aload_n hx hb dX11_first_86 rfl (lv_at hl 3 rfl) ?_
                  refine va_get (D := G.1) (ci := 11) (v := .ref a_k) (C := RX11) (T := TX11) (N := 17) hx hb hts inG_X11 hown hK hP 0 rfl rfl 3 (by decide +kernel) (hts _ fl_X11_29) (fun _ h9 => h9) rfl dX11_first_87 ?_
                  refine lv_iload hx hb dX11_first_90 (lv_at hl 0 rfl) ?_
                  refine lv_iload_n hx hb dX11_first_92 rfl (lv_at hl 2 rfl) ?_
                  refine W.eq (g2 := F0 m 93 ls [.int k_h, .int z17, .ref a_k]) rfl ?_
                  refine lv_iload_n hx hb dX11_first_93 rfl (lv_at hl 4 rfl) ?_
                  obtain ⟨hPc, hDc, hFc⟩ := g5_sub3 (wc := [(a_k, (oc5 a_h a_j a_pt m_ln m_se m_lh m_br m_we m_me m_ce m_wy m_ho m_ov)), (a_h, (oc1 e_wa e_le e_st e_fo e_lc a_l a_g a_b a_s a_p a_w e_gb a_bb)), (a_g, (oc6 6 5 a_gn e_g)), (a_gn, (arI G 30 f_g)), (a_b, (oc6 5 24 a_bn e_b)), (a_bn, (arI G 120 f_b)), (a_p, (oc6 8 5 a_pn e_p)), (a_pn, (arI G 40 f_p)), (a_bb, (arJ G 24 f_bb)), (a_j, (oc2 a_as a_sk)), (a_as, (arI G 8 m_as)), (a_sk, (arJ G 50 m_sk)), (a_l, (arW G 6 f_l)), (a_lo, (oc3 e_cl a_hd a_sr a_cd)), (a_sr, (arI G n_sr f_sr)), (a_cd, (arI G n_cd f_cd)), (a_hd, (arI G n_hd f_hd)), (a_pt, (arI G 200 m_pt))]) hP hD hS hA [1, 2, 3, 4, 17, 18, 5, 6, 7, 8, 9, 10, 11, 12, 13, 14, 15, 16] (by decide +kernel) rfl
                  refine va_calli (va_runV (As := [.int z17, .int k_h, .int p_b]) (rest := []) ⟨hx, hb, hml, hown, hts⟩ (s_latenessL l G a_k a_h a_g a_gn a_b a_bn a_p a_pn a_bb a_j a_as a_sk a_l a_lo a_sr a_cd a_hd a_pt a_s a_w H.size e_le e_st e_fo e_lc e_g e_b e_p e_cl m_ln m_se m_lh m_br m_we m_me m_ce m_wy m_ho m_ov z17 k_h p_b e_wa e_gb f_g f_b f_p f_bb m_as m_sk f_l f_sr f_cd f_hd m_pt n_sr n_cd n_hd h_e_g h_e_b h_e_p h_e_cl i_11 (e_gk) (e_pk) (e_gi) (e_f) (e_a) (e_hn) (e_hs) (e_hk) (e_c)) (cwV 3 hts gV_X11_234 rfl rfl rfl hv_X5_lateness ⟨Nat.le_of_ble_eq_true rfl, Nat.le_of_ble_eq_true rfl⟩) (g5_preV hPc hK hDc hN hT hS hFc (ci := 5) (q0 := 0) rfl rfl) rfl rfl hl.1 rfl (lv_room (Nat.le_of_ble_eq_true rfl)) dX11_first_94 ⟨Nat.le_of_ble_eq_true rfl, Nat.le_of_ble_eq_true rfl⟩) hS (fun q _ h => hFc q h) hFc (fun r u t H locs ht hvm hw hB hz1 hk1 hS => ?_)
                  obtain ⟨hP1, hD1⟩ := hB
                  have hP1 := g5_ht ht hP1
                  obtain ⟨z21, z22, z23, z24, z25, z26, z27, z28, z29, z30, z31, z32, z33, z34, (i_20 : 0 ≤ z31.toInt ∧ z31.toInt ≤ 1), y35, rfl⟩ := hw
                  have hJ9 := va_join (wr := [(a_o, (oc11 a_h a_im a_ke a_k a_wa a_th a_ha a_wk a_r a_x e_tl e_fd e_fpl a_wd e_wn a_rf e_lr))]) hP hD [1, 2, 3, 4, 17, 18, 5, 6, 7, 8, 9, 10, 11, 12, 13, 14, 15, 16] [0] rfl rfl (by decide +kernel) (by decide +kernel) hk1 hFc hP1 hD1
                  clear hP hD hPc hDc hFc ht hvm hz1 hk1 hP1 hD1
                  obtain ⟨hP, hD⟩ := hJ9
                  refine g5_rs [(a_o, (oc11 a_h a_im a_ke a_k a_wa a_th a_ha a_wk a_r a_x e_tl e_fd e_fpl a_wd e_wn a_rf e_lr)), (a_k, (oc5 a_h a_j a_pt z22 z23 z24 z25 z26 z27 z28 z29 z30 z31)), (a_h, (oc1 e_wa e_le e_st e_fo e_lc a_l a_g a_b a_s a_p a_w e_gb a_bb)), (a_g, (oc6 6 5 a_gn e_g)), (a_gn, (arI G 30 f_g)), (a_b, (oc6 5 24 a_bn e_b)), (a_bn, (arI G 120 f_b)), (a_p, (oc6 8 5 a_pn e_p)), (a_pn, (arI G 40 f_p)), (a_bb, (arJ G 24 f_bb)), (a_j, (oc2 a_as a_sk)), (a_as, (arI G 8 z33)), (a_sk, (arJ G 50 z34)), (a_l, (arW G 6 f_l)), (a_lo, (oc3 e_cl a_hd a_sr a_cd)), (a_sr, (arI G n_sr f_sr)), (a_cd, (arI G n_cd f_cd)), (a_hd, (arI G n_hd f_hd)), (a_pt, (arI G 200 z32))] hP hD ?_
                  clear hP hD
                  intro hP hD
                  refine g5_ti (v := z21) y35 ?_
                  refine lv_istore (lv' := [(6, .int z21), (5, .int z17), (4, .int m_b), (3, .int k_h), (0, .ref a_o), (1, .int p_b), (2, .int p_t)]) hx hb dX11_first_97 hl (by decide +kernel) rfl ?_
                  clear hl
                  intro ls hl
                  refine lv_iload hx hb dX11_first_99 (lv_at hl 0 rfl) ?_
                  refine lv_iconst (v := (-1)) hx hb dX11_first_101 (by decide +kernel) ?_
                  refine W.eq (g2 := F0 m 102 ls [.int (-1), .int z21]) rfl ?_
                  refine lv_icmp_eq (tgt := 126) hx hb dX11_first_102 (by decide +kernel) (fun c_36 => ?_) (fun c_36 => ?_)
                  ·
                    have i_36 : z21.toInt = (-1) := g5_eq (a := z21.toInt) (b := (-1)) rfl (by decide +kernel) c_36
                    refine lv_iinc (v := (m_b + 1)) (lv' := [(4, .int (m_b + 1)), (6, .int z21), (5, .int z17), (3, .int k_h), (0, .ref a_o), (1, .int p_b), (2, .int p_t)]) hx hb dX11_first_126 hl (k := 2) rfl rfl (by decide +kernel) rfl ?_
                    clear hl
                    intro ls hl
                    have t_37 : (m_b + 1).toInt = m_b.toInt + 1 := g5_iadd (a := m_b.toInt) (b := 1) rfl (by decide +kernel) (by omega) (by omega)
                    refine lv_goto (tgt := 36) hx hb dX11_first_129 (by decide +kernel) ?_
                    exact ih_36_12 ((m_b + 1), z23, z24, z25, z26, z27, z28, z29, z30, z31, z32, z33, z34, z22) ls H locs (show Int.toNat (5 - (m_b + 1).toInt) < Int.toNat (5 - m_b.toInt) from g_up (show m_b.toInt < (m_b + 1).toInt by omega) (show m_b.toInt < 5 by omega)) ⟨lv_sub hl [0, 3, 4, 5, 6] rfl, hP.sub [0, 1, 2, 3, 4, 6, 7, 8, 9, 10, 11, 12, 13, 14, 15, 16, 17, 18, 5] rfl, hD.sub [0, 1, 2, 3, 4, 6, 7, 8, 9, 10, 11, 12, 13, 14, 15, 16, 17, 18, 5] (by decide +kernel) rfl, hS, ⟨by omega, by omega⟩, i_20⟩
                  ·
                    have n_36 : gNe (z21.toInt) ((-1)) := g5_eqN (a := z21.toInt) (b := (-1)) rfl (by decide +kernel) c_36
                    refine lv_iload_n hx hb dX11_first_105 rfl (lv_at hl 6 rfl) ?_
                    refine lv_if_ne (tgt := 113) hx hb dX11_first_106 (by decide +kernel) (fun c_38 => ?_) (fun c_38 => ?_)
                    ·
                      have n_38 : gNe (p_t.toInt) (0) := g5_ne (a := p_t.toInt) (b := 0) rfl (by decide +kernel) c_38
                      have i_38 : p_t.toInt ≥ 1 := by have z := g5_ne (a := p_t.toInt) (b := 0) (by rfl) (by decide +kernel) c_38; omega
                      refine lv_iload_n hx hb dX11_first_113 rfl (lv_at hl 6 rfl) ?_
                      refine lv_iconst (v := 1) hx hb dX11_first_114 (by decide +kernel) ?_
                      refine lv_icmp_ne (tgt := 123) hx hb dX11_first_115 (by decide +kernel) (fun c_39 => ?_) (fun c_39 => ?_)
                      ·
                        have n_39 : gNe (p_t.toInt) (1) := g5_ne (a := p_t.toInt) (b := 1) rfl (by decide +kernel) c_39
                        have i_39 : p_t.toInt ≥ 2 := by have z := g5_ne (a := p_t.toInt) (b := 1) (by rfl) (by decide +kernel) c_39; omega
                        refine lv_iload hx hb dX11_first_123 (lv_at hl 0 rfl) ?_
                        exact W.iret (v := z21) hx hb hr (fun t ht hW => ⟨⟨z21, [(a_o, (oc11 a_h a_im a_ke a_k a_wa a_th a_ha a_wk a_r a_x e_tl e_fd e_fpl a_wd e_wn a_rf e_lr)), (a_k, (oc5 a_h a_j a_pt z22 z23 z24 z25 z26 z27 z28 z29 z30 z31)), (a_h, (oc1 e_wa e_le e_st e_fo e_lc a_l a_g a_b a_s a_p a_w e_gb a_bb)), (a_g, (oc6 6 5 a_gn e_g)), (a_gn, (arI G 30 f_g)), (a_b, (oc6 5 24 a_bn e_b)), (a_bn, (arI G 120 f_b)), (a_p, (oc6 8 5 a_pn e_p)), (a_pn, (arI G 40 f_p)), (a_bb, (arJ G 24 f_bb)), (a_j, (oc2 a_as a_sk)), (a_as, (arI G 8 z33)), (a_sk, (arJ G 50 z34)), (a_l, (arW G 6 f_l)), (a_lo, (oc3 e_cl a_hd a_sr a_cd)), (a_sr, (arI G n_sr f_sr)), (a_cd, (arI G n_cd f_cd)), (a_hd, (arI G n_hd f_hd)), (a_pt, (arI G 200 z32))], rfl, ⟨z21, z22, z23, z24, z25, z26, z27, z28, z29, z30, z31, z32, z33, z34, i_20, rfl, rfl⟩, by rw [ht]; exact hP.sub [0, 1, 2, 3, 4, 5, 6, 7, 8, 9, 10, 11, 12, 13, 14, 15, 16, 17, 18] rfl, hD.sub [0, 1, 2, 3, 4, 5, 6, 7, 8, 9, 10, 11, 12, 13, 14, 15, 16, 17, 18] (by decide +kernel) rfl⟩, hS.F ht⟩) hS.2.2 dX11_first_125
                      ·
                        have i_39 : p_t.toInt = 1 := g5_neN (a := p_t.toInt) (b := 1) rfl (by decide +kernel) c_39
                        refine lv_iload hx hb dX11_first_118 (lv_at hl 2 rfl) ?_
                        refine lv_goto (tgt := 125) hx hb dX11_first_120 (by decide +kernel) ?_
                        exact W.iret (v := m_b) hx hb hr (fun t ht hW => ⟨⟨m_b, [(a_o, (oc11 a_h a_im a_ke a_k a_wa a_th a_ha a_wk a_r a_x e_tl e_fd e_fpl a_wd e_wn a_rf e_lr)), (a_k, (oc5 a_h a_j a_pt z22 z23 z24 z25 z26 z27 z28 z29 z30 z31)), (a_h, (oc1 e_wa e_le e_st e_fo e_lc a_l a_g a_b a_s a_p a_w e_gb a_bb)), (a_g, (oc6 6 5 a_gn e_g)), (a_gn, (arI G 30 f_g)), (a_b, (oc6 5 24 a_bn e_b)), (a_bn, (arI G 120 f_b)), (a_p, (oc6 8 5 a_pn e_p)), (a_pn, (arI G 40 f_p)), (a_bb, (arJ G 24 f_bb)), (a_j, (oc2 a_as a_sk)), (a_as, (arI G 8 z33)), (a_sk, (arJ G 50 z34)), (a_l, (arW G 6 f_l)), (a_lo, (oc3 e_cl a_hd a_sr a_cd)), (a_sr, (arI G n_sr f_sr)), (a_cd, (arI G n_cd f_cd)), (a_hd, (arI G n_hd f_hd)), (a_pt, (arI G 200 z32))], rfl, ⟨m_b, z22, z23, z24, z25, z26, z27, z28, z29, z30, z31, z32, z33, z34, i_20, rfl, rfl⟩, by rw [ht]; exact hP.sub [0, 1, 2, 3, 4, 5, 6, 7, 8, 9, 10, 11, 12, 13, 14, 15, 16, 17, 18] rfl, hD.sub [0, 1, 2, 3, 4, 5, 6, 7, 8, 9, 10, 11, 12, 13, 14, 15, 16, 17, 18] (by decide +kernel) rfl⟩, hS.F ht⟩) hS.2.2 dX11_first_125
                    ·
                      have i_38 : p_t.toInt = 0 := g5_neN (a := p_t.toInt) (b := 0) rfl (by decide +kernel) c_38
                      refine lv_iload_n hx hb dX11_first_109 rfl (lv_at hl 3 rfl) ?_
                      refine lv_goto (tgt := 125) hx hb dX11_first_110 (by decide +kernel) ?_
                      exact W.iret (v := k_h) hx hb hr (fun t ht hW => ⟨⟨k_h, [(a_o, (oc11 a_h a_im a_ke a_k a_wa a_th a_ha a_wk a_r a_x e_tl e_fd e_fpl a_wd e_wn a_rf e_lr)), (a_k, (oc5 a_h a_j a_pt z22 z23 z24 z25 z26 z27 z28 z29 z30 z31)), (a_h, (oc1 e_wa e_le e_st e_fo e_lc a_l a_g a_b a_s a_p a_w e_gb a_bb)), (a_g, (oc6 6 5 a_gn e_g)), (a_gn, (arI G 30 f_g)), (a_b, (oc6 5 24 a_bn e_b)), (a_bn, (arI G 120 f_b)), (a_p, (oc6 8 5 a_pn e_p)), (a_pn, (arI G 40 f_p)), (a_bb, (arJ G 24 f_bb)), (a_j, (oc2 a_as a_sk)), (a_as, (arI G 8 z33)), (a_sk, (arJ G 50 z34)), (a_l, (arW G 6 f_l)), (a_lo, (oc3 e_cl a_hd a_sr a_cd)), (a_sr, (arI G n_sr f_sr)), (a_cd, (arI G n_cd f_cd)), (a_hd, (arI G n_hd f_hd)), (a_pt, (arI G 200 z32))], rfl, ⟨k_h, z22, z23, z24, z25, z26, z27, z28, z29, z30, z31, z32, z33, z34, i_20, rfl, rfl⟩, by rw [ht]; exact hP.sub [0, 1, 2, 3, 4, 5, 6, 7, 8, 9, 10, 11, 12, 13, 14, 15, 16, 17, 18] rfl, hD.sub [0, 1, 2, 3, 4, 5, 6, 7, 8, 9, 10, 11, 12, 13, 14, 15, 16, 17, 18] (by decide +kernel) rfl⟩, hS.F ht⟩) hS.2.2 dX11_first_125
                ·
                  have i_19 : z17.toInt = (-1) := g5_neN (a := z17.toInt) (b := (-1)) rfl (by decide +kernel) c_19
                  refine lv_iconst (v := (-1)) hx hb dX11_first_82 (by decide +kernel) ?_
                  refine lv_goto (tgt := 97) hx hb dX11_first_83 (by decide +kernel) ?_
                  refine lv_istore (lv' := [(6, .int (-1)), (5, .int z17), (4, .int m_b), (3, .int k_h), (0, .ref a_o), (1, .int p_b), (2, .int p_t)]) hx hb dX11_first_97 hl (by decide +kernel) rfl ?_
                  clear hl
                  intro ls hl
                  refine lv_iload hx hb dX11_first_99 (lv_at hl 0 rfl) ?_
                  refine W.eq (g2 := F0 m 101 ls [.int (-1)]) rfl ?_
                  refine lv_iconst (v := (-1)) hx hb dX11_first_101 (by decide +kernel) ?_
                  refine lv_icmp_eq (tgt := 126) hx hb dX11_first_102 (by decide +kernel) (fun c_40 => ?_) (fun c_40 => ?_)
                  ·
                    refine lv_iinc (v := (m_b + 1)) (lv' := [(4, .int (m_b + 1)), (6, .int (-1)), (5, .int z17), (3, .int k_h), (0, .ref a_o), (1, .int p_b), (2, .int p_t)]) hx hb dX11_first_126 hl (k := 2) rfl rfl (by decide +kernel) rfl ?_
                    clear hl
                    intro ls hl
                    have t_41 : (m_b + 1).toInt = m_b.toInt + 1 := g5_iadd (a := m_b.toInt) (b := 1) rfl (by decide +kernel) (by omega) (by omega)
                    refine lv_goto (tgt := 36) hx hb dX11_first_129 (by decide +kernel) ?_
                    exact ih_36_12 ((m_b + 1), m_se, m_lh, m_br, m_we, m_me, m_ce, m_wy, m_ho, m_ov, m_pt, m_as, m_sk, m_ln) ls H locs (show Int.toNat (5 - (m_b + 1).toInt) < Int.toNat (5 - m_b.toInt) from g_up (show m_b.toInt < (m_b + 1).toInt by omega) (show m_b.toInt < 5 by omega)) ⟨lv_sub hl [0, 3, 4, 5, 6] rfl, hP.sub [0, 1, 2, 3, 4, 18, 5, 6, 7, 8, 9, 10, 11, 12, 13, 14, 15, 16, 17] rfl, hD.sub [0, 1, 2, 3, 4, 18, 5, 6, 7, 8, 9, 10, 11, 12, 13, 14, 15, 16, 17] (by decide +kernel) rfl, hS, ⟨by omega, by omega⟩, i_11⟩
                  ·
                    exact absurd c_40 (by decide +kernel)
              ·
                have i_15 : m_b.toInt = p_b.toInt := g5_neN (a := m_b.toInt) (b := p_b.toInt) rfl rfl c_15
                refine lv_iconst (v := (-1)) hx hb dX11_first_57 (by decide +kernel) ?_
                refine lv_goto (tgt := 74) hx hb dX11_first_58 (by decide +kernel) ?_
                refine lv_istore (lv' := [(5, .int (-1)), (4, .int m_b), (3, .int k_h), (0, .ref a_o), (1, .int p_b), (2, .int p_t)]) hx hb dX11_first_74 hl (by decide +kernel) rfl ?_
                clear hl
                intro ls hl
                refine lv_iload hx hb dX11_first_76 (lv_at hl 0 rfl) ?_
                refine W.eq (g2 := F0 m 78 ls [.int (-1)]) rfl ?_
                refine lv_iconst (v := (-1)) hx hb dX11_first_78 (by decide +kernel) ?_
                refine lv_icmp_ne (tgt := 86) hx hb dX11_first_79 (by decide +kernel) (fun c_42 => ?_) (fun c_42 => ?_)
                ·
                  exact absurd c_42 (by decide +kernel)
                ·
                  refine lv_iconst (v := (-1)) hx hb dX11_first_82 (by decide +kernel) ?_
                  refine lv_goto (tgt := 97) hx hb dX11_first_83 (by decide +kernel) ?_
                  refine lv_istore (lv' := [(6, .int (-1)), (5, .int (-1)), (4, .int m_b), (3, .int k_h), (0, .ref a_o), (1, .int p_b), (2, .int p_t)]) hx hb dX11_first_97 hl (by decide +kernel) rfl ?_
                  clear hl
                  intro ls hl
                  refine lv_iload hx hb dX11_first_99 (lv_at hl 0 rfl) ?_
                  refine W.eq (g2 := F0 m 101 ls [.int (-1)]) rfl ?_
                  refine lv_iconst (v := (-1)) hx hb dX11_first_101 (by decide +kernel) ?_
                  refine lv_icmp_eq (tgt := 126) hx hb dX11_first_102 (by decide +kernel) (fun c_43 => ?_) (fun c_43 => ?_)
                  ·
                    refine lv_iinc (v := (m_b + 1)) (lv' := [(4, .int (m_b + 1)), (6, .int (-1)), (5, .int (-1)), (3, .int k_h), (0, .ref a_o), (1, .int p_b), (2, .int p_t)]) hx hb dX11_first_126 hl (k := 2) rfl rfl (by decide +kernel) rfl ?_
                    clear hl
                    intro ls hl
                    have t_44 : (m_b + 1).toInt = m_b.toInt + 1 := g5_iadd (a := m_b.toInt) (b := 1) rfl (by decide +kernel) (by omega) (by omega)
                    refine lv_goto (tgt := 36) hx hb dX11_first_129 (by decide +kernel) ?_
                    exact ih_36_12 ((m_b + 1), m_se, m_lh, m_br, m_we, m_me, m_ce, m_wy, m_ho, m_ov, m_pt, m_as, m_sk, m_ln) ls H locs (show Int.toNat (5 - (m_b + 1).toInt) < Int.toNat (5 - m_b.toInt) from g_up (show m_b.toInt < (m_b + 1).toInt by omega) (show m_b.toInt < 5 by omega)) ⟨lv_sub hl [0, 3, 4, 5, 6] rfl, hP, hD, hS, ⟨by omega, by omega⟩, i_11⟩
                  ·
                    exact absurd c_43 (by decide +kernel)
        ·
          have i_5 : p_t.toInt > 2 := g5_leN (a := p_t.toInt) (b := 2) rfl (by decide +kernel) c_5
          refine lv_iconst (v := (-1)) hx hb dX11_first_23 (by decide +kernel) ?_
          exact W.iret (v := (-1)) hx hb hr (fun t ht hW => ⟨⟨(-1), [(a_o, (oc11 a_h a_im a_ke a_k a_wa a_th a_ha a_wk a_r a_x e_tl e_fd e_fpl a_wd e_wn a_rf e_lr)), (a_k, (oc5 a_h a_j a_pt e_ln e_se e_lh e_br e_we e_me e_ce e_wy e_ho e_ov)), (a_h, (oc1 e_wa e_le e_st e_fo e_lc a_l a_g a_b a_s a_p a_w e_gb a_bb)), (a_g, (oc6 6 5 a_gn e_g)), (a_gn, (arI G 30 f_g)), (a_b, (oc6 5 24 a_bn e_b)), (a_bn, (arI G 120 f_b)), (a_p, (oc6 8 5 a_pn e_p)), (a_pn, (arI G 40 f_p)), (a_bb, (arJ G 24 f_bb)), (a_j, (oc2 a_as a_sk)), (a_as, (arI G 8 f_as)), (a_sk, (arJ G 50 f_sk)), (a_l, (arW G 6 f_l)), (a_lo, (oc3 e_cl a_hd a_sr a_cd)), (a_sr, (arI G n_sr f_sr)), (a_cd, (arI G n_cd f_cd)), (a_hd, (arI G n_hd f_hd)), (a_pt, (arI G 200 f_pt))], rfl, ⟨(-1), e_ln, e_se, e_lh, e_br, e_we, e_me, e_ce, e_wy, e_ho, e_ov, f_pt, f_as, f_sk, h_e_ov, rfl, rfl⟩, by rw [ht]; exact hP.sub [0, 1, 2, 3, 4, 18, 5, 6, 7, 8, 9, 10, 11, 12, 13, 14, 15, 16, 17] rfl, hD.sub [0, 1, 2, 3, 4, 18, 5, 6, 7, 8, 9, 10, 11, 12, 13, 14, 15, 16, 17] (by decide +kernel) rfl⟩, hS.F ht⟩) hS.2.2 dX11_first_24
  ·
    have hJ9 := va_join (wr := [(a_o, (oc11 a_h a_im a_ke a_k a_wa a_th a_ha a_wk a_r a_x e_tl e_fd e_fpl a_wd e_wn a_rf e_lr)), (a_k, (oc5 a_h a_j a_pt e_ln e_se e_lh e_br e_we e_me e_ce e_wy e_ho e_ov)), (a_h, (oc1 e_wa e_le e_st e_fo e_lc a_l a_g a_b a_s a_p a_w e_gb a_bb)), (a_g, (oc6 6 5 a_gn e_g)), (a_gn, (arI G 30 f_g)), (a_bn, (arI G 120 f_b)), (a_p, (oc6 8 5 a_pn e_p)), (a_pn, (arI G 40 f_p)), (a_bb, (arJ G 24 f_bb)), (a_j, (oc2 a_as a_sk)), (a_as, (arI G 8 f_as)), (a_sk, (arJ G 50 f_sk)), (a_l, (arW G 6 f_l)), (a_lo, (oc3 e_cl a_hd a_sr a_cd)), (a_sr, (arI G n_sr f_sr)), (a_cd, (arI G n_cd f_cd)), (a_hd, (arI G n_hd f_hd)), (a_pt, (arI G 200 f_pt))]) hP hD [5] [0, 1, 2, 3, 4, 6, 7, 8, 9, 10, 11, 12, 13, 14, 15, 16, 17, 18] rfl rfl (by decide +kernel) (by decide +kernel) hk1 hFc hP1 hD1
    clear hP hD hPc hDc hFc ht hvm hz1 hk1 hP1 hD1
    obtain ⟨hP, hD⟩ := hJ9
    refine g5_rs [(a_o, (oc11 a_h a_im a_ke a_k a_wa a_th a_ha a_wk a_r a_x e_tl e_fd e_fpl a_wd e_wn a_rf e_lr)), (a_k, (oc5 a_h a_j a_pt e_ln e_se e_lh e_br e_we e_me e_ce e_wy e_ho e_ov)), (a_h, (oc1 e_wa e_le e_st e_fo e_lc a_l a_g a_b a_s a_p a_w e_gb a_bb)), (a_g, (oc6 6 5 a_gn e_g)), (a_gn, (arI G 30 f_g)), (a_bn, (arI G 120 f_b)), (a_p, (oc6 8 5 a_pn e_p)), (a_pn, (arI G 40 f_p)), (a_bb, (arJ G 24 f_bb)), (a_j, (oc2 a_as a_sk)), (a_as, (arI G 8 f_as)), (a_sk, (arJ G 50 f_sk)), (a_l, (arW G 6 f_l)), (a_lo, (oc3 e_cl a_hd a_sr a_cd)), (a_sr, (arI G n_sr f_sr)), (a_cd, (arI G n_cd f_cd)), (a_hd, (arI G n_hd f_hd)), (a_pt, (arI G 200 f_pt)), (a_b, (oc6 5 24 a_bn e_b))] hP hD ?_
    clear hP hD
    intro hP hD
    refine lv_if_eq (tgt := 23) hx hb dX11_first_11 (by decide +kernel) (fun c_45 => ?_) (fun c_45 => ?_)
    ·
      refine lv_iconst (v := (-1)) hx hb dX11_first_23 (by decide +kernel) ?_
      exact W.iret (v := (-1)) hx hb hr (fun t ht hW => ⟨⟨(-1), [(a_o, (oc11 a_h a_im a_ke a_k a_wa a_th a_ha a_wk a_r a_x e_tl e_fd e_fpl a_wd e_wn a_rf e_lr)), (a_k, (oc5 a_h a_j a_pt e_ln e_se e_lh e_br e_we e_me e_ce e_wy e_ho e_ov)), (a_h, (oc1 e_wa e_le e_st e_fo e_lc a_l a_g a_b a_s a_p a_w e_gb a_bb)), (a_g, (oc6 6 5 a_gn e_g)), (a_gn, (arI G 30 f_g)), (a_b, (oc6 5 24 a_bn e_b)), (a_bn, (arI G 120 f_b)), (a_p, (oc6 8 5 a_pn e_p)), (a_pn, (arI G 40 f_p)), (a_bb, (arJ G 24 f_bb)), (a_j, (oc2 a_as a_sk)), (a_as, (arI G 8 f_as)), (a_sk, (arJ G 50 f_sk)), (a_l, (arW G 6 f_l)), (a_lo, (oc3 e_cl a_hd a_sr a_cd)), (a_sr, (arI G n_sr f_sr)), (a_cd, (arI G n_cd f_cd)), (a_hd, (arI G n_hd f_hd)), (a_pt, (arI G 200 f_pt))], rfl, ⟨(-1), e_ln, e_se, e_lh, e_br, e_we, e_me, e_ce, e_wy, e_ho, e_ov, f_pt, f_as, f_sk, h_e_ov, rfl, rfl⟩, by rw [ht]; exact hP.sub [0, 1, 2, 3, 4, 18, 5, 6, 7, 8, 9, 10, 11, 12, 13, 14, 15, 16, 17] rfl, hD.sub [0, 1, 2, 3, 4, 18, 5, 6, 7, 8, 9, 10, 11, 12, 13, 14, 15, 16, 17] (by decide +kernel) rfl⟩, hS.F ht⟩) hS.2.2 dX11_first_24
    ·
      exact absurd c_45 (by decide +kernel)
