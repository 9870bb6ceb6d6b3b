set_option maxHeartbeats 4000000 in
set_option maxRecDepth 100000 in
theorem x_pointN (l : Launch) (G : g5_G) (a_o a_k a_h a_g a_gn a_b a_bn a_p a_pn a_bb a_j a_as a_sk a_l a_pt a_im a_ke a_wa a_th a_ha a_wk a_r a_x a_wd a_rf a_s a_w : Nat) (sz : Nat) (e_tl : Int32) (e_fd : Int32) (e_fpl : Int32) (e_wn : Int32) (e_lr : Int32) (e_le : Int32) (e_st : Int32) (e_fo : Int32) (e_lc : Int32) (e_g : Int32) (e_b : Int32) (e_p : Int32) (e_ln : Int32) (e_se : Int32) (e_lh : Int32) (e_br : Int32) (e_we : Int32) (e_me : Int32) (e_ce : Int32) (e_wy : Int32) (e_ho : Int32) (e_ov : Int32) (p_c : Int32) (p_w : Int32) (p_h : Int32) (p_i : Int32) (e_wa : Int64) (e_gb : Int64) (f_g : Nat → Int32) (f_b : Nat → Int32) (f_p : Nat → Int32) (f_bb : Nat → Int64) (f_as : Nat → Int32) (f_sk : Nat → Int64) (f_l : Nat → Option Nat) (f_pt : Nat → Int32) (h_e_tl : 0 ≤ e_tl.toInt ∧ e_tl.toInt ≤ 400) (h_e_wn : 0 ≤ e_wn.toInt ∧ e_wn.toInt ≤ 1) (h_e_g : 0 ≤ e_g.toInt ∧ e_g.toInt ≤ 6) (h_e_b : 0 ≤ e_b.toInt ∧ e_b.toInt ≤ 5) (h_e_p : 0 ≤ e_p.toInt ∧ e_p.toInt ≤ 8) (h_e_ov : 0 ≤ e_ov.toInt ∧ e_ov.toInt ≤ 1) (e_gk : gOK f_g e_g.toInt) (e_pk : gOK f_p e_p.toInt) (e_gi : inT e_gb f_g e_g.toInt) (e_f : e_fo.toInt < 0 ∨ e_lc.toInt ≤ e_fo.toInt) : Met l yX11_point (wsG yX11_point cX11_point 5 (some .int)) ({ frames := 14, cells := 0, slots := 0, locals := 556 }) (va_Pc [.ref a_o, .int p_c, .int p_w, .int p_h, .int p_i] (g5_P G [(a_o, (oc11 a_h a_im a_ke a_k a_wa a_th a_ha a_wk a_r a_x e_tl e_fd e_fpl a_wd e_wn a_rf e_lr)), (a_k, (oc5 a_h a_j a_pt e_ln e_se e_lh e_br e_we e_me e_ce e_wy e_ho e_ov)), (a_h, (oc1 e_wa e_le e_st e_fo e_lc a_l a_g a_b a_s a_p a_w e_gb a_bb)), (a_g, (oc6 6 5 a_gn e_g)), (a_gn, (arI G 30 f_g)), (a_b, (oc6 5 24 a_bn e_b)), (a_bn, (arI G 120 f_b)), (a_p, (oc6 8 5 a_pn e_p)), (a_pn, (arI G 40 f_p)), (a_bb, (arJ G 24 f_bb)), (a_j, (oc2 a_as a_sk)), (a_as, (arI G 8 f_as)), (a_sk, (arJ G 50 f_sk)), (a_l, (arW G 6 f_l)), (a_pt, (arI G 200 f_pt))] sz)) (va_Qi (fun (r : Int32) (u : va_W) => (∃ (o_r : Int32) (o_ln : Int32) (o_se : Int32) (o_lh : Int32) (o_br : Int32) (o_we : Int32) (o_me : Int32) (o_ce : Int32) (o_wy : Int32) (o_ho : Int32) (o_ov : Int32) (o_pt : Nat → Int32) (o_as : Nat → Int32) (o_sk : Nat → Int64), (0 ≤ o_ov.toInt ∧ o_ov.toInt ≤ 1) ∧ (r = o_r) ∧ (u = [(a_o, (oc11 a_h a_im a_ke a_k a_wa a_th a_ha a_wk a_r a_x e_tl e_fd e_fpl a_wd e_wn a_rf e_lr)), (a_k, (oc5 a_h a_j a_pt o_ln o_se o_lh o_br o_we o_me o_ce o_wy o_ho o_ov)), (a_h, (oc1 e_wa e_le e_st e_fo e_lc a_l a_g a_b a_s a_p a_w e_gb a_bb)), (a_g, (oc6 6 5 a_gn e_g)), (a_gn, (arI G 30 f_g)), (a_b, (oc6 5 24 a_bn e_b)), (a_bn, (arI G 120 f_b)), (a_p, (oc6 8 5 a_pn e_p)), (a_pn, (arI G 40 f_p)), (a_bb, (arJ G 24 f_bb)), (a_j, (oc2 a_as a_sk)), (a_as, (arI G 8 o_as)), (a_sk, (arJ G 50 o_sk)), (a_l, (arW G 6 f_l)), (a_pt, (arI G 200 o_pt))]))) (g5_B G (va_A [(a_o, (oc11 a_h a_im a_ke a_k a_wa a_th a_ha a_wk a_r a_x e_tl e_fd e_fpl a_wd e_wn a_rf e_lr)), (a_k, (oc5 a_h a_j a_pt e_ln e_se e_lh e_br e_we e_me e_ce e_wy e_ho e_ov)), (a_h, (oc1 e_wa e_le e_st e_fo e_lc a_l a_g a_b a_s a_p a_w e_gb a_bb)), (a_g, (oc6 6 5 a_gn e_g)), (a_gn, (arI G 30 f_g)), (a_b, (oc6 5 24 a_bn e_b)), (a_bn, (arI G 120 f_b)), (a_p, (oc6 8 5 a_pn e_p)), (a_pn, (arI G 40 f_p)), (a_bb, (arJ G 24 f_bb)), (a_j, (oc2 a_as a_sk)), (a_as, (arI G 8 f_as)), (a_sk, (arJ G 50 f_sk)), (a_l, (arW G 6 f_l)), (a_pt, (arI G 200 f_pt))] sz)) (va_A [(a_o, (oc11 a_h a_im a_ke a_k a_wa a_th a_ha a_wk a_r a_x e_tl e_fd e_fpl a_wd e_wn a_rf e_lr)), (a_k, (oc5 a_h a_j a_pt e_ln e_se e_lh e_br e_we e_me e_ce e_wy e_ho e_ov)), (a_h, (oc1 e_wa e_le e_st e_fo e_lc a_l a_g a_b a_s a_p a_w e_gb a_bb)), (a_g, (oc6 6 5 a_gn e_g)), (a_gn, (arI G 30 f_g)), (a_b, (oc6 5 24 a_bn e_b)), (a_bn, (arI G 120 f_b)), (a_p, (oc6 8 5 a_pn e_p)), (a_pn, (arI G 40 f_p)), (a_bb, (arJ G 24 f_bb)), (a_j, (oc2 a_as a_sk)), (a_as, (arI G 8 f_as)), (a_sk, (arJ G 50 f_sk)), (a_l, (arW G 6 f_l)), (a_pt, (arI G 200 f_pt))] sz)) 0 0 (va_A [(a_o, (oc11 a_h a_im a_ke a_k a_wa a_th a_ha a_wk a_r a_x e_tl e_fd e_fpl a_wd e_wn a_rf e_lr)), (a_k, (oc5 a_h a_j a_pt e_ln e_se e_lh e_br e_we e_me e_ce e_wy e_ho e_ov)), (a_h, (oc1 e_wa e_le e_st e_fo e_lc a_l a_g a_b a_s a_p a_w e_gb a_bb)), (a_g, (oc6 6 5 a_gn e_g)), (a_gn, (arI G 30 f_g)), (a_b, (oc6 5 24 a_bn e_b)), (a_bn, (arI G 120 f_b)), (a_p, (oc6 8 5 a_pn e_p)), (a_pn, (arI G 40 f_p)), (a_bb, (arJ G 24 f_bb)), (a_j, (oc2 a_as a_sk)), (a_as, (arI G 8 f_as)), (a_sk, (arJ G 50 f_sk)), (a_l, (arW G 6 f_l)), (a_pt, (arI G 200 f_pt))] sz) := by
  refine Met.ofW (cc := cX11_point) (maxL := 5) (ret := (some .int)) (by decide) rfl ?_
  intro p e s m args below meth c s₁ B hml hv
  obtain ⟨rfl, hsz, hP, hK, hD0, hN, hT⟩ := hv
  have hx := B.exec
  have hb := B.bytes
  have hr := B.returns
  have hts : ∀ w ∈ tblG, w.before _ s = true := fun w h => atoms_spec (ws := (wsG yX11_point cX11_point 5 (some .int))) B.pre w (List.mem_cons_of_mem _ h)
  have hown : s.vm.findClass RX11 = some m.cls := findClass_of_methodNamed B.named
  have hlocks := B.notSynchronized
  subst hsz
  have hD := hD0.self (sz := s.heap.size)
  generalize hAe : va_A [(a_o, (oc11 a_h a_im a_ke a_k a_wa a_th a_ha a_wk a_r a_x e_tl e_fd e_fpl a_wd e_wn a_rf e_lr)), (a_k, (oc5 a_h a_j a_pt e_ln e_se e_lh e_br e_we e_me e_ce e_wy e_ho e_ov)), (a_h, (oc1 e_wa e_le e_st e_fo e_lc a_l a_g a_b a_s a_p a_w e_gb a_bb)), (a_g, (oc6 6 5 a_gn e_g)), (a_gn, (arI G 30 f_g)), (a_b, (oc6 5 24 a_bn e_b)), (a_bn, (arI G 120 f_b)), (a_p, (oc6 8 5 a_pn e_p)), (a_pn, (arI G 40 f_p)), (a_bb, (arJ G 24 f_bb)), (a_j, (oc2 a_as a_sk)), (a_as, (arI G 8 f_as)), (a_sk, (arJ G 50 f_sk)), (a_l, (arW G 6 f_l)), (a_pt, (arI G 200 f_pt))] s.heap.size = A at hD hT ⊢
  have hA : ∀ q : Nat, s.heap.size ≤ q → A q := fun q h => by rw [← hAe]; exact Or.inr h
  have hS : va_S A s.heap s.heap [] := va_S.rf
  have hP : va_P G.1 vwCl [(a_o, (oc11 a_h a_im a_ke a_k a_wa a_th a_ha a_wk a_r a_x e_tl e_fd e_fpl a_wd e_wn a_rf e_lr)), (a_k, (oc5 a_h a_j a_pt e_ln e_se e_lh e_br e_we e_me e_ce e_wy e_ho e_ov)), (a_h, (oc1 e_wa e_le e_st e_fo e_lc a_l a_g a_b a_s a_p a_w e_gb a_bb)), (a_g, (oc6 6 5 a_gn e_g)), (a_gn, (arI G 30 f_g)), (a_b, (oc6 5 24 a_bn e_b)), (a_bn, (arI G 120 f_b)), (a_p, (oc6 8 5 a_pn e_p)), (a_pn, (arI G 40 f_p)), (a_bb, (arJ G 24 f_bb)), (a_j, (oc2 a_as a_sk)), (a_as, (arI G 8 f_as)), (a_sk, (arJ G 50 f_sk)), (a_l, (arW G 6 f_l)), (a_pt, (arI G 200 f_pt))] s.heap := hP
  have hl := lv_entry ([.ref a_o, .int p_c, .int p_w, .int p_h, .int p_i]) (n := 5) (Nat.le_of_ble_eq_true rfl)
  rw [lg_entry_eq]
  generalize (lg_sl ([.ref a_o, .int p_c, .int p_w, .int p_h, .int p_i]) ++ List.replicate (5 - (lg_sl ([.ref a_o, .int p_c, .int p_w, .int p_h, .int p_i])).length) Slot.unset).toArray = ls at hl ⊢
  have hl : lv_has ls 5 [(0, .ref a_o), (1, .int p_c), (2, .int p_w), (3, .int p_h), (4, .int p_i)] := hl
  refine lv_iload_n hx hb dX11_point_0 rfl (lv_at hl 1 rfl) ?_
  refine lv_iload_n hx hb dX11_point_1 rfl (lv_at hl 2 rfl) ?_
  refine lv_iload_n hx hb dX11_point_2 rfl (lv_at hl 3 rfl) ?_
  obtain ⟨hPc, hDc, hFc⟩ := g5_sub3 (wc := []) hP hD hS hA [] (by decide) rfl
  refine va_calli (va_runS (As := [.int p_c, .int p_w, .int p_h]) (rest := []) ⟨hx, hb, hml, hown, hts⟩ (x_isLook l G s.heap.size p_c p_w p_h) (va_cwS 3 hts gS_X11_207 rfl rfl rfl hs_X11_isLook ⟨Nat.le_of_ble_eq_true rfl, Nat.le_of_ble_eq_true rfl⟩) (g5_preS hPc hK hDc hN hT hS hFc) rfl rfl hl.1 rfl (lv_room (Nat.le_of_ble_eq_true rfl)) dX11_point_3 ⟨Nat.le_of_ble_eq_true rfl, Nat.le_of_ble_eq_true rfl⟩) hS (fun q _ h => hFc q h) hFc (fun r u t H1 locs ht hvm hw hB hz1 hk1 hS => ?_)
  obtain ⟨hP1, hD1⟩ := hB
  rw [ht] at hP1
  rcases hw with ⟨i_1, rfl, rfl⟩ | ⟨rfl, rfl⟩
  ·
    have i_1 : (0 ≤ p_c.toInt ∧ p_c.toInt ≤ 63) ∧ (0 ≤ p_w.toInt ∧ p_w.toInt ≤ 3) ∧ (0 ≤ p_h.toInt ∧ p_h.toInt ≤ 23) := i_1
    have hP := g5_same hP hk1
    generalize H1 = H at hP hS ⊢
    refine lv_if_ne (tgt := 11) hx hb dX11_point_6 (by decide) (fun c_2 => ?_) (fun c_2 => ?_)
    ·
      refine lv_aload_n hx hb dX11_point_11 rfl (lv_at hl 0 rfl) ?_
      refine va_get (D := G.1) (ci := 11) (v := .ref a_k) (C := RX11) (T := TX11) (N := 17) hx hb hts inG_X11 hown hK hP 0 rfl rfl 3 (by decide) (hts _ fl_X11_29) (fun _ h9 => h9) rfl dX11_point_12 ?_
      refine lv_iload_n hx hb dX11_point_15 rfl (lv_at hl 1 rfl) ?_
      refine lv_iload_n hx hb dX11_point_16 rfl (lv_at hl 2 rfl) ?_
      refine lv_iload_n hx hb dX11_point_17 rfl (lv_at hl 3 rfl) ?_
      refine lv_iconst (v := 0) hx hb dX11_point_18 (by decide) ?_
      obtain ⟨hPc, hDc, hFc⟩ := g5_sub3 (wc := [(a_k, (oc5 a_h a_j a_pt e_ln e_se e_lh e_br e_we e_me e_ce e_wy e_ho e_ov)), (a_h, (oc1 e_wa e_le e_st e_fo e_lc a_l a_g a_b a_s a_p a_w e_gb a_bb)), (a_g, (oc6 6 5 a_gn e_g)), (a_gn, (arI G 30 f_g)), (a_b, (oc6 5 24 a_bn e_b)), (a_bn, (arI G 120 f_b)), (a_p, (oc6 8 5 a_pn e_p)), (a_pn, (arI G 40 f_p)), (a_bb, (arJ G 24 f_bb)), (a_j, (oc2 a_as a_sk)), (a_as, (arI G 8 f_as)), (a_sk, (arJ G 50 f_sk)), (a_l, (arW G 6 f_l)), (a_pt, (arI G 200 f_pt))]) hP hD hS hA [1, 2, 3, 4, 5, 6, 7, 8, 9, 10, 11, 12, 13, 14] (by decide) rfl
      refine va_callv (va_runV (As := [.int p_c, .int p_w, .int p_h, .int 0]) (rest := []) ⟨hx, hb, hml, hown, hts⟩ (k_runN l G a_k a_h a_g a_gn a_b a_bn a_p a_pn a_bb a_j a_as a_sk a_l a_pt a_s a_w H.size e_le e_st e_fo e_lc e_g e_b e_p e_ln e_se e_lh e_br e_we e_me e_ce e_wy e_ho e_ov p_c p_w p_h 0 e_wa e_gb f_g f_b f_p f_bb f_as f_sk f_l f_pt h_e_g h_e_b h_e_p h_e_ov (e_gk) (e_pk) (e_gi) (e_f)) (cwV 4 hts gV_X11_210 rfl rfl rfl hv_X5_run ⟨Nat.le_of_ble_eq_true rfl, Nat.le_of_ble_eq_true rfl⟩) (g5_preV hPc hK hDc hN hT hS hFc (ci := 5) (q0 := 0) rfl rfl) rfl rfl hl.1 rfl (lv_room (Nat.le_of_ble_eq_true rfl)) dX11_point_19 ⟨Nat.le_of_ble_eq_true rfl, Nat.le_of_ble_eq_true rfl⟩) hS (fun q _ h => hFc q h) hFc (fun u t H1 locs ht hvm hw hB hz1 hk1 hS => ?_)
      obtain ⟨hP1, hD1⟩ := hB
      rw [ht] at hP1
      obtain ⟨z6, z7, z8, z9, z10, z11, z12, z13, z14, z15, z16, z17, z18, i_3, i_4, i_5, rfl⟩ := hw
      have i_3 : 0 ≤ z6.toInt ∧ z6.toInt ≤ 200 := i_3
      have i_4 : 0 ≤ z15.toInt ∧ z15.toInt ≤ 1 := i_4
      have i_5 : ∀ j : Nat, (j : Int) < z6.toInt → 0 ≤ (z16 j).toInt ∧ (z16 j).toInt ≤ 1535 := i_5
      obtain ⟨hP, hD⟩ := va_join (wr := [(a_o, (oc11 a_h a_im a_ke a_k a_wa a_th a_ha a_wk a_r a_x e_tl e_fd e_fpl a_wd e_wn a_rf e_lr))]) hP hD [1, 2, 3, 4, 5, 6, 7, 8, 9, 10, 11, 12, 13, 14] [0] rfl rfl (by decide) (by decide) hk1 hFc hP1 hD1
      generalize H1 = H at hP hS ⊢
      refine g5_rs [(a_o, (oc11 a_h a_im a_ke a_k a_wa a_th a_ha a_wk a_r a_x e_tl e_fd e_fpl a_wd e_wn a_rf e_lr)), (a_k, (oc5 a_h a_j a_pt z6 z7 z8 z9 z10 z11 z12 z13 z14 z15)), (a_h, (oc1 e_wa e_le e_st e_fo e_lc a_l a_g a_b a_s a_p a_w e_gb a_bb)), (a_g, (oc6 6 5 a_gn e_g)), (a_gn, (arI G 30 f_g)), (a_b, (oc6 5 24 a_bn e_b)), (a_bn, (arI G 120 f_b)), (a_p, (oc6 8 5 a_pn e_p)), (a_pn, (arI G 40 f_p)), (a_bb, (arJ G 24 f_bb)), (a_j, (oc2 a_as a_sk)), (a_as, (arI G 8 z17)), (a_sk, (arJ G 50 z18)), (a_l, (arW G 6 f_l)), (a_pt, (arI G 200 z16))] hP hD (fun hP hD => ?_)
      refine lv_iload hx hb dX11_point_22 (lv_at hl 4 rfl) ?_
      refine lv_if_lt (tgt := 52) hx hb dX11_point_24 (by decide) (fun c_19 => ?_) (fun c_19 => ?_)
      ·
        have i_19 : p_i.toInt < 0 := by have z := g5_lt (a := p_i.toInt) (b := 0) (by rfl) (by decide) c_19; omega
        refine lv_iconst (v := (-1)) hx hb dX11_point_52 (by decide) ?_
        exact W.iret (v := (-1)) hx hb hr (fun t ht hW => ⟨⟨(-1), [(a_o, (oc11 a_h a_im a_ke a_k a_wa a_th a_ha a_wk a_r a_x e_tl e_fd e_fpl a_wd e_wn a_rf e_lr)), (a_k, (oc5 a_h a_j a_pt z6 z7 z8 z9 z10 z11 z12 z13 z14 z15)), (a_h, (oc1 e_wa e_le e_st e_fo e_lc a_l a_g a_b a_s a_p a_w e_gb a_bb)), (a_g, (oc6 6 5 a_gn e_g)), (a_gn, (arI G 30 f_g)), (a_b, (oc6 5 24 a_bn e_b)), (a_bn, (arI G 120 f_b)), (a_p, (oc6 8 5 a_pn e_p)), (a_pn, (arI G 40 f_p)), (a_bb, (arJ G 24 f_bb)), (a_j, (oc2 a_as a_sk)), (a_as, (arI G 8 z17)), (a_sk, (arJ G 50 z18)), (a_l, (arW G 6 f_l)), (a_pt, (arI G 200 z16))], rfl, ⟨(-1), z6, z7, z8, z9, z10, z11, z12, z13, z14, z15, z16, z17, z18, i_4, rfl, rfl⟩, by rw [ht]; exact hP.sub [0, 1, 2, 3, 4, 5, 6, 7, 8, 9, 10, 11, 12, 13, 14] rfl, hD.sub [0, 1, 2, 3, 4, 5, 6, 7, 8, 9, 10, 11, 12, 13, 14] (by decide) rfl⟩, hS.F ht⟩) hS.2.2 dX11_point_53
      ·
        have i_19 : p_i.toInt ≥ 0 := by have z := g5_ltN (a := p_i.toInt) (b := 0) (by rfl) (by decide) c_19; omega
        refine lv_iload hx hb dX11_point_27 (lv_at hl 4 rfl) ?_
        refine lv_aload_n hx hb dX11_point_29 rfl (lv_at hl 0 rfl) ?_
        refine va_get (D := G.1) (ci := 11) (v := .ref a_k) (C := RX11) (T := TX11) (N := 17) hx hb hts inG_X11 hown hK hP 0 rfl rfl 3 (by decide) (hts _ fl_X11_29) (fun _ h9 => h9) rfl dX11_point_30 ?_
        refine va_get (D := G.1) (ci := 5) (v := .int z6) (C := RX5) (T := TX5) (N := 13) hx hb hts inG_X5 hown hK hP 1 rfl rfl 3 (by decide) (hts _ fl_X11_216) (fun _ h9 => h9) rfl dX11_point_33 ?_
        refine lv_icmp_ge (tgt := 52) hx hb dX11_point_36 (by decide) (fun c_20 => ?_) (fun c_20 => ?_)
        ·
          have i_20 : p_i.toInt ≥ z6.toInt := by have z := g5_ge (a := p_i.toInt) (b := z6.toInt) (by rfl) (by rfl) c_20; omega
          refine lv_iconst (v := (-1)) hx hb dX11_point_52 (by decide) ?_
          exact W.iret (v := (-1)) hx hb hr (fun t ht hW => ⟨⟨(-1), [(a_o, (oc11 a_h a_im a_ke a_k a_wa a_th a_ha a_wk a_r a_x e_tl e_fd e_fpl a_wd e_wn a_rf e_lr)), (a_k, (oc5 a_h a_j a_pt z6 z7 z8 z9 z10 z11 z12 z13 z14 z15)), (a_h, (oc1 e_wa e_le e_st e_fo e_lc a_l a_g a_b a_s a_p a_w e_gb a_bb)), (a_g, (oc6 6 5 a_gn e_g)), (a_gn, (arI G 30 f_g)), (a_b, (oc6 5 24 a_bn e_b)), (a_bn, (arI G 120 f_b)), (a_p, (oc6 8 5 a_pn e_p)), (a_pn, (arI G 40 f_p)), (a_bb, (arJ G 24 f_bb)), (a_j, (oc2 a_as a_sk)), (a_as, (arI G 8 z17)), (a_sk, (arJ G 50 z18)), (a_l, (arW G 6 f_l)), (a_pt, (arI G 200 z16))], rfl, ⟨(-1), z6, z7, z8, z9, z10, z11, z12, z13, z14, z15, z16, z17, z18, i_4, rfl, rfl⟩, by rw [ht]; exact hP.sub [0, 1, 2, 3, 4, 5, 6, 7, 8, 9, 10, 11, 12, 13, 14] rfl, hD.sub [0, 1, 2, 3, 4, 5, 6, 7, 8, 9, 10, 11, 12, 13, 14] (by decide) rfl⟩, hS.F ht⟩) hS.2.2 dX11_point_53
        ·
          have i_20 : p_i.toInt < z6.toInt := by have z := g5_geN (a := p_i.toInt) (b := z6.toInt) (by rfl) (by rfl) c_20; omega
          refine lv_aload_n hx hb dX11_point_39 rfl (lv_at hl 0 rfl) ?_
          refine va_get (D := G.1) (ci := 11) (v := .ref a_k) (C := RX11) (T := TX11) (N := 17) hx hb hts inG_X11 hown hK hP 0 rfl rfl 3 (by decide) (hts _ fl_X11_29) (fun _ h9 => h9) rfl dX11_point_40 ?_
          refine va_get (D := G.1) (ci := 5) (v := .ref a_pt) (C := RX5) (T := TX5) (N := 13) hx hb hts inG_X5 hown hK hP 1 rfl rfl 2 (by decide) (hts _ fl_X11_228) (fun _ h9 => h9) rfl dX11_point_43 ?_
          refine lv_iload hx hb dX11_point_46 (lv_at hl 4 rfl) ?_
          refine va_iald hx hb hK hP 14 0 rfl rfl (i := p_i) (vp_in_iff.mpr ⟨by omega, by omega⟩) dX11_point_48 ?_
          refine lv_goto (tgt := 53) hx hb dX11_point_49 (by decide) ?_
          exact W.iret (v := (z16 p_i.toNatClampNeg)) hx hb hr (fun t ht hW => ⟨⟨(z16 p_i.toNatClampNeg), [(a_o, (oc11 a_h a_im a_ke a_k a_wa a_th a_ha a_wk a_r a_x e_tl e_fd e_fpl a_wd e_wn a_rf e_lr)), (a_k, (oc5 a_h a_j a_pt z6 z7 z8 z9 z10 z11 z12 z13 z14 z15)), (a_h, (oc1 e_wa e_le e_st e_fo e_lc a_l a_g a_b a_s a_p a_w e_gb a_bb)), (a_g, (oc6 6 5 a_gn e_g)), (a_gn, (arI G 30 f_g)), (a_b, (oc6 5 24 a_bn e_b)), (a_bn, (arI G 120 f_b)), (a_p, (oc6 8 5 a_pn e_p)), (a_pn, (arI G 40 f_p)), (a_bb, (arJ G 24 f_bb)), (a_j, (oc2 a_as a_sk)), (a_as, (arI G 8 z17)), (a_sk, (arJ G 50 z18)), (a_l, (arW G 6 f_l)), (a_pt, (arI G 200 z16))], rfl, ⟨(z16 p_i.toNatClampNeg), z6, z7, z8, z9, z10, z11, z12, z13, z14, z15, z16, z17, z18, i_4, rfl, rfl⟩, by rw [ht]; exact hP.sub [0, 1, 2, 3, 4, 5, 6, 7, 8, 9, 10, 11, 12, 13, 14] rfl, hD.sub [0, 1, 2, 3, 4, 5, 6, 7, 8, 9, 10, 11, 12, 13, 14] (by decide) rfl⟩, hS.F ht⟩) hS.2.2 dX11_point_53
    ·
      exact absurd c_2 (by decide)
  ·
    have hP := g5_same hP hk1
    generalize H1 = H at hP hS ⊢
    refine lv_if_ne (tgt := 11) hx hb dX11_point_6 (by decide) (fun c_21 => ?_) (fun c_21 => ?_)
    ·
      exact absurd c_21 (by decide)
    ·
      refine lv_iconst (v := (-1)) hx hb dX11_point_9 (by decide) ?_
      exact W.iret (v := (-1)) hx hb hr (fun t ht hW => ⟨⟨(-1), [(a_o, (oc11 a_h a_im a_ke a_k a_wa a_th a_ha a_wk a_r a_x e_tl e_fd e_fpl a_wd e_wn a_rf e_lr)), (a_k, (oc5 a_h a_j a_pt e_ln e_se e_lh e_br e_we e_me e_ce e_wy e_ho e_ov)), (a_h, (oc1 e_wa e_le e_st e_fo e_lc a_l a_g a_b a_s a_p a_w e_gb a_bb)), (a_g, (oc6 6 5 a_gn e_g)), (a_gn, (arI G 30 f_g)), (a_b, (oc6 5 24 a_bn e_b)), (a_bn, (arI G 120 f_b)), (a_p, (oc6 8 5 a_pn e_p)), (a_pn, (arI G 40 f_p)), (a_bb, (arJ G 24 f_bb)), (a_j, (oc2 a_as a_sk)), (a_as, (arI G 8 f_as)), (a_sk, (arJ G 50 f_sk)), (a_l, (arW G 6 f_l)), (a_pt, (arI G 200 f_pt))], rfl, ⟨(-1), e_ln, e_se, e_lh, e_br, e_we, e_me, e_ce, e_wy, e_ho, e_ov, f_pt, f_as, f_sk, h_e_ov, rfl, rfl⟩, by rw [ht]; exact hP.sub [0, 1, 2, 3, 4, 5, 6, 7, 8, 9, 10, 11, 12, 13, 14] rfl, hD.sub [0, 1, 2, 3, 4, 5, 6, 7, 8, 9, 10, 11, 12, 13, 14] (by decide) rfl⟩, hS.F ht⟩) hS.2.2 dX11_point_10
theorem dgX11_sees_0 : ∀ r ∈ ([(0, (.iload_n 1, 1)), (1, (.invokestatic 97, 3)), (4, (.ifCond .eq 10, 3)), (7, (.iload_n 2, 1)), (8, (.invokestatic 127, 3)), (11, (.ifCond .ne 5, 3)), (14, (.iconst (-1), 1)), (15, (.ireturn, 1)), (16, (.aload_n 0, 1)), (17, (.getfield 29, 3)), (20, (.iload_n 1, 1)), (21, (.iload_n 2, 1)), (22, (.invokevirtual 231, 3)), (25, (.ireturn, 1))] : List (Nat × (Instr × Nat))), decode cX11_sees r.1 = .ok r.2 := by decide +kernel
theorem dX11_sees_0 : decode cX11_sees 0 = .ok (.iload_n 1, 1) := dgX11_sees_0 (0, (.iload_n 1, 1)) (List.mem_of_getElem? (i := 0) rfl)
theorem dX11_sees_1 : decode cX11_sees 1 = .ok (.invokestatic 97, 3) := dgX11_sees_0 (1, (.invokestatic 97, 3)) (List.mem_of_getElem? (i := 1) rfl)
theorem dX11_sees_4 : decode cX11_sees 4 = .ok (.ifCond .eq 10, 3) := dgX11_sees_0 (4, (.ifCond .eq 10, 3)) (List.mem_of_getElem? (i := 2) rfl)
theorem dX11_sees_7 : decode cX11_sees 7 = .ok (.iload_n 2, 1) := dgX11_sees_0 (7, (.iload_n 2, 1)) (List.mem_of_getElem? (i := 3) rfl)
theorem dX11_sees_8 : decode cX11_sees 8 = .ok (.invokestatic 127, 3) := dgX11_sees_0 (8, (.invokestatic 127, 3)) (List.mem_of_getElem? (i := 4) rfl)
theorem dX11_sees_11 : decode cX11_sees 11 = .ok (.ifCond .ne 5, 3) := dgX11_sees_0 (11, (.ifCond .ne 5, 3)) (List.mem_of_getElem? (i := 5) rfl)
theorem dX11_sees_14 : decode cX11_sees 14 = .ok (.iconst (-1), 1) := dgX11_sees_0 (14, (.iconst (-1), 1)) (List.mem_of_getElem? (i := 6) rfl)
theorem dX11_sees_15 : decode cX11_sees 15 = .ok (.ireturn, 1) := dgX11_sees_0 (15, (.ireturn, 1)) (List.mem_of_getElem? (i := 7) rfl)
theorem dX11_sees_16 : decode cX11_sees 16 = .ok (.aload_n 0, 1) := dgX11_sees_0 (16, (.aload_n 0, 1)) (List.mem_of_getElem? (i := 8) rfl)
theorem dX11_sees_17 : decode cX11_sees 17 = .ok (.getfield 29, 3) := dgX11_sees_0 (17, (.getfield 29, 3)) (List.mem_of_getElem? (i := 9) rfl)
theorem dX11_sees_20 : decode cX11_sees 20 = .ok (.iload_n 1, 1) := dgX11_sees_0 (20, (.iload_n 1, 1)) (List.mem_of_getElem? (i := 10) rfl)
theorem dX11_sees_21 : decode cX11_sees 21 = .ok (.iload_n 2, 1) := dgX11_sees_0 (21, (.iload_n 2, 1)) (List.mem_of_getElem? (i := 11) rfl)
theorem dX11_sees_22 : decode cX11_sees 22 = .ok (.invokevirtual 231, 3) := dgX11_sees_0 (22, (.invokevirtual 231, 3)) (List.mem_of_getElem? (i := 12) rfl)
theorem dX11_sees_25 : decode cX11_sees 25 = .ok (.ireturn, 1) := dgX11_sees_0 (25, (.ireturn, 1)) (List.mem_of_getElem? (i := 13) rfl)
theorem ml_X11_231 : Cond.methodLink RX11 231 yX5_bodiesFrom ∈ tblG := tg 878 (by decide +kernel) (by decide +kernel)
theorem im_X5_bodiesFrom : Cond.instanceMethod yX5_bodiesFrom ∈ tblG := tg 879 (by decide +kernel) (by decide +kernel)
theorem se_X5_bodiesFrom : Cond.selects RX5 yX5_bodiesFrom yX5_bodiesFrom ∈ tblG := tg 880 (by decide +kernel) (by decide +kernel)
theorem cd_X5_bodiesFrom : Cond.code yX5_bodiesFrom cX5_bodiesFrom 5 (some .int) ∈ tblG := tg 881 (by decide +kernel) (by decide +kernel)
theorem gW_X5_bodiesFrom : GoodIn tblG (wsG yX5_bodiesFrom cX5_bodiesFrom 5 (some .int)) := tgi cd_X5_bodiesFrom
theorem gV_X11_231 : GoodIn tblG (wsV RX11 231 RX5 yX5_bodiesFrom (wsG yX5_bodiesFrom cX5_bodiesFrom 5 (some .int))) := tgV ml_X11_231 im_X5_bodiesFrom se_X5_bodiesFrom ini_X5 gW_X5_bodiesFrom
theorem hv_X5_bodiesFrom : yX5_bodiesFrom.cls = RX5 ∧ yX5_bodiesFrom.cls ≠ "java/lang/invoke/MethodHandle" ∧ yX5_bodiesFrom.cls ≠ "java/lang/invoke/VarHandle" ∧ (parseMethodDescriptor yX5_bodiesFrom.desc).map (fun d => d.parameters.length) = some 2 := by decide +kernel
set_option maxHeartbeats 4000000 in
set_option maxRecDepth 100000 in
theorem x_seesN (l : Launch) (G : g5_G) (a_o a_k a_h a_g a_gn a_b a_bn a_p a_pn a_bb a_j a_as a_sk a_l a_pt a_im a_ke a_wa a_th a_ha a_wk a_r a_x a_wd a_rf a_s a_w : Nat) (sz : Nat) (e_tl : Int32) (e_fd : Int32) (e_fpl : Int32) (e_wn : Int32) (e_lr : Int32) (e_le : Int32) (e_st : Int32) (e_fo : Int32) (e_lc : Int32) (e_g : Int32) (e_b : Int32) (e_p : Int32) (e_ln : Int32) (e_se : Int32) (e_lh : Int32) (e_br : Int32) (e_we : Int32) (e_me : Int32) (e_ce : Int32) (e_wy : Int32) (e_ho : Int32) (e_ov : Int32) (p_c : Int32) (p_h : Int32) (e_wa : Int64) (e_gb : Int64) (f_g : Nat → Int32) (f_b : Nat → Int32) (f_p : Nat → Int32) (f_bb : Nat → Int64) (f_as : Nat → Int32) (f_sk : Nat → Int64) (f_l : Nat → Option Nat) (f_pt : Nat → Int32) (h_e_tl : 0 ≤ e_tl.toInt ∧ e_tl.toInt ≤ 400) (h_e_wn : 0 ≤ e_wn.toInt ∧ e_wn.toInt ≤ 1) (h_e_g : 0 ≤ e_g.toInt ∧ e_g.toInt ≤ 6) (h_e_b : 0 ≤ e_b.toInt ∧ e_b.toInt ≤ 5) (h_e_p : 0 ≤ e_p.toInt ∧ e_p.toInt ≤ 8) (h_e_ov : 0 ≤ e_ov.toInt ∧ e_ov.toInt ≤ 1) (e_gk : gOK f_g e_g.toInt) (e_pk : gOK f_p e_p.toInt) (e_gi : inT e_gb f_g e_g.toInt) (e_f : e_fo.toInt < 0 ∨ e_lc.toInt ≤ e_fo.toInt) : Met l yX11_sees (wsG yX11_sees cX11_sees 3 (some .int)) ({ frames := 15, cells := 0, slots := 0, locals := 580 }) (va_Pc [.ref a_o, .int p_c, .int p_h] (g5_P G [(a_o, (oc11 a_h a_im a_ke a_k a_wa a_th a_ha a_wk a_r a_x e_tl e_fd e_fpl a_wd e_wn a_rf e_lr)), (a_k, (oc5 a_h a_j a_pt e_ln e_se e_lh e_br e_we e_me e_ce e_wy e_ho e_ov)), (a_h, (oc1 e_wa e_le e_st e_fo e_lc a_l a_g a_b a_s a_p a_w e_gb a_bb)), (a_g, (oc6 6 5 a_gn e_g)), (a_gn, (arI G 30 f_g)), (a_b, (oc6 5 24 a_bn e_b)), (a_bn, (arI G 120 f_b)), (a_p, (oc6 8 5 a_pn e_p)), (a_pn, (arI G 40 f_p)), (a_bb, (arJ G 24 f_bb)), (a_j, (oc2 a_as a_sk)), (a_as, (arI G 8 f_as)), (a_sk, (arJ G 50 f_sk)), (a_l, (arW G 6 f_l)), (a_pt, (arI G 200 f_pt))] sz)) (va_Qi (fun (r : Int32) (u : va_W) => (∃ (o_r : Int32) (o_ln : Int32) (o_se : Int32) (o_lh : Int32) (o_br : Int32) (o_we : Int32) (o_me : Int32) (o_ce : Int32) (o_wy : Int32) (o_ho : Int32) (o_ov : Int32) (o_pt : Nat → Int32) (o_as : Nat → Int32) (o_sk : Nat → Int64), (0 ≤ o_ov.toInt ∧ o_ov.toInt ≤ 1) ∧ (r = o_r) ∧ (u = [(a_o, (oc11 a_h a_im a_ke a_k a_wa a_th a_ha a_wk a_r a_x e_tl e_fd e_fpl a_wd e_wn a_rf e_lr)), (a_k, (oc5 a_h a_j a_pt o_ln o_se o_lh o_br o_we o_me o_ce o_wy o_ho o_ov)), (a_h, (oc1 e_wa e_le e_st e_fo e_lc a_l a_g a_b a_s a_p a_w e_gb a_bb)), (a_g, (oc6 6 5 a_gn e_g)), (a_gn, (arI G 30 f_g)), (a_b, (oc6 5 24 a_bn e_b)), (a_bn, (arI G 120 f_b)), (a_p, (oc6 8 5 a_pn e_p)), (a_pn, (arI G 40 f_p)), (a_bb, (arJ G 24 f_bb)), (a_j, (oc2 a_as a_sk)), (a_as, (arI G 8 o_as)), (a_sk, (arJ G 50 o_sk)), (a_l, (arW G 6 f_l)), (a_pt, (arI G 200 o_pt))]))) (g5_B G (va_A [(a_o, (oc11 a_h a_im a_ke a_k a_wa a_th a_ha a_wk a_r a_x e_tl e_fd e_fpl a_wd e_wn a_rf e_lr)), (a_k, (oc5 a_h a_j a_pt e_ln e_se e_lh e_br e_we e_me e_ce e_wy e_ho e_ov)), (a_h, (oc1 e_wa e_le e_st e_fo e_lc a_l a_g a_b a_s a_p a_w e_gb a_bb)), (a_g, (oc6 6 5 a_gn e_g)), (a_gn, (arI G 30 f_g)), (a_b, (oc6 5 24 a_bn e_b)), (a_bn, (arI G 120 f_b)), (a_p, (oc6 8 5 a_pn e_p)), (a_pn, (arI G 40 f_p)), (a_bb, (arJ G 24 f_bb)), (a_j, (oc2 a_as a_sk)), (a_as, (arI G 8 f_as)), (a_sk, (arJ G 50 f_sk)), (a_l, (arW G 6 f_l)), (a_pt, (arI G 200 f_pt))] sz)) (va_A [(a_o, (oc11 a_h a_im a_ke a_k a_wa a_th a_ha a_wk a_r a_x e_tl e_fd e_fpl a_wd e_wn a_rf e_lr)), (a_k, (oc5 a_h a_j a_pt e_ln e_se e_lh e_br e_we e_me e_ce e_wy e_ho e_ov)), (a_h, (oc1 e_wa e_le e_st e_fo e_lc a_l a_g a_b a_s a_p a_w e_gb a_bb)), (a_g, (oc6 6 5 a_gn e_g)), (a_gn, (arI G 30 f_g)), (a_b, (oc6 5 24 a_bn e_b)), (a_bn, (arI G 120 f_b)), (a_p, (oc6 8 5 a_pn e_p)), (a_pn, (arI G 40 f_p)), (a_bb, (arJ G 24 f_bb)), (a_j, (oc2 a_as a_sk)), (a_as, (arI G 8 f_as)), (a_sk, (arJ G 50 f_sk)), (a_l, (arW G 6 f_l)), (a_pt, (arI G 200 f_pt))] sz)) 0 0 (va_A [(a_o, (oc11 a_h a_im a_ke a_k a_wa a_th a_ha a_wk a_r a_x e_tl e_fd e_fpl a_wd e_wn a_rf e_lr)), (a_k, (oc5 a_h a_j a_pt e_ln e_se e_lh e_br e_we e_me e_ce e_wy e_ho e_ov)), (a_h, (oc1 e_wa e_le e_st e_fo e_lc a_l a_g a_b a_s a_p a_w e_gb a_bb)), (a_g, (oc6 6 5 a_gn e_g)), (a_gn, (arI G 30 f_g)), (a_b, (oc6 5 24 a_bn e_b)), (a_bn, (arI G 120 f_b)), (a_p, (oc6 8 5 a_pn e_p)), (a_pn, (arI G 40 f_p)), (a_bb, (arJ G 24 f_bb)), (a_j, (oc2 a_as a_sk)), (a_as, (arI G 8 f_as)), (a_sk, (arJ G 50 f_sk)), (a_l, (arW G 6 f_l)), (a_pt, (arI G 200 f_pt))] sz) := by
  refine Met.ofW (cc := cX11_sees) (maxL := 3) (ret := (some .int)) (by decide) rfl ?_
  intro p e s m args below meth c s₁ B hml hv
  obtain ⟨rfl, hsz, hP, hK, hD0, hN, hT⟩ := hv
  have hx := B.exec
  have hb := B.bytes
  have hr := B.returns
  have hts : ∀ w ∈ tblG, w.before _ s = true := fun w h => atoms_spec (ws := (wsG yX11_sees cX11_sees 3 (some .int))) B.pre w (List.mem_cons_of_mem _ h)
  have hown : s.vm.findClass RX11 = some m.cls := findClass_of_methodNamed B.named
  have hlocks := B.notSynchronized
  subst hsz
  have hD := hD0.self (sz := s.heap.size)
  generalize hAe : va_A [(a_o, (oc11 a_h a_im a_ke a_k a_wa a_th a_ha a_wk a_r a_x e_tl e_fd e_fpl a_wd e_wn a_rf e_lr)), (a_k, (oc5 a_h a_j a_pt e_ln e_se e_lh e_br e_we e_me e_ce e_wy e_ho e_ov)), (a_h, (oc1 e_wa e_le e_st e_fo e_lc a_l a_g a_b a_s a_p a_w e_gb a_bb)), (a_g, (oc6 6 5 a_gn e_g)), (a_gn, (arI G 30 f_g)), (a_b, (oc6 5 24 a_bn e_b)), (a_bn, (arI G 120 f_b)), (a_p, (oc6 8 5 a_pn e_p)), (a_pn, (arI G 40 f_p)), (a_bb, (arJ G 24 f_bb)), (a_j, (oc2 a_as a_sk)), (a_as, (arI G 8 f_as)), (a_sk, (arJ G 50 f_sk)), (a_l, (arW G 6 f_l)), (a_pt, (arI G 200 f_pt))] s.heap.size = A at hD hT ⊢
  have hA : ∀ q : Nat, s.heap.size ≤ q → A q := fun q h => by rw [← hAe]; exact Or.inr h
  have hS : va_S A s.heap s.heap [] := va_S.rf
  have hP : va_P G.1 vwCl [(a_o, (oc11 a_h a_im a_ke a_k a_wa a_th a_ha a_wk a_r a_x e_tl e_fd e_fpl a_wd e_wn a_rf e_lr)), (a_k, (oc5 a_h a_j a_pt e_ln e_se e_lh e_br e_we e_me e_ce e_wy e_ho e_ov)), (a_h, (oc1 e_wa e_le e_st e_fo e_lc a_l a_g a_b a_s a_p a_w e_gb a_bb)), (a_g, (oc6 6 5 a_gn e_g)), (a_gn, (arI G 30 f_g)), (a_b, (oc6 5 24 a_bn e_b)), (a_bn, (arI G 120 f_b)), (a_p, (oc6 8 5 a_pn e_p)), (a_pn, (arI G 40 f_p)), (a_bb, (arJ G 24 f_bb)), (a_j, (oc2 a_as a_sk)), (a_as, (arI G 8 f_as)), (a_sk, (arJ G 50 f_sk)), (a_l, (arW G 6 f_l)), (a_pt, (arI G 200 f_pt))] s.heap := hP
  have hl := lv_entry ([.ref a_o, .int p_c, .int p_h]) (n := 3) (Nat.le_of_ble_eq_true rfl)
  rw [lg_entry_eq]
  generalize (lg_sl ([.ref a_o, .int p_c, .int p_h]) ++ List.replicate (3 - (lg_sl ([.ref a_o, .int p_c, .int p_h])).length) Slot.unset).toArray = ls at hl ⊢
  have hl : lv_has ls 3 [(0, .ref a_o), (1, .int p_c), (2, .int p_h)] := hl
  refine lv_iload_n hx hb dX11_sees_0 rfl (lv_at hl 1 rfl) ?_
  obtain ⟨hPc, hDc, hFc⟩ := g5_sub3 (wc := []) hP hD hS hA [] (by decide) rfl
  refine va_calli (va_runS (As := [.int p_c]) (rest := []) ⟨hx, hb, hml, hown, hts⟩ (x_isCell l G s.heap.size p_c) (va_cwS 1 hts gS_X11_97 rfl rfl rfl hs_X11_isCell ⟨Nat.le_of_ble_eq_true rfl, Nat.le_of_ble_eq_true rfl⟩) (g5_preS hPc hK hDc hN hT hS hFc) rfl rfl hl.1 rfl (lv_room (Nat.le_of_ble_eq_true rfl)) dX11_sees_1 ⟨Nat.le_of_ble_eq_true rfl, Nat.le_of_ble_eq_true rfl⟩) hS (fun q _ h => hFc q h) hFc (fun r u t H1 locs ht hvm hw hB hz1 hk1 hS => ?_)
  obtain ⟨hP1, hD1⟩ := hB
  rw [ht] at hP1
  rcases hw with ⟨i_1, rfl, rfl⟩ | ⟨rfl, rfl⟩
  ·
    have i_1 : 0 ≤ p_c.toInt ∧ p_c.toInt ≤ 63 := i_1
    have hP := g5_same hP hk1
    generalize H1 = H at hP hS ⊢
    refine lv_if_eq (tgt := 14) hx hb dX11_sees_4 (by decide) (fun c_2 => ?_) (fun c_2 => ?_)
    ·
      exact absurd c_2 (by decide)
    ·
      refine lv_iload_n hx hb dX11_sees_7 rfl (lv_at hl 2 rfl) ?_
      obtain ⟨hPc, hDc, hFc⟩ := g5_sub3 (wc := []) hP hD hS hA [] (by decide) rfl
      refine va_calli (va_runS (As := [.int p_h]) (rest := []) ⟨hx, hb, hml, hown, hts⟩ (x_isHour l G H.size p_h) (va_cwS 1 hts gS_X11_127 rfl rfl rfl hs_X11_isHour ⟨Nat.le_of_ble_eq_true rfl, Nat.le_of_ble_eq_true rfl⟩) (g5_preS hPc hK hDc hN hT hS hFc) rfl rfl hl.1 rfl (lv_room (Nat.le_of_ble_eq_true rfl)) dX11_sees_8 ⟨Nat.le_of_ble_eq_true rfl, Nat.le_of_ble_eq_true rfl⟩) hS (fun q _ h => hFc q h) hFc (fun r u t H1 locs ht hvm hw hB hz1 hk1 hS => ?_)
      obtain ⟨hP1, hD1⟩ := hB
      rw [ht] at hP1
      rcases hw with ⟨i_3, rfl, rfl⟩ | ⟨rfl, rfl⟩
      ·
        have i_3 : 0 ≤ p_h.toInt ∧ p_h.toInt ≤ 23 := i_3
        have hP := g5_same hP hk1
        generalize H1 = H at hP hS ⊢
        refine lv_if_ne (tgt := 16) hx hb dX11_sees_11 (by decide) (fun c_4 => ?_) (fun c_4 => ?_)
        ·
          refine lv_aload_n hx hb dX11_sees_16 rfl (lv_at hl 0 rfl) ?_
          refine va_get (D := G.1) (ci := 11) (v := .ref a_k) (C := RX11) (T := TX11) (N := 17) hx hb hts inG_X11 hown hK hP 0 rfl rfl 3 (by decide) (hts _ fl_X11_29) (fun _ h9 => h9) rfl dX11_sees_17 ?_
          refine lv_iload_n hx hb dX11_sees_20 rfl (lv_at hl 1 rfl) ?_
          refine lv_iload_n hx hb dX11_sees_21 rfl (lv_at hl 2 rfl) ?_
          obtain ⟨hPc, hDc, hFc⟩ := g5_sub3 (wc := [(a_k, (oc5 a_h a_j a_pt e_ln e_se e_lh e_br e_we e_me e_ce e_wy e_ho e_ov)), (a_h, (oc1 e_wa e_le e_st e_fo e_lc a_l a_g a_b a_s a_p a_w e_gb a_bb)), (a_g, (oc6 6 5 a_gn e_g)), (a_gn, (arI G 30 f_g)), (a_b, (oc6 5 24 a_bn e_b)), (a_bn, (arI G 120 f_b)), (a_p, (oc6 8 5 a_pn e_p)), (a_pn, (arI G 40 f_p)), (a_bb, (arJ G 24 f_bb)), (a_j, (oc2 a_as a_sk)), (a_as, (arI G 8 f_as)), (a_sk, (arJ G 50 f_sk)), (a_l, (arW G 6 f_l)), (a_pt, (arI G 200 f_pt))]) hP hD hS hA [1, 2, 3, 4, 5, 6, 7, 8, 9, 10, 11, 12, 13, 14] (by decide) rfl
          refine va_calli (va_runV (As := [.int p_c, .int p_h]) (rest := []) ⟨hx, hb, hml, hown, hts⟩ (s_bodiesFromN l G a_k a_h a_g a_gn a_b a_bn a_p a_pn a_bb a_j a_as a_sk a_l a_pt a_s a_w H.size e_le e_st e_fo e_lc e_g e_b e_p e_ln e_se e_lh e_br e_we e_me e_ce e_wy e_ho e_ov p_c p_h e_wa e_gb f_g f_b f_p f_bb f_as f_sk f_l f_pt h_e_g h_e_b h_e_p h_e_ov (e_gk) (e_pk) (e_gi) (e_f)) (cwV 2 hts gV_X11_231 rfl rfl rfl hv_X5_bodiesFrom ⟨Nat.le_of_ble_eq_true rfl, Nat.le_of_ble_eq_true rfl⟩) (g5_preV hPc hK hDc hN hT hS hFc (ci := 5) (q0 := 0) rfl rfl) rfl rfl hl.1 rfl (lv_room (Nat.le_of_ble_eq_true rfl)) dX11_sees_22 ⟨Nat.le_of_ble_eq_true rfl, Nat.le_of_ble_eq_true rfl⟩) hS (fun q _ h => hFc q h) hFc (fun r u t H1 locs ht hvm hw hB hz1 hk1 hS => ?_)
          obtain ⟨hP1, hD1⟩ := hB
          rw [ht] at hP1
          obtain ⟨z6, z7, z8, z9, z10, z11, z12, z13, z14, z15, z16, z17, z18, z19, i_5, y20, rfl⟩ := hw
          have i_5 : 0 ≤ z16.toInt ∧ z16.toInt ≤ 1 := i_5
          obtain ⟨hP, hD⟩ := va_join (wr := [(a_o, (oc11 a_h a_im a_ke a_k a_wa a_th a_ha a_wk a_r a_x e_tl e_fd e_fpl a_wd e_wn a_rf e_lr))]) hP hD [1, 2, 3, 4, 5, 6, 7, 8, 9, 10, 11, 12, 13, 14] [0] rfl rfl (by decide) (by decide) hk1 hFc hP1 hD1
          generalize H1 = H at hP hS ⊢
          refine g5_rs [(a_o, (oc11 a_h a_im a_ke a_k a_wa a_th a_ha a_wk a_r a_x e_tl e_fd e_fpl a_wd e_wn a_rf e_lr)), (a_k, (oc5 a_h a_j a_pt z7 z8 z9 z10 z11 z12 z13 z14 z15 z16)), (a_h, (oc1 e_wa e_le e_st e_fo e_lc a_l a_g a_b a_s a_p a_w e_gb a_bb)), (a_g, (oc6 6 5 a_gn e_g)), (a_gn, (arI G 30 f_g)), (a_b, (oc6 5 24 a_bn e_b)), (a_bn, (arI G 120 f_b)), (a_p, (oc6 8 5 a_pn e_p)), (a_pn, (arI G 40 f_p)), (a_bb, (arJ G 24 f_bb)), (a_j, (oc2 a_as a_sk)), (a_as, (arI G 8 z18)), (a_sk, (arJ G 50 z19)), (a_l, (arW G 6 f_l)), (a_pt, (arI G 200 z17))] hP hD (fun hP hD => ?_)
          refine g5_ti (v := z6) y20 ?_
          exact W.iret (v := z6) hx hb hr (fun t ht hW => ⟨⟨z6, [(a_o, (oc11 a_h a_im a_ke a_k a_wa a_th a_ha a_wk a_r a_x e_tl e_fd e_fpl a_wd e_wn a_rf e_lr)), (a_k, (oc5 a_h a_j a_pt z7 z8 z9 z10 z11 z12 z13 z14 z15 z16)), (a_h, (oc1 e_wa e_le e_st e_fo e_lc a_l a_g a_b a_s a_p a_w e_gb a_bb)), (a_g, (oc6 6 5 a_gn e_g)), (a_gn, (arI G 30 f_g)), (a_b, (oc6 5 24 a_bn e_b)), (a_bn, (arI G 120 f_b)), (a_p, (oc6 8 5 a_pn e_p)), (a_pn, (arI G 40 f_p)), (a_bb, (arJ G 24 f_bb)), (a_j, (oc2 a_as a_sk)), (a_as, (arI G 8 z18)), (a_sk, (arJ G 50 z19)), (a_l, (arW G 6 f_l)), (a_pt, (arI G 200 z17))], rfl, ⟨z6, z7, z8, z9, z10, z11, z12, z13, z14, z15, z16, z17, z18, z19, i_5, rfl, rfl⟩, by rw [ht]; exact hP.sub [0, 1, 2, 3, 4, 5, 6, 7, 8, 9, 10, 11, 12, 13, 14] rfl, hD.sub [0, 1, 2, 3, 4, 5, 6, 7, 8, 9, 10, 11, 12, 13, 14] (by decide) rfl⟩, hS.F ht⟩) hS.2.2 dX11_sees_25
        ·
          exact absurd c_4 (by decide)
      ·
        have hP := g5_same hP hk1
        generalize H1 = H at hP hS ⊢
        refine lv_if_ne (tgt := 16) hx hb dX11_sees_11 (by decide) (fun c_21 => ?_) (fun c_21 => ?_)
        ·
          exact absurd c_21 (by decide)
        ·
          refine lv_iconst (v := (-1)) hx hb dX11_sees_14 (by decide) ?_
          exact W.iret (v := (-1)) hx hb hr (fun t ht hW => ⟨⟨(-1), [(a_o, (oc11 a_h a_im a_ke a_k a_wa a_th a_ha a_wk a_r a_x e_tl e_fd e_fpl a_wd e_wn a_rf e_lr)), (a_k, (oc5 a_h a_j a_pt e_ln e_se e_lh e_br e_we e_me e_ce e_wy e_ho e_ov)), (a_h, (oc1 e_wa e_le e_st e_fo e_lc a_l a_g a_b a_s a_p a_w e_gb a_bb)), (a_g, (oc6 6 5 a_gn e_g)), (a_gn, (arI G 30 f_g)), (a_b, (oc6 5 24 a_bn e_b)), (a_bn, (arI G 120 f_b)), (a_p, (oc6 8 5 a_pn e_p)), (a_pn, (arI G 40 f_p)), (a_bb, (arJ G 24 f_bb)), (a_j, (oc2 a_as a_sk)), (a_as, (arI G 8 f_as)), (a_sk, (arJ G 50 f_sk)), (a_l, (arW G 6 f_l)), (a_pt, (arI G 200 f_pt))], rfl, ⟨(-1), e_ln, e_se, e_lh, e_br, e_we, e_me, e_ce, e_wy, e_ho, e_ov, f_pt, f_as, f_sk, h_e_ov, rfl, rfl⟩, by rw [ht]; exact hP.sub [0, 1, 2, 3, 4, 5, 6, 7, 8, 9, 10, 11, 12, 13, 14] rfl, hD.sub [0, 1, 2, 3, 4, 5, 6, 7, 8, 9, 10, 11, 12, 13, 14] (by decide) rfl⟩, hS.F ht⟩) hS.2.2 dX11_sees_15
  ·
    have hP := g5_same hP hk1
    generalize H1 = H at hP hS ⊢
    refine lv_if_eq (tgt := 14) hx hb dX11_sees_4 (by decide) (fun c_22 => ?_) (fun c_22 => ?_)
    ·
      refine lv_iconst (v := (-1)) hx hb dX11_sees_14 (by decide) ?_
      exact W.iret (v := (-1)) hx hb hr (fun t ht hW => ⟨⟨(-1), [(a_o, (oc11 a_h a_im a_ke a_k a_wa a_th a_ha a_wk a_r a_x e_tl e_fd e_fpl a_wd e_wn a_rf e_lr)), (a_k, (oc5 a_h a_j a_pt e_ln e_se e_lh e_br e_we e_me e_ce e_wy e_ho e_ov)), (a_h, (oc1 e_wa e_le e_st e_fo e_lc a_l a_g a_b a_s a_p a_w e_gb a_bb)), (a_g, (oc6 6 5 a_gn e_g)), (a_gn, (arI G 30 f_g)), (a_b, (oc6 5 24 a_bn e_b)), (a_bn, (arI G 120 f_b)), (a_p, (oc6 8 5 a_pn e_p)), (a_pn, (arI G 40 f_p)), (a_bb, (arJ G 24 f_bb)), (a_j, (oc2 a_as a_sk)), (a_as, (arI G 8 f_as)), (a_sk, (arJ G 50 f_sk)), (a_l, (arW G 6 f_l)), (a_pt, (arI G 200 f_pt))], rfl, ⟨(-1), e_ln, e_se, e_lh, e_br, e_we, e_me, e_ce, e_wy, e_ho, e_ov, f_pt, f_as, f_sk, h_e_ov, rfl, rfl⟩, by rw [ht]; exact hP.sub [0, 1, 2, 3, 4, 5, 6, 7, 8, 9, 10, 11, 12, 13, 14] rfl, hD.sub [0, 1, 2, 3, 4, 5, 6, 7, 8, 9, 10, 11, 12, 13, 14] (by decide) rfl⟩, hS.F ht⟩) hS.2.2 dX11_sees_15
    ·
      exact absurd c_22 (by decide)
theorem dgX11_late_0 : ∀ r ∈ ([(0, (.aload_n 0, 1)), (1, (.getfield 12, 3)), (4, (.getfield 167, 3)), (7, (.iload_n 2, 1)), (8, (.invokevirtual 160, 3)), (11, (.ifCond .ne 5, 3)), (14, (.iconst (-1), 1)), (15, (.ireturn, 1)), (16, (.aload_n 0, 1)), (17, (.getfield 12, 3)), (20, (.getfield 167, 3)), (23, (.iload_n 1, 1)), (24, (.iload_n 3, 1)), (25, (.invokevirtual 163, 3)), (28, (.istore 4, 2)), (30, (.iload 4, 2)), (32, (.iconst (-1), 1)), (33, (.if_icmp .ne 7, 3)), (36, (.iconst (-1), 1)), (37, (.goto 14, 3)), (40, (.aload_n 0, 1)), (41, (.getfield 29, 3)), (44, (.iload 4, 2)), (46, (.iload_n 3, 1)), (47, (.iload_n 2, 1)), (48, (.invokevirtual 234, 3)), (51, (.ireturn, 1))] : List (Nat × (Instr × Nat))), decode cX11_late r.1 = .ok r.2 := by decide +kernel
theorem dX11_late_0 : decode cX11_late 0 = .ok (.aload_n 0, 1) := dgX11_late_0 (0, (.aload_n 0, 1)) (List.mem_of_getElem? (i := 0) rfl)
theorem dX11_late_1 : decode cX11_late 1 = .ok (.getfield 12, 3) := dgX11_late_0 (1, (.getfield 12, 3)) (List.mem_of_getElem? (i := 1) rfl)
theorem dX11_late_4 : decode cX11_late 4 = .ok (.getfield 167, 3) := dgX11_late_0 (4, (.getfield 167, 3)) (List.mem_of_getElem? (i := 2) rfl)
theorem dX11_late_7 : decode cX11_late 7 = .ok (.iload_n 2, 1) := dgX11_late_0 (7, (.iload_n 2, 1)) (List.mem_of_getElem? (i := 3) rfl)
theorem dX11_late_8 : decode cX11_late 8 = .ok (.invokevirtual 160, 3) := dgX11_late_0 (8, (.invokevirtual 160, 3)) (List.mem_of_getElem? (i := 4) rfl)
theorem dX11_late_11 : decode cX11_late 11 = .ok (.ifCond .ne 5, 3) := dgX11_late_0 (11, (.ifCond .ne 5, 3)) (List.mem_of_getElem? (i := 5) rfl)
theorem dX11_late_14 : decode cX11_late 14 = .ok (.iconst (-1), 1) := dgX11_late_0 (14, (.iconst (-1), 1)) (List.mem_of_getElem? (i := 6) rfl)
theorem dX11_late_15 : decode cX11_late 15 = .ok (.ireturn, 1) := dgX11_late_0 (15, (.ireturn, 1)) (List.mem_of_getElem? (i := 7) rfl)
theorem dX11_late_16 : decode cX11_late 16 = .ok (.aload_n 0, 1) := dgX11_late_0 (16, (.aload_n 0, 1)) (List.mem_of_getElem? (i := 8) rfl)
theorem dX11_late_17 : decode cX11_late 17 = .ok (.getfield 12, 3) := dgX11_late_0 (17, (.getfield 12, 3)) (List.mem_of_getElem? (i := 9) rfl)
theorem dX11_late_20 : decode cX11_late 20 = .ok (.getfield 167, 3) := dgX11_late_0 (20, (.getfield 167, 3)) (List.mem_of_getElem? (i := 10) rfl)
theorem dX11_late_23 : decode cX11_late 23 = .ok (.iload_n 1, 1) := dgX11_late_0 (23, (.iload_n 1, 1)) (List.mem_of_getElem? (i := 11) rfl)
theorem dX11_late_24 : decode cX11_late 24 = .ok (.iload_n 3, 1) := dgX11_late_0 (24, (.iload_n 3, 1)) (List.mem_of_getElem? (i := 12) rfl)
theorem dX11_late_25 : decode cX11_late 25 = .ok (.invokevirtual 163, 3) := dgX11_late_0 (25, (.invokevirtual 163, 3)) (List.mem_of_getElem? (i := 13) rfl)
theorem dX11_late_28 : decode cX11_late 28 = .ok (.istore 4, 2) := dgX11_late_0 (28, (.istore 4, 2)) (List.mem_of_getElem? (i := 14) rfl)
theorem dX11_late_30 : decode cX11_late 30 = .ok (.iload 4, 2) := dgX11_late_0 (30, (.iload 4, 2)) (List.mem_of_getElem? (i := 15) rfl)
theorem dX11_late_32 : decode cX11_late 32 = .ok (.iconst (-1), 1) := dgX11_late_0 (32, (.iconst (-1), 1)) (List.mem_of_getElem? (i := 16) rfl)
theorem dX11_late_33 : decode cX11_late 33 = .ok (.if_icmp .ne 7, 3) := dgX11_late_0 (33, (.if_icmp .ne 7, 3)) (List.mem_of_getElem? (i := 17) rfl)
theorem dX11_late_36 : decode cX11_late 36 = .ok (.iconst (-1), 1) := dgX11_late_0 (36, (.iconst (-1), 1)) (List.mem_of_getElem? (i := 18) rfl)
theorem dX11_late_37 : decode cX11_late 37 = .ok (.goto 14, 3) := dgX11_late_0 (37, (.goto 14, 3)) (List.mem_of_getElem? (i := 19) rfl)
theorem dX11_late_40 : decode cX11_late 40 = .ok (.aload_n 0, 1) := dgX11_late_0 (40, (.aload_n 0, 1)) (List.mem_of_getElem? (i := 20) rfl)
theorem dX11_late_41 : decode cX11_late 41 = .ok (.getfield 29, 3) := dgX11_late_0 (41, (.getfield 29, 3)) (List.mem_of_getElem? (i := 21) rfl)
theorem dX11_late_44 : decode cX11_late 44 = .ok (.iload 4, 2) := dgX11_late_0 (44, (.iload 4, 2)) (List.mem_of_getElem? (i := 22) rfl)
theorem dX11_late_46 : decode cX11_late 46 = .ok (.iload_n 3, 1) := dgX11_late_0 (46, (.iload_n 3, 1)) (List.mem_of_getElem? (i := 23) rfl)
theorem dX11_late_47 : decode cX11_late 47 = .ok (.iload_n 2, 1) := dgX11_late_0 (47, (.iload_n 2, 1)) (List.mem_of_getElem? (i := 24) rfl)
theorem dX11_late_48 : decode cX11_late 48 = .ok (.invokevirtual 234, 3) := dgX11_late_0 (48, (.invokevirtual 234, 3)) (List.mem_of_getElem? (i := 25) rfl)
theorem dX11_late_51 : decode cX11_late 51 = .ok (.ireturn, 1) := dgX11_late_0 (51, (.ireturn, 1)) (List.mem_of_getElem? (i := 26) rfl)
theorem ml_X11_234 : Cond.methodLink RX11 234 yX5_lateness ∈ tblG := tg 887 (by decide +kernel) (by decide +kernel)
theorem im_X5_lateness : Cond.instanceMethod yX5_lateness ∈ tblG := tg 888 (by decide +kernel) (by decide +kernel)
theorem se_X5_lateness : Cond.selects RX5 yX5_lateness yX5_lateness ∈ tblG := tg 889 (by decide +kernel) (by decide +kernel)
theorem cd_X5_lateness : Cond.code yX5_lateness cX5_lateness 7 (some .int) ∈ tblG := tg 890 (by decide +kernel) (by decide +kernel)
theorem gW_X5_lateness : GoodIn tblG (wsG yX5_lateness cX5_lateness 7 (some .int)) := tgi cd_X5_lateness
theorem gV_X11_234 : GoodIn tblG (wsV RX11 234 RX5 yX5_lateness (wsG yX5_lateness cX5_lateness 7 (some .int))) := tgV ml_X11_234 im_X5_lateness se_X5_lateness ini_X5 gW_X5_lateness
theorem hv_X5_lateness : yX5_lateness.cls = RX5 ∧ yX5_lateness.cls ≠ "java/lang/invoke/MethodHandle" ∧ yX5_lateness.cls ≠ "java/lang/invoke/VarHandle" ∧ (parseMethodDescriptor yX5_lateness.desc).map (fun d => d.parameters.length) = some 3 := by decide +kernel
set_option maxHeartbeats 4000000 in
set_option maxRecDepth 100000 in
theorem x_lateN (l : Launch) (G : g5_G) (a_o a_k a_h a_g a_gn a_b a_bn a_p a_pn a_bb a_j a_as a_sk a_l a_pt a_im a_ke a_wa a_th a_ha a_wk a_r a_x a_wd a_rf a_s a_w : Nat) (sz : Nat) (e_tl : Int32) (e_fd : Int32) (e_fpl : Int32) (e_wn : Int32) (e_lr : Int32) (e_le : Int32) (e_st : Int32) (e_fo : Int32) (e_lc : Int32) (e_g : Int32) (e_b : Int32) (e_p : Int32) (e_ln : Int32) (e_se : Int32) (e_lh : Int32) (e_br : Int32) (e_we : Int32) (e_me : Int32) (e_ce : Int32) (e_wy : Int32) (e_ho : Int32) (e_ov : Int32) (p_b : Int32) (p_t : Int32) (p_h : Int32) (e_wa : Int64) (e_gb : Int64) (f_g : Nat → Int32) (f_b : Nat → Int32) (f_p : Nat → Int32) (f_bb : Nat → Int64) (f_as : Nat → Int32) (f_sk : Nat → Int64) (f_l : Nat → Option Nat) (f_pt : Nat → Int32) (h_e_tl : 0 ≤ e_tl.toInt ∧ e_tl.toInt ≤ 400) (h_e_wn : 0 ≤ e_wn.toInt ∧ e_wn.toInt ≤ 1) (h_e_g : 0 ≤ e_g.toInt ∧ e_g.toInt ≤ 6) (h_e_b : 0 ≤ e_b.toInt ∧ e_b.toInt ≤ 5) (h_e_p : 0 ≤ e_p.toInt ∧ e_p.toInt ≤ 8) (h_e_ov : 0 ≤ e_ov.toInt ∧ e_ov.toInt ≤ 1) (e_gk : gOK f_g e_g.toInt) (e_pk : gOK f_p e_p.toInt) (e_gi : inT e_gb f_g e_g.toInt) (e_f : e_fo.toInt < 0 ∨ e_lc.toInt ≤ e_fo.toInt) : Met l yX11_late (wsG yX11_late cX11_late 5 (some .int)) ({ frames := 15, cells := 0, slots := 0, locals := 582 }) (va_Pc [.ref a_o, .int p_b, .int p_t, .int p_h] (g5_P G [(a_o, (oc11 a_h a_im a_ke a_k a_wa a_th a_ha a_wk a_r a_x e_tl e_fd e_fpl a_wd e_wn a_rf e_lr)), (a_k, (oc5 a_h a_j a_pt e_ln e_se e_lh e_br e_we e_me e_ce e_wy e_ho e_ov)), (a_h, (oc1 e_wa e_le e_st e_fo e_lc a_l a_g a_b a_s a_p a_w e_gb a_bb)), (a_g, (oc6 6 5 a_gn e_g)), (a_gn, (arI G 30 f_g)), (a_b, (oc6 5 24 a_bn e_b)), (a_bn, (arI G 120 f_b)), (a_p, (oc6 8 5 a_pn e_p)), (a_pn, (arI G 40 f_p)), (a_bb, (arJ G 24 f_bb)), (a_j, (oc2 a_as a_sk)), (a_as, (arI G 8 f_as)), (a_sk, (arJ G 50 f_sk)), (a_l, (arW G 6 f_l)), (a_pt, (arI G 200 f_pt))] sz)) (va_Qi (fun (r : Int32) (u : va_W) => (∃ (o_r : Int32) (o_ln : Int32) (o_se : Int32) (o_lh : Int32) (o_br : Int32) (o_we : Int32) (o_me : Int32) (o_ce : Int32) (o_wy : Int32) (o_ho : Int32) (o_ov : Int32) (o_pt : Nat → Int32) (o_as : Nat → Int32) (o_sk : Nat → Int64), (0 ≤ o_ov.toInt ∧ o_ov.toInt ≤ 1) ∧ (r = o_r) ∧ (u = [(a_o, (oc11 a_h a_im a_ke a_k a_wa a_th a_ha a_wk a_r a_x e_tl e_fd e_fpl a_wd e_wn a_rf e_lr)), (a_k, (oc5 a_h a_j a_pt o_ln o_se o_lh o_br o_we o_me o_ce o_wy o_ho o_ov)), (a_h, (oc1 e_wa e_le e_st e_fo e_lc a_l a_g a_b a_s a_p a_w e_gb a_bb)), (a_g, (oc6 6 5 a_gn e_g)), (a_gn, (arI G 30 f_g)), (a_b, (oc6 5 24 a_bn e_b)), (a_bn, (arI G 120 f_b)), (a_p, (oc6 8 5 a_pn e_p)), (a_pn, (arI G 40 f_p)), (a_bb, (arJ G 24 f_bb)), (a_j, (oc2 a_as a_sk)), (a_as, (arI G 8 o_as)), (a_sk, (arJ G 50 o_sk)), (a_l, (arW G 6 f_l)), (a_pt, (arI G 200 o_pt))]))) (g5_B G (va_A [(a_o, (oc11 a_h a_im a_ke a_k a_wa a_th a_ha a_wk a_r a_x e_tl e_fd e_fpl a_wd e_wn a_rf e_lr)), (a_k, (oc5 a_h a_j a_pt e_ln e_se e_lh e_br e_we e_me e_ce e_wy e_ho e_ov)), (a_h, (oc1 e_wa e_le e_st e_fo e_lc a_l a_g a_b a_s a_p a_w e_gb a_bb)), (a_g, (oc6 6 5 a_gn e_g)), (a_gn, (arI G 30 f_g)), (a_b, (oc6 5 24 a_bn e_b)), (a_bn, (arI G 120 f_b)), (a_p, (oc6 8 5 a_pn e_p)), (a_pn, (arI G 40 f_p)), (a_bb, (arJ G 24 f_bb)), (a_j, (oc2 a_as a_sk)), (a_as, (arI G 8 f_as)), (a_sk, (arJ G 50 f_sk)), (a_l, (arW G 6 f_l)), (a_pt, (arI G 200 f_pt))] sz)) (va_A [(a_o, (oc11 a_h a_im a_ke a_k a_wa a_th a_ha a_wk a_r a_x e_tl e_fd e_fpl a_wd e_wn a_rf e_lr)), (a_k, (oc5 a_h a_j a_pt e_ln e_se e_lh e_br e_we e_me e_ce e_wy e_ho e_ov)), (a_h, (oc1 e_wa e_le e_st e_fo e_lc a_l a_g a_b a_s a_p a_w e_gb a_bb)), (a_g, (oc6 6 5 a_gn e_g)), (a_gn, (arI G 30 f_g)), (a_b, (oc6 5 24 a_bn e_b)), (a_bn, (arI G 120 f_b)), (a_p, (oc6 8 5 a_pn e_p)), (a_pn, (arI G 40 f_p)), (a_bb, (arJ G 24 f_bb)), (a_j, (oc2 a_as a_sk)), (a_as, (arI G 8 f_as)), (a_sk, (arJ G 50 f_sk)), (a_l, (arW G 6 f_l)), (a_pt, (arI G 200 f_pt))] sz)) 0 0 (va_A [(a_o, (oc11 a_h a_im a_ke a_k a_wa a_th a_ha a_wk a_r a_x e_tl e_fd e_fpl a_wd e_wn a_rf e_lr)), (a_k, (oc5 a_h a_j a_pt e_ln e_se e_lh e_br e_we e_me e_ce e_wy e_ho e_ov)), (a_h, (oc1 e_wa e_le e_st e_fo e_lc a_l a_g a_b a_s a_p a_w e_gb a_bb)), (a_g, (oc6 6 5 a_gn e_g)), (a_gn, (arI G 30 f_g)), (a_b, (oc6 5 24 a_bn e_b)), (a_bn, (arI G 120 f_b)), (a_p, (oc6 8 5 a_pn e_p)), (a_pn, (arI G 40 f_p)), (a_bb, (arJ G 24 f_bb)), (a_j, (oc2 a_as a_sk)), (a_as, (arI G 8 f_as)), (a_sk, (arJ G 50 f_sk)), (a_l, (arW G 6 f_l)), (a_pt, (arI G 200 f_pt))] sz) := by
  refine Met.ofW (cc := cX11_late) (maxL := 5) (ret := (some .int)) (by decide) rfl ?_
  intro p e s m args below meth c s₁ B hml hv
  obtain ⟨rfl, hsz, hP, hK, hD0, hN, hT⟩ := hv
  have hx := B.exec
  have hb := B.bytes
  have hr := B.returns
  have hts : ∀ w ∈ tblG, w.before _ s = true := fun w h => atoms_spec (ws := (wsG yX11_late cX11_late 5 (some .int))) B.pre w (List.mem_cons_of_mem _ h)
  have hown : s.vm.findClass RX11 = some m.cls := findClass_of_methodNamed B.named
  have hlocks := B.notSynchronized
  subst hsz
  have hD := hD0.self (sz := s.heap.size)
  generalize hAe : va_A [(a_o, (oc11 a_h a_im a_ke a_k a_wa a_th a_ha a_wk a_r a_x e_tl e_fd e_fpl a_wd e_wn a_rf e_lr)), (a_k, (oc5 a_h a_j a_pt e_ln e_se e_lh e_br e_we e_me e_ce e_wy e_ho e_ov)), (a_h, (oc1 e_wa e_le e_st e_fo e_lc a_l a_g a_b a_s a_p a_w e_gb a_bb)), (a_g, (oc6 6 5 a_gn e_g)), (a_gn, (arI G 30 f_g)), (a_b, (oc6 5 24 a_bn e_b)), (a_bn, (arI G 120 f_b)), (a_p, (oc6 8 5 a_pn e_p)), (a_pn, (arI G 40 f_p)), (a_bb, (arJ G 24 f_bb)), (a_j, (oc2 a_as a_sk)), (a_as, (arI G 8 f_as)), (a_sk, (arJ G 50 f_sk)), (a_l, (arW G 6 f_l)), (a_pt, (arI G 200 f_pt))] s.heap.size = A at hD hT ⊢
  have hA : ∀ q : Nat, s.heap.size ≤ q → A q := fun q h => by rw [← hAe]; exact Or.inr h
  have hS : va_S A s.heap s.heap [] := va_S.rf
  have hP : va_P G.1 vwCl [(a_o, (oc11 a_h a_im a_ke a_k a_wa a_th a_ha a_wk a_r a_x e_tl e_fd e_fpl a_wd e_wn a_rf e_lr)), (a_k, (oc5 a_h a_j a_pt e_ln e_se e_lh e_br e_we e_me e_ce e_wy e_ho e_ov)), (a_h, (oc1 e_wa e_le e_st e_fo e_lc a_l a_g a_b a_s a_p a_w e_gb a_bb)), (a_g, (oc6 6 5 a_gn e_g)), (a_gn, (arI G 30 f_g)), (a_b, (oc6 5 24 a_bn e_b)), (a_bn, (arI G 120 f_b)), (a_p, (oc6 8 5 a_pn e_p)), (a_pn, (arI G 40 f_p)), (a_bb, (arJ G 24 f_bb)), (a_j, (oc2 a_as a_sk)), (a_as, (arI G 8 f_as)), (a_sk, (arJ G 50 f_sk)), (a_l, (arW G 6 f_l)), (a_pt, (arI G 200 f_pt))] s.heap := hP
  have hl := lv_entry ([.ref a_o, .int p_b, .int p_t, .int p_h]) (n := 5) (Nat.le_of_ble_eq_true rfl)
  rw [lg_entry_eq]
  generalize (lg_sl ([.ref a_o, .int p_b, .int p_t, .int p_h]) ++ List.replicate (5 - (lg_sl ([.ref a_o, .int p_b, .int p_t, .int p_h])).length) Slot.unset).toArray = ls at hl ⊢
  have hl : lv_has ls 5 [(0, .ref a_o), (1, .int p_b), (2, .int p_t), (3, .int p_h)] := hl
  refine lv_aload_n hx hb dX11_late_0 rfl (lv_at hl 0 rfl) ?_
  refine va_get (D := G.1) (ci := 11) (v := .ref a_h) (C := RX11) (T := TX11) (N := 17) hx hb hts inG_X11 hown hK hP 0 rfl rfl 0 (by decide) (hts _ fl_X11_12) (fun _ h9 => h9) rfl dX11_late_1 ?_
  refine va_get (D := G.1) (ci := 1) (v := .ref a_b) (C := RX1) (T := TX1) (N := 13) hx hb hts inG_X1 hown hK hP 2 rfl rfl 7 (by decide) (hts _ fl_X11_167) (fun _ h9 => h9) rfl dX11_late_4 ?_
  refine lv_iload_n hx hb dX11_late_7 rfl (lv_at hl 2 rfl) ?_
  obtain ⟨hPc, hDc, hFc⟩ := g5_sub3 (wc := [(a_b, (oc6 5 24 a_bn e_b))]) hP hD hS hA [5] (by decide) rfl
  refine va_calli (va_runV (As := [.int p_t]) (rest := []) ⟨hx, hb, hml, hown, hts⟩ (t_has_B l G a_b a_bn s.heap.size e_b p_t h_e_b) (cwV 1 hts gV_X11_160 rfl rfl rfl hv_X6_has ⟨Nat.le_of_ble_eq_true rfl, Nat.le_of_ble_eq_true rfl⟩) (g5_preV hPc hK hDc hN hT hS hFc (ci := 6) (q0 := 0) rfl rfl) rfl rfl hl.1 rfl (lv_room (Nat.le_of_ble_eq_true rfl)) dX11_late_8 ⟨Nat.le_of_ble_eq_true rfl, Nat.le_of_ble_eq_true rfl⟩) hS (fun q _ h => hFc q h) hFc (fun r u t H1 locs ht hvm hw hB hz1 hk1 hS => ?_)
  obtain ⟨hP1, hD1⟩ := hB
  rw [ht] at hP1
  rcases hw with ⟨i_1, rfl, rfl⟩ | ⟨i_2, rfl, rfl⟩
  ·
    have i_1 : 0 ≤ p_t.toInt ∧ p_t.toInt < e_b.toInt := i_1
    obtain ⟨hP, hD⟩ := va_join (wr := [(a_o, (oc11 a_h a_im a_ke a_k a_wa a_th a_ha a_wk a_r a_x e_tl e_fd e_fpl a_wd e_wn a_rf e_lr)), (a_k, (oc5 a_h a_j a_pt e_ln e_se e_lh e_br e_we e_me e_ce e_wy e_ho e_ov)), (a_h, (oc1 e_wa e_le e_st e_fo e_lc a_l a_g a_b a_s a_p a_w e_gb a_bb)), (a_g, (oc6 6 5 a_gn e_g)), (a_gn, (arI G 30 f_g)), (a_bn, (arI G 120 f_b)), (a_p, (oc6 8 5 a_pn e_p)), (a_pn, (arI G 40 f_p)), (a_bb, (arJ G 24 f_bb)), (a_j, (oc2 a_as a_sk)), (a_as, (arI G 8 f_as)), (a_sk, (arJ G 50 f_sk)), (a_l, (arW G 6 f_l)), (a_pt, (arI G 200 f_pt))]) hP hD [5] [0, 1, 2, 3, 4, 6, 7, 8, 9, 10, 11, 12, 13, 14] rfl rfl (by decide) (by decide) hk1 hFc hP1 hD1
    generalize H1 = H at hP hS ⊢
    refine g5_rs [(a_o, (oc11 a_h a_im a_ke a_k a_wa a_th a_ha a_wk a_r a_x e_tl e_fd e_fpl a_wd e_wn a_rf e_lr)), (a_k, (oc5 a_h a_j a_pt e_ln e_se e_lh e_br e_we e_me e_ce e_wy e_ho e_ov)), (a_h, (oc1 e_wa e_le e_st e_fo e_lc a_l a_g a_b a_s a_p a_w e_gb a_bb)), (a_g, (oc6 6 5 a_gn e_g)), (a_gn, (arI G 30 f_g)), (a_bn, (arI G 120 f_b)), (a_p, (oc6 8 5 a_pn e_p)), (a_pn, (arI G 40 f_p)), (a_bb, (arJ G 24 f_bb)), (a_j, (oc2 a_as a_sk)), (a_as, (arI G 8 f_as)), (a_sk, (arJ G 50 f_sk)), (a_l, (arW G 6 f_l)), (a_pt, (arI G 200 f_pt)), (a_b, (oc6 5 24 a_bn e_b))] hP hD (fun hP hD => ?_)
    refine lv_if_ne (tgt := 16) hx hb dX11_late_11 (by decide) (fun c_3 => ?_) (fun c_3 => ?_)
    ·
      refine lv_aload_n hx hb dX11_late_16 rfl (lv_at hl 0 rfl) ?_
      refine va_get (D := G.1) (ci := 11) (v := .ref a_h) (C := RX11) (T := TX11) (N := 17) hx hb hts inG_X11 hown hK hP 0 rfl rfl 0 (by decide) (hts _ fl_X11_12) (fun _ h9 => h9) rfl dX11_late_17 ?_
      refine va_get (D := G.1) (ci := 1) (v := .ref a_b) (C := RX1) (T := TX1) (N := 13) hx hb hts inG_X1 hown hK hP 2 rfl rfl 7 (by decide) (hts _ fl_X11_167) (fun _ h9 => h9) rfl dX11_late_20 ?_
      refine lv_iload_n hx hb dX11_late_23 rfl (lv_at hl 1 rfl) ?_
      refine lv_iload_n hx hb dX11_late_24 rfl (lv_at hl 3 rfl) ?_
      obtain ⟨hPc, hDc, hFc⟩ := g5_sub3 (wc := [(a_b, (oc6 5 24 a_bn e_b)), (a_bn, (arI G 120 f_b))]) hP hD hS hA [14, 5] (by decide) rfl
      refine va_calli (va_runV (As := [.int p_b, .int p_h]) (rest := []) ⟨hx, hb, hml, hown, hts⟩ (t_get_B l G a_b a_bn H.size e_b p_b p_h f_b h_e_b) (cwV 2 hts gV_X11_163 rfl rfl rfl hv_X6_get ⟨Nat.le_of_ble_eq_true rfl, Nat.le_of_ble_eq_true rfl⟩) (g5_preV hPc hK hDc hN hT hS hFc (ci := 6) (q0 := 0) rfl rfl) rfl rfl hl.1 rfl (lv_room (Nat.le_of_ble_eq_true rfl)) dX11_late_25 ⟨Nat.le_of_ble_eq_true rfl, Nat.le_of_ble_eq_true rfl⟩) hS (fun q _ h => hFc q h) hFc (fun r u t H1 locs ht hvm hw hB hz1 hk1 hS => ?_)
      obtain ⟨hP1, hD1⟩ := hB
      rw [ht] at hP1
      obtain ⟨z5, i_4, y6, rfl⟩ := hw
      have i_4 : z5 = tget f_b e_b.toInt 24 p_b.toInt p_h.toInt := i_4
      obtain ⟨hP, hD⟩ := va_join (wr := [(a_o, (oc11 a_h a_im a_ke a_k a_wa a_th a_ha a_wk a_r a_x e_tl e_fd e_fpl a_wd e_wn a_rf e_lr)), (a_k, (oc5 a_h a_j a_pt e_ln e_se e_lh e_br e_we e_me e_ce e_wy e_ho e_ov)), (a_h, (oc1 e_wa e_le e_st e_fo e_lc a_l a_g a_b a_s a_p a_w e_gb a_bb)), (a_g, (oc6 6 5 a_gn e_g)), (a_gn, (arI G 30 f_g)), (a_p, (oc6 8 5 a_pn e_p)), (a_pn, (arI G 40 f_p)), (a_bb, (arJ G 24 f_bb)), (a_j, (oc2 a_as a_sk)), (a_as, (arI G 8 f_as)), (a_sk, (arJ G 50 f_sk)), (a_l, (arW G 6 f_l)), (a_pt, (arI G 200 f_pt))]) hP hD [14, 5] [0, 1, 2, 3, 4, 6, 7, 8, 9, 10, 11, 12, 13] rfl rfl (by decide) (by decide) hk1 hFc hP1 hD1
      generalize H1 = H at hP hS ⊢
      refine g5_rs [(a_o, (oc11 a_h a_im a_ke a_k a_wa a_th a_ha a_wk a_r a_x e_tl e_fd e_fpl a_wd e_wn a_rf e_lr)), (a_k, (oc5 a_h a_j a_pt e_ln e_se e_lh e_br e_we e_me e_ce e_wy e_ho e_ov)), (a_h, (oc1 e_wa e_le e_st e_fo e_lc a_l a_g a_b a_s a_p a_w e_gb a_bb)), (a_g, (oc6 6 5 a_gn e_g)), (a_gn, (arI G 30 f_g)), (a_p, (oc6 8 5 a_pn e_p)), (a_pn, (arI G 40 f_p)), (a_bb, (arJ G 24 f_bb)), (a_j, (oc2 a_as a_sk)), (a_as, (arI G 8 f_as)), (a_sk, (arJ G 50 f_sk)), (a_l, (arW G 6 f_l)), (a_pt, (arI G 200 f_pt)), (a_b, (oc6 5 24 a_bn e_b)), (a_bn, (arI G 120 f_b))] hP hD (fun hP hD => ?_)
      refine g5_ti (v := z5) y6 ?_
      refine lv_istore (lv' := [(4, .int z5), (0, .ref a_o), (1, .int p_b), (2, .int p_t), (3, .int p_h)]) hx hb dX11_late_28 hl (by decide) rfl (fun ls hl => ?_)
      refine lv_iload hx hb dX11_late_30 (lv_at hl 0 rfl) ?_
      refine lv_iconst (v := (-1)) hx hb dX11_late_32 (by decide) ?_
      refine lv_icmp_ne (tgt := 40) hx hb dX11_late_33 (by decide) (fun c_7 => ?_) (fun c_7 => ?_)
      ·
        have n_7 : gNe (z5.toInt) ((-1)) := by have z := g5_ne (a := z5.toInt) (b := (-1)) (by rfl) (by decide) c_7; unfold gNe; omega
        refine lv_aload_n hx hb dX11_late_40 rfl (lv_at hl 1 rfl) ?_
        refine va_get (D := G.1) (ci := 11) (v := .ref a_k) (C := RX11) (T := TX11) (N := 17) hx hb hts inG_X11 hown hK hP 0 rfl rfl 3 (by decide) (hts _ fl_X11_29) (fun _ h9 => h9) rfl dX11_late_41 ?_
        refine lv_iload hx hb dX11_late_44 (lv_at hl 0 rfl) ?_
        refine lv_iload_n hx hb dX11_late_46 rfl (lv_at hl 4 rfl) ?_
        refine lv_iload_n hx hb dX11_late_47 rfl (lv_at hl 3 rfl) ?_
        obtain ⟨hPc, hDc, hFc⟩ := g5_sub3 (wc := [(a_k, (oc5 a_h a_j a_pt e_ln e_se e_lh e_br e_we e_me e_ce e_wy e_ho e_ov)), (a_h, (oc1 e_wa e_le e_st e_fo e_lc a_l a_g a_b a_s a_p a_w e_gb a_bb)), (a_g, (oc6 6 5 a_gn e_g)), (a_gn, (arI G 30 f_g)), (a_b, (oc6 5 24 a_bn e_b)), (a_bn, (arI G 120 f_b)), (a_p, (oc6 8 5 a_pn e_p)), (a_pn, (arI G 40 f_p)), (a_bb, (arJ G 24 f_bb)), (a_j, (oc2 a_as a_sk)), (a_as, (arI G 8 f_as)), (a_sk, (arJ G 50 f_sk)), (a_l, (arW G 6 f_l)), (a_pt, (arI G 200 f_pt))]) hP hD hS hA [1, 2, 3, 4, 13, 14, 5, 6, 7, 8, 9, 10, 11, 12] (by decide) rfl
        refine va_calli (va_runV (As := [.int z5, .int p_h, .int p_t]) (rest := []) ⟨hx, hb, hml, hown, hts⟩ (s_latenessN l G a_k a_h a_g a_gn a_b a_bn a_p a_pn a_bb a_j a_as a_sk a_l a_pt a_s a_w H.size e_le e_st e_fo e_lc e_g e_b e_p e_ln e_se e_lh e_br e_we e_me e_ce e_wy e_ho e_ov z5 p_h p_t e_wa e_gb f_g f_b f_p f_bb f_as f_sk f_l f_pt h_e_g h_e_b h_e_p h_e_ov (e_gk) (e_pk) (e_gi) (e_f)) (cwV 3 hts gV_X11_234 rfl rfl rfl hv_X5_lateness ⟨Nat.le_of_ble_eq_true rfl, Nat.le_of_ble_eq_true rfl⟩) (g5_preV hPc hK hDc hN hT hS hFc (ci := 5) (q0 := 0) rfl rfl) rfl rfl hl.1 rfl (lv_room (Nat.le_of_ble_eq_true rfl)) dX11_late_48 ⟨Nat.le_of_ble_eq_true rfl, Nat.le_of_ble_eq_true rfl⟩) hS (fun q _ h => hFc q h) hFc (fun r u t H1 locs ht hvm hw hB hz1 hk1 hS => ?_)
        obtain ⟨hP1, hD1⟩ := hB
        rw [ht] at hP1
        obtain ⟨z9, z10, z11, z12, z13, z14, z15, z16, z17, z18, z19, z20, z21, z22, i_8, y23, rfl⟩ := hw
        have i_8 : 0 ≤ z19.toInt ∧ z19.toInt ≤ 1 := i_8
        obtain ⟨hP, hD⟩ := va_join (wr := [(a_o, (oc11 a_h a_im a_ke a_k a_wa a_th a_ha a_wk a_r a_x e_tl e_fd e_fpl a_wd e_wn a_rf e_lr))]) hP hD [1, 2, 3, 4, 13, 14, 5, 6, 7, 8, 9, 10, 11, 12] [0] rfl rfl (by decide) (by decide) hk1 hFc hP1 hD1
        generalize H1 = H at hP hS ⊢
        refine g5_rs [(a_o, (oc11 a_h a_im a_ke a_k a_wa a_th a_ha a_wk a_r a_x e_tl e_fd e_fpl a_wd e_wn a_rf e_lr)), (a_k, (oc5 a_h a_j a_pt z10 z11 z12 z13 z14 z15 z16 z17 z18 z19)), (a_h, (oc1 e_wa e_le e_st e_fo e_lc a_l a_g a_b a_s a_p a_w e_gb a_bb)), (a_g, (oc6 6 5 a_gn e_g)), (a_gn, (arI G 30 f_g)), (a_b, (oc6 5 24 a_bn e_b)), (a_bn, (arI G 120 f_b)), (a_p, (oc6 8 5 a_pn e_p)), (a_pn, (arI G 40 f_p)), (a_bb, (arJ G 24 f_bb)), (a_j, (oc2 a_as a_sk)), (a_as, (arI G 8 z21)), (a_sk, (arJ G 50 z22)), (a_l, (arW G 6 f_l)), (a_pt, (arI G 200 z20))] hP hD (fun hP hD => ?_)
        refine g5_ti (v := z9) y23 ?_
        exact W.iret (v := z9) hx hb hr (fun t ht hW => ⟨⟨z9, [(a_o, (oc11 a_h a_im a_ke a_k a_wa a_th a_ha a_wk a_r a_x e_tl e_fd e_fpl a_wd e_wn a_rf e_lr)), (a_k, (oc5 a_h a_j a_pt z10 z11 z12 z13 z14 z15 z16 z17 z18 z19)), (a_h, (oc1 e_wa e_le e_st e_fo e_lc a_l a_g a_b a_s a_p a_w e_gb a_bb)), (a_g, (oc6 6 5 a_gn e_g)), (a_gn, (arI G 30 f_g)), (a_b, (oc6 5 24 a_bn e_b)), (a_bn, (arI G 120 f_b)), (a_p, (oc6 8 5 a_pn e_p)), (a_pn, (arI G 40 f_p)), (a_bb, (arJ G 24 f_bb)), (a_j, (oc2 a_as a_sk)), (a_as, (arI G 8 z21)), (a_sk, (arJ G 50 z22)), (a_l, (arW G 6 f_l)), (a_pt, (arI G 200 z20))], rfl, ⟨z9, z10, z11, z12, z13, z14, z15, z16, z17, z18, z19, z20, z21, z22, i_8, rfl, rfl⟩, by rw [ht]; exact hP.sub [0, 1, 2, 3, 4, 5, 6, 7, 8, 9, 10, 11, 12, 13, 14] rfl, hD.sub [0, 1, 2, 3, 4, 5, 6, 7, 8, 9, 10, 11, 12, 13, 14] (by decide) rfl⟩, hS.F ht⟩) hS.2.2 dX11_late_51
      ·
        have i_7 : z5.toInt = (-1) := by have z := g5_neN (a := z5.toInt) (b := (-1)) (by rfl) (by decide) c_7; omega
        refine lv_iconst (v := (-1)) hx hb dX11_late_36 (by decide) ?_
        refine lv_goto (tgt := 51) hx hb dX11_late_37 (by decide) ?_
        exact W.iret (v := (-1)) hx hb hr (fun t ht hW => ⟨⟨(-1), [(a_o, (oc11 a_h a_im a_ke a_k a_wa a_th a_ha a_wk a_r a_x e_tl e_fd e_fpl a_wd e_wn a_rf e_lr)), (a_k, (oc5 a_h a_j a_pt e_ln e_se e_lh e_br e_we e_me e_ce e_wy e_ho e_ov)), (a_h, (oc1 e_wa e_le e_st e_fo e_lc a_l a_g a_b a_s a_p a_w e_gb a_bb)), (a_g, (oc6 6 5 a_gn e_g)), (a_gn, (arI G 30 f_g)), (a_b, (oc6 5 24 a_bn e_b)), (a_bn, (arI G 120 f_b)), (a_p, (oc6 8 5 a_pn e_p)), (a_pn, (arI G 40 f_p)), (a_bb, (arJ G 24 f_bb)), (a_j, (oc2 a_as a_sk)), (a_as, (arI G 8 f_as)), (a_sk, (arJ G 50 f_sk)), (a_l, (arW G 6 f_l)), (a_pt, (arI G 200 f_pt))], rfl, ⟨(-1), e_ln, e_se, e_lh, e_br, e_we, e_me, e_ce, e_wy, e_ho, e_ov, f_pt, f_as, f_sk, h_e_ov, rfl, rfl⟩, by rw [ht]; exact hP.sub [0, 1, 2, 3, 4, 13, 14, 5, 6, 7, 8, 9, 10, 11, 12] rfl, hD.sub [0, 1, 2, 3, 4, 13, 14, 5, 6, 7, 8, 9, 10, 11, 12] (by decide) rfl⟩, hS.F ht⟩) hS.2.2 dX11_late_51
    ·
      exact absurd c_3 (by decide)
  ·
    have i_2 : p_t.toInt < 0 ∨ e_b.toInt ≤ p_t.toInt := i_2
    obtain ⟨hP, hD⟩ := va_join (wr := [(a_o, (oc11 a_h a_im a_ke a_k a_wa a_th a_ha a_wk a_r a_x e_tl e_fd e_fpl a_wd e_wn a_rf e_lr)), (a_k, (oc5 a_h a_j a_pt e_ln e_se e_lh e_br e_we e_me e_ce e_wy e_ho e_ov)), (a_h, (oc1 e_wa e_le e_st e_fo e_lc a_l a_g a_b a_s a_p a_w e_gb a_bb)), (a_g, (oc6 6 5 a_gn e_g)), (a_gn, (arI G 30 f_g)), (a_bn, (arI G 120 f_b)), (a_p, (oc6 8 5 a_pn e_p)), (a_pn, (arI G 40 f_p)), (a_bb, (arJ G 24 f_bb)), (a_j, (oc2 a_as a_sk)), (a_as, (arI G 8 f_as)), (a_sk, (arJ G 50 f_sk)), (a_l, (arW G 6 f_l)), (a_pt, (arI G 200 f_pt))]) hP hD [5] [0, 1, 2, 3, 4, 6, 7, 8, 9, 10, 11, 12, 13, 14] rfl rfl (by decide) (by decide) hk1 hFc hP1 hD1
    generalize H1 = H at hP hS ⊢
    refine g5_rs [(a_o, (oc11 a_h a_im a_ke a_k a_wa a_th a_ha a_wk a_r a_x e_tl e_fd e_fpl a_wd e_wn a_rf e_lr)), (a_k, (oc5 a_h a_j a_pt e_ln e_se e_lh e_br e_we e_me e_ce e_wy e_ho e_ov)), (a_h, (oc1 e_wa e_le e_st e_fo e_lc a_l a_g a_b a_s a_p a_w e_gb a_bb)), (a_g, (oc6 6 5 a_gn e_g)), (a_gn, (arI G 30 f_g)), (a_bn, (arI G 120 f_b)), (a_p, (oc6 8 5 a_pn e_p)), (a_pn, (arI G 40 f_p)), (a_bb, (arJ G 24 f_bb)), (a_j, (oc2 a_as a_sk)), (a_as, (arI G 8 f_as)), (a_sk, (arJ G 50 f_sk)), (a_l, (arW G 6 f_l)), (a_pt, (arI G 200 f_pt)), (a_b, (oc6 5 24 a_bn e_b))] hP hD (fun hP hD => ?_)
    refine lv_if_ne (tgt := 16) hx hb dX11_late_11 (by decide) (fun c_24 => ?_) (fun c_24 => ?_)
    ·
      exact absurd c_24 (by decide)
    ·
      refine lv_iconst (v := (-1)) hx hb dX11_late_14 (by decide) ?_
      exact W.iret (v := (-1)) hx hb hr (fun t ht hW => ⟨⟨(-1), [(a_o, (oc11 a_h a_im a_ke a_k a_wa a_th a_ha a_wk a_r a_x e_tl e_fd e_fpl a_wd e_wn a_rf e_lr)), (a_k, (oc5 a_h a_j a_pt e_ln e_se e_lh e_br e_we e_me e_ce e_wy e_ho e_ov)), (a_h, (oc1 e_wa e_le e_st e_fo e_lc a_l a_g a_b a_s a_p a_w e_gb a_bb)), (a_g, (oc6 6 5 a_gn e_g)), (a_gn, (arI G 30 f_g)), (a_b, (oc6 5 24 a_bn e_b)), (a_bn, (arI G 120 f_b)), (a_p, (oc6 8 5 a_pn e_p)), (a_pn, (arI G 40 f_p)), (a_bb, (arJ G 24 f_bb)), (a_j, (oc2 a_as a_sk)), (a_as, (arI G 8 f_as)), (a_sk, (arJ G 50 f_sk)), (a_l, (arW G 6 f_l)), (a_pt, (arI G 200 f_pt))], rfl, ⟨(-1), e_ln, e_se, e_lh, e_br, e_we, e_me, e_ce, e_wy, e_ho, e_ov, f_pt, f_as, f_sk, h_e_ov, rfl, rfl⟩, by rw [ht]; exact hP.sub [0, 1, 2, 3, 4, 14, 5, 6, 7, 8, 9, 10, 11, 12, 13] rfl, hD.sub [0, 1, 2, 3, 4, 14, 5, 6, 7, 8, 9, 10, 11, 12, 13] (by decide) rfl⟩, hS.F ht⟩) hS.2.2 dX11_late_15
theorem dgX11_first_0 : ∀ r ∈ ([(0, (.aload_n 0, 1)), (1, (.getfield 12, 3)), (4, (.getfield 167, 3)), (7, (.iload_n 1, 1)), (8, (.invokevirtual 160, 3)), (11, (.ifCond .eq 12, 3)), (14, (.iload_n 2, 1)), (15, (.ifCond .lt 8, 3)), (18, (.iload_n 2, 1)), (19, (.iconst 2, 1)), (20, (.if_icmp .le 5, 3)), (23, (.iconst (-1), 1)), (24, (.ireturn, 1)), (25, (.iconst 0, 1)), (26, (.istore_n 3, 1)), (27, (.iload_n 3, 1)), (28, (.bipush 24, 2)), (30, (.if_icmp .ge 108, 3)), (33, (.iconst 0, 1)), (34, (.istore 4, 2)), (36, (.iload 4, 2)), (38, (.aload_n 0, 1)), (39, (.getfield 12, 3)), (42, (.getfield 167, 3)), (45, (.getfield 238, 3)), (48, (.if_icmp .ge 84, 3)), (51, (.iload 4, 2)), (53, (.iload_n 1, 1)), (54, (.if_icmp .ne 7, 3)), (57, (.iconst (-1), 1)), (58, (.goto 16, 3)), (61, (.aload_n 0, 1)), (62, (.getfield 12, 3)), (65, (.getfield 167, 3)), (68, (.iload 4, 2)), (70, (.iload_n 3, 1)), (71, (.invokevirtual 163, 3)), (74, (.istore 5, 2)), (76, (.iload 5, 2)), (78, (.iconst (-1), 1))] : List (Nat × (Instr × Nat))), decode cX11_first r.1 = .ok r.2 := by decide +kernel
theorem dX11_first_0 : decode cX11_first 0 = .ok (.aload_n 0, 1) := dgX11_first_0 (0, (.aload_n 0, 1)) (List.mem_of_getElem? (i := 0) rfl)
theorem dX11_first_1 : decode cX11_first 1 = .ok (.getfield 12, 3) := dgX11_first_0 (1, (.getfield 12, 3)) (List.mem_of_getElem? (i := 1) rfl)
theorem dX11_first_4 : decode cX11_first 4 = .ok (.getfield 167, 3) := dgX11_first_0 (4, (.getfield 167, 3)) (List.mem_of_getElem? (i := 2) rfl)
theorem dX11_first_7 : decode cX11_first 7 = .ok (.iload_n 1, 1) := dgX11_first_0 (7, (.iload_n 1, 1)) (List.mem_of_getElem? (i := 3) rfl)
theorem dX11_first_8 : decode cX11_first 8 = .ok (.invokevirtual 160, 3) := dgX11_first_0 (8, (.invokevirtual 160, 3)) (List.mem_of_getElem? (i := 4) rfl)
theorem dX11_first_11 : decode cX11_first 11 = .ok (.ifCond .eq 12, 3) := dgX11_first_0 (11, (.ifCond .eq 12, 3)) (List.mem_of_getElem? (i := 5) rfl)
theorem dX11_first_14 : decode cX11_first 14 = .ok (.iload_n 2, 1) := dgX11_first_0 (14, (.iload_n 2, 1)) (List.mem_of_getElem? (i := 6) rfl)
theorem dX11_first_15 : decode cX11_first 15 = .ok (.ifCond .lt 8, 3) := dgX11_first_0 (15, (.ifCond .lt 8, 3)) (List.mem_of_getElem? (i := 7) rfl)
theorem dX11_first_18 : decode cX11_first 18 = .ok (.iload_n 2, 1) := dgX11_first_0 (18, (.iload_n 2, 1)) (List.mem_of_getElem? (i := 8) rfl)
theorem dX11_first_19 : decode cX11_first 19 = .ok (.iconst 2, 1) := dgX11_first_0 (19, (.iconst 2, 1)) (List.mem_of_getElem? (i := 9) rfl)
theorem dX11_first_20 : decode cX11_first 20 = .ok (.if_icmp .le 5, 3) := dgX11_first_0 (20, (.if_icmp .le 5, 3)) (List.mem_of_getElem? (i := 10) rfl)
theorem dX11_first_23 : decode cX11_first 23 = .ok (.iconst (-1), 1) := dgX11_first_0 (23, (.iconst (-1), 1)) (List.mem_of_getElem? (i := 11) rfl)
theorem dX11_first_24 : decode cX11_first 24 = .ok (.ireturn, 1) := dgX11_first_0 (24, (.ireturn, 1)) (List.mem_of_getElem? (i := 12) rfl)
theorem dX11_first_25 : decode cX11_first 25 = .ok (.iconst 0, 1) := dgX11_first_0 (25, (.iconst 0, 1)) (List.mem_of_getElem? (i := 13) rfl)
theorem dX11_first_26 : decode cX11_first 26 = .ok (.istore_n 3, 1) := dgX11_first_0 (26, (.istore_n 3, 1)) (List.mem_of_getElem? (i := 14) rfl)
theorem dX11_first_27 : decode cX11_first 27 = .ok (.iload_n 3, 1) := dgX11_first_0 (27, (.iload_n 3, 1)) (List.mem_of_getElem? (i := 15) rfl)
theorem dX11_first_28 : decode cX11_first 28 = .ok (.bipush 24, 2) := dgX11_first_0 (28, (.bipush 24, 2)) (List.mem_of_getElem? (i := 16) rfl)
theorem dX11_first_30 : decode cX11_first 30 = .ok (.if_icmp .ge 108, 3) := dgX11_first_0 (30, (.if_icmp .ge 108, 3)) (List.mem_of_getElem? (i := 17) rfl)
theorem dX11_first_33 : decode cX11_first 33 = .ok (.iconst 0, 1) := dgX11_first_0 (33, (.iconst 0, 1)) (List.mem_of_getElem? (i := 18) rfl)
theorem dX11_first_34 : decode cX11_first 34 = .ok (.istore 4, 2) := dgX11_first_0 (34, (.istore 4, 2)) (List.mem_of_getElem? (i := 19) rfl)
theorem dX11_first_36 : decode cX11_first 36 = .ok (.iload 4, 2) := dgX11_first_0 (36, (.iload 4, 2)) (List.mem_of_getElem? (i := 20) rfl)
theorem dX11_first_38 : decode cX11_first 38 = .ok (.aload_n 0, 1) := dgX11_first_0 (38, (.aload_n 0, 1)) (List.mem_of_getElem? (i := 21) rfl)
theorem dX11_first_39 : decode cX11_first 39 = .ok (.getfield 12, 3) := dgX11_first_0 (39, (.getfield 12, 3)) (List.mem_of_getElem? (i := 22) rfl)
theorem dX11_first_42 : decode cX11_first 42 = .ok (.getfield 167, 3) := dgX11_first_0 (42, (.getfield 167, 3)) (List.mem_of_getElem? (i := 23) rfl)
theorem dX11_first_45 : decode cX11_first 45 = .ok (.getfield 238, 3) := dgX11_first_0 (45, (.getfield 238, 3)) (List.mem_of_getElem? (i := 24) rfl)
theorem dX11_first_48 : decode cX11_first 48 = .ok (.if_icmp .ge 84, 3) := dgX11_first_0 (48, (.if_icmp .ge 84, 3)) (List.mem_of_getElem? (i := 25) rfl)
theorem dX11_first_51 : decode cX11_first 51 = .ok (.iload 4, 2) := dgX11_first_0 (51, (.iload 4, 2)) (List.mem_of_getElem? (i := 26) rfl)
theorem dX11_first_53 : decode cX11_first 53 = .ok (.iload_n 1, 1) := dgX11_first_0 (53, (.iload_n 1, 1)) (List.mem_of_getElem? (i := 27) rfl)
theorem dX11_first_54 : decode cX11_first 54 = .ok (.if_icmp .ne 7, 3) := dgX11_first_0 (54, (.if_icmp .ne 7, 3)) (List.mem_of_getElem? (i := 28) rfl)
theorem dX11_first_57 : decode cX11_first 57 = .ok (.iconst (-1), 1) := dgX11_first_0 (57, (.iconst (-1), 1)) (List.mem_of_getElem? (i := 29) rfl)
theorem dX11_first_58 : decode cX11_first 58 = .ok (.goto 16, 3) := dgX11_first_0 (58, (.goto 16, 3)) (List.mem_of_getElem? (i := 30) rfl)
theorem dX11_first_61 : decode cX11_first 61 = .ok (.aload_n 0, 1) := dgX11_first_0 (61, (.aload_n 0, 1)) (List.mem_of_getElem? (i := 31) rfl)
theorem dX11_first_62 : decode cX11_first 62 = .ok (.getfield 12, 3) := dgX11_first_0 (62, (.getfield 12, 3)) (List.mem_of_getElem? (i := 32) rfl)
theorem dX11_first_65 : decode cX11_first 65 = .ok (.getfield 167, 3) := dgX11_first_0 (65, (.getfield 167, 3)) (List.mem_of_getElem? (i := 33) rfl)
theorem dX11_first_68 : decode cX11_first 68 = .ok (.iload 4, 2) := dgX11_first_0 (68, (.iload 4, 2)) (List.mem_of_getElem? (i := 34) rfl)
theorem dX11_first_70 : decode cX11_first 70 = .ok (.iload_n 3, 1) := dgX11_first_0 (70, (.iload_n 3, 1)) (List.mem_of_getElem? (i := 35) rfl)
theorem dX11_first_71 : decode cX11_first 71 = .ok (.invokevirtual 163, 3) := dgX11_first_0 (71, (.invokevirtual 163, 3)) (List.mem_of_getElem? (i := 36) rfl)
theorem dX11_first_74 : decode cX11_first 74 = .ok (.istore 5, 2) := dgX11_first_0 (74, (.istore 5, 2)) (List.mem_of_getElem? (i := 37) rfl)
theorem dX11_first_76 : decode cX11_first 76 = .ok (.iload 5, 2) := dgX11_first_0 (76, (.iload 5, 2)) (List.mem_of_getElem? (i := 38) rfl)
theorem dX11_first_78 : decode cX11_first 78 = .ok (.iconst (-1), 1) := dgX11_first_0 (78, (.iconst (-1), 1)) (List.mem_of_getElem? (i := 39) rfl)
theorem dgX11_first_1 : ∀ r ∈ ([(79, (.if_icmp .ne 7, 3)), (82, (.iconst (-1), 1)), (83, (.goto 14, 3)), (86, (.aload_n 0, 1)), (87, (.getfield 29, 3)), (90, (.iload 5, 2)), (92, (.iload_n 3, 1)), (93, (.iload_n 1, 1)), (94, (.invokevirtual 234, 3)), (97, (.istore 6, 2)), (99, (.iload 6, 2)), (101, (.iconst (-1), 1)), (102, (.if_icmp .eq 24, 3)), (105, (.iload_n 2, 1)), (106, (.ifCond .ne 7, 3)), (109, (.iload_n 3, 1)), (110, (.goto 15, 3)), (113, (.iload_n 2, 1)), (114, (.iconst 1, 1)), (115, (.if_icmp .ne 8, 3)), (118, (.iload 4, 2)), (120, (.goto 5, 3)), (123, (.iload 6, 2)), (125, (.ireturn, 1)), (126, (.iinc 4 1, 3)), (129, (.goto (-93), 3)), (132, (.iinc 3 1, 3)), (135, (.goto (-108), 3)), (138, (.iconst (-1), 1)), (139, (.ireturn, 1))] : List (Nat × (Instr × Nat))), decode cX11_first r.1 = .ok r.2 := by decide +kernel
theorem dX11_first_79 : decode cX11_first 79 = .ok (.if_icmp .ne 7, 3) := dgX11_first_1 (79, (.if_icmp .ne 7, 3)) (List.mem_of_getElem? (i := 0) rfl)
theorem dX11_first_82 : decode cX11_first 82 = .ok (.iconst (-1), 1) := dgX11_first_1 (82, (.iconst (-1), 1)) (List.mem_of_getElem? (i := 1) rfl)
theorem dX11_first_83 : decode cX11_first 83 = .ok (.goto 14, 3) := dgX11_first_1 (83, (.goto 14, 3)) (List.mem_of_getElem? (i := 2) rfl)
theorem dX11_first_86 : decode cX11_first 86 = .ok (.aload_n 0, 1) := dgX11_first_1 (86, (.aload_n 0, 1)) (List.mem_of_getElem? (i := 3) rfl)
theorem dX11_first_87 : decode cX11_first 87 = .ok (.getfield 29, 3) := dgX11_first_1 (87, (.getfield 29, 3)) (List.mem_of_getElem? (i := 4) rfl)
theorem dX11_first_90 : decode cX11_first 90 = .ok (.iload 5, 2) := dgX11_first_1 (90, (.iload 5, 2)) (List.mem_of_getElem? (i := 5) rfl)
theorem dX11_first_92 : decode cX11_first 92 = .ok (.iload_n 3, 1) := dgX11_first_1 (92, (.iload_n 3, 1)) (List.mem_of_getElem? (i := 6) rfl)
theorem dX11_first_93 : decode cX11_first 93 = .ok (.iload_n 1, 1) := dgX11_first_1 (93, (.iload_n 1, 1)) (List.mem_of_getElem? (i := 7) rfl)
theorem dX11_first_94 : decode cX11_first 94 = .ok (.invokevirtual 234, 3) := dgX11_first_1 (94, (.invokevirtual 234, 3)) (List.mem_of_getElem? (i := 8) rfl)
theorem dX11_first_97 : decode cX11_first 97 = .ok (.istore 6, 2) := dgX11_first_1 (97, (.istore 6, 2)) (List.mem_of_getElem? (i := 9) rfl)
theorem dX11_first_99 : decode cX11_first 99 = .ok (.iload 6, 2) := dgX11_first_1 (99, (.iload 6, 2)) (List.mem_of_getElem? (i := 10) rfl)
theorem dX11_first_101 : decode cX11_first 101 = .ok (.iconst (-1), 1) := dgX11_first_1 (101, (.iconst (-1), 1)) (List.mem_of_getElem? (i := 11) rfl)
theorem dX11_first_102 : decode cX11_first 102 = .ok (.if_icmp .eq 24, 3) := dgX11_first_1 (102, (.if_icmp .eq 24, 3)) (List.mem_of_getElem? (i := 12) rfl)
theorem dX11_first_105 : decode cX11_first 105 = .ok (.iload_n 2, 1) := dgX11_first_1 (105, (.iload_n 2, 1)) (List.mem_of_getElem? (i := 13) rfl)
theorem dX11_first_106 : decode cX11_first 106 = .ok (.ifCond .ne 7, 3) := dgX11_first_1 (106, (.ifCond .ne 7, 3)) (List.mem_of_getElem? (i := 14) rfl)
theorem dX11_first_109 : decode cX11_first 109 = .ok (.iload_n 3, 1) := dgX11_first_1 (109, (.iload_n 3, 1)) (List.mem_of_getElem? (i := 15) rfl)
theorem dX11_first_110 : decode cX11_first 110 = .ok (.goto 15, 3) := dgX11_first_1 (110, (.goto 15, 3)) (List.mem_of_getElem? (i := 16) rfl)
theorem dX11_first_113 : decode cX11_first 113 = .ok (.iload_n 2, 1) := dgX11_first_1 (113, (.iload_n 2, 1)) (List.mem_of_getElem? (i := 17) rfl)
theorem dX11_first_114 : decode cX11_first 114 = .ok (.iconst 1, 1) := dgX11_first_1 (114, (.iconst 1, 1)) (List.mem_of_getElem? (i := 18) rfl)
theorem dX11_first_115 : decode cX11_first 115 = .ok (.if_icmp .ne 8, 3) := dgX11_first_1 (115, (.if_icmp .ne 8, 3)) (List.mem_of_getElem? (i := 19) rfl)
theorem dX11_first_118 : decode cX11_first 118 = .ok (.iload 4, 2) := dgX11_first_1 (118, (.iload 4, 2)) (List.mem_of_getElem? (i := 20) rfl)
theorem dX11_first_120 : decode cX11_first 120 = .ok (.goto 5, 3) := dgX11_first_1 (120, (.goto 5, 3)) (List.mem_of_getElem? (i := 21) rfl)
theorem dX11_first_123 : decode cX11_first 123 = .ok (.iload 6, 2) := dgX11_first_1 (123, (.iload 6, 2)) (List.mem_of_getElem? (i := 22) rfl)
theorem dX11_first_125 : decode cX11_first 125 = .ok (.ireturn, 1) := dgX11_first_1 (125, (.ireturn, 1)) (List.mem_of_getElem? (i := 23) rfl)
theorem dX11_first_126 : decode cX11_first 126 = .ok (.iinc 4 1, 3) := dgX11_first_1 (126, (.iinc 4 1, 3)) (List.mem_of_getElem? (i := 24) rfl)
theorem dX11_first_129 : decode cX11_first 129 = .ok (.goto (-93), 3) := dgX11_first_1 (129, (.goto (-93), 3)) (List.mem_of_getElem? (i := 25) rfl)
theorem dX11_first_132 : decode cX11_first 132 = .ok (.iinc 3 1, 3) := dgX11_first_1 (132, (.iinc 3 1, 3)) (List.mem_of_getElem? (i := 26) rfl)
theorem dX11_first_135 : decode cX11_first 135 = .ok (.goto (-108), 3) := dgX11_first_1 (135, (.goto (-108), 3)) (List.mem_of_getElem? (i := 27) rfl)
theorem dX11_first_138 : decode cX11_first 138 = .ok (.iconst (-1), 1) := dgX11_first_1 (138, (.iconst (-1), 1)) (List.mem_of_getElem? (i := 28) rfl)
theorem dX11_first_139 : decode cX11_first 139 = .ok (.ireturn, 1) := dgX11_first_1 (139, (.ireturn, 1)) (List.mem_of_getElem? (i := 29) rfl)
