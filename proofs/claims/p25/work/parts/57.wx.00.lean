set_option maxHeartbeats 4000000 in
set_option maxRecDepth 100000 in
theorem x_wanderXN (l : Launch) (G : g5_G) (a_o a_rf a_k a_h a_g a_gn a_b a_bn a_p a_pn a_bb a_j a_as a_sk a_l a_pt a_wa a_bo a_wd a_im a_ke a_th a_ha a_wk a_r a_x a_s a_w : Nat) (sz : Nat) (e_tl : Int32) (e_fd : Int32) (e_fpl : Int32) (e_wn : Int32) (e_lr : Int32) (e_le : Int32) (e_st : Int32) (e_fo : Int32) (e_lc : Int32) (e_g : Int32) (e_b : Int32) (e_p : Int32) (e_ln : Int32) (e_se : Int32) (e_lh : Int32) (e_br : Int32) (e_we : Int32) (e_me : Int32) (e_ce : Int32) (e_wy : Int32) (e_ho : Int32) (e_ov : Int32) (p_s : Int32) (p_c : Int32) (e_wa : Int64) (e_gb : Int64) (f_rf : Nat → Int32) (f_g : Nat → Int32) (f_b : Nat → Int32) (f_p : Nat → Int32) (f_bb : Nat → Int64) (f_as : Nat → Int32) (f_sk : Nat → Int64) (f_l : Nat → Option Nat) (f_pt : Nat → Int32) (f_bo : Nat → Int64) (f_wd : Nat → Int32) (f_ro : Nat → Int32) (h_e_tl : 0 ≤ e_tl.toInt ∧ e_tl.toInt ≤ 400) (h_e_wn : 0 ≤ e_wn.toInt ∧ e_wn.toInt ≤ 1) (h_e_g : 0 ≤ e_g.toInt ∧ e_g.toInt ≤ 6) (h_e_b : 0 ≤ e_b.toInt ∧ e_b.toInt ≤ 5) (h_e_p : 0 ≤ e_p.toInt ∧ e_p.toInt ≤ 8) (h_e_ov : 0 ≤ e_ov.toInt ∧ e_ov.toInt ≤ 1) (e_gk : gOK f_g e_g.toInt) (e_pk : gOK f_p e_p.toInt) (e_gi : inT e_gb f_g e_g.toInt) (e_f : e_fo.toInt < 0 ∨ e_lc.toInt ≤ e_fo.toInt) (e_hh : QH e_wa e_le e_st f_ro) : Met l yX11_wander (wsG yX11_wander cX11_wander 9 (some .int)) ({ frames := 15, cells := 0, slots := 0, locals := 580 }) (va_Pc [.ref a_o, .int p_s, .int p_c] (g5_P G [(a_o, (oc11 a_h a_im a_ke a_k a_wa a_th a_ha a_wk a_r a_x e_tl e_fd e_fpl a_wd e_wn a_rf e_lr)), (a_rf, (arI G 5 f_rf)), (a_k, (oc5 a_h a_j a_pt e_ln e_se e_lh e_br e_we e_me e_ce e_wy e_ho e_ov)), (a_h, (oc1 e_wa e_le e_st e_fo e_lc a_l a_g a_b a_s a_p a_w e_gb a_bb)), (a_g, (oc6 6 5 a_gn e_g)), (a_gn, (arI G 30 f_g)), (a_b, (oc6 5 24 a_bn e_b)), (a_bn, (arI G 120 f_b)), (a_p, (oc6 8 5 a_pn e_p)), (a_pn, (arI G 40 f_p)), (a_bb, (arJ G 24 f_bb)), (a_j, (oc2 a_as a_sk)), (a_as, (arI G 8 f_as)), (a_sk, (arJ G 50 f_sk)), (a_l, (arW G 6 f_l)), (a_pt, (arI G 200 f_pt)), (a_wa, (oc10 a_h a_k a_bo)), (a_bo, (arJ G 24 f_bo)), (a_wd, (arI G 24 f_wd))] sz)) (va_Qi (fun (r : Int32) (u : va_W) => (∃ (o_r : Int32) (o_lr : Int32) (o_rf : Nat → Int32) (o_wn : Int32) (o_ln : Int32) (o_se : Int32) (o_lh : Int32) (o_br : Int32) (o_we : Int32) (o_me : Int32) (o_ce : Int32) (o_wy : Int32) (o_ho : Int32) (o_ov : Int32) (o_pt : Nat → Int32) (o_as : Nat → Int32) (o_sk : Nat → Int64) (o_bo : Nat → Int64) (o_wd : Nat → Int32), (0 ≤ o_ov.toInt ∧ o_ov.toInt ≤ 1) ∧ (0 ≤ o_wn.toInt ∧ o_wn.toInt ≤ 1) ∧ (o_wd = swand f_ro f_wd p_s p_c) ∧ (o_wn = swanf f_ro e_wn p_s p_c) ∧ (r = o_r) ∧ (u = [(a_o, (oc11 a_h a_im a_ke a_k a_wa a_th a_ha a_wk a_r a_x e_tl e_fd e_fpl a_wd o_wn a_rf o_lr)), (a_rf, (arI G 5 o_rf)), (a_k, (oc5 a_h a_j a_pt o_ln o_se o_lh o_br o_we o_me o_ce o_wy o_ho o_ov)), (a_h, (oc1 e_wa e_le e_st e_fo e_lc a_l a_g a_b a_s a_p a_w e_gb a_bb)), (a_g, (oc6 6 5 a_gn e_g)), (a_gn, (arI G 30 f_g)), (a_b, (oc6 5 24 a_bn e_b)), (a_bn, (arI G 120 f_b)), (a_p, (oc6 8 5 a_pn e_p)), (a_pn, (arI G 40 f_p)), (a_bb, (arJ G 24 f_bb)), (a_j, (oc2 a_as a_sk)), (a_as, (arI G 8 o_as)), (a_sk, (arJ G 50 o_sk)), (a_l, (arW G 6 f_l)), (a_pt, (arI G 200 o_pt)), (a_wa, (oc10 a_h a_k a_bo)), (a_bo, (arJ G 24 o_bo)), (a_wd, (arI G 24 o_wd))]))) (g5_B G (va_A [(a_o, (oc11 a_h a_im a_ke a_k a_wa a_th a_ha a_wk a_r a_x e_tl e_fd e_fpl a_wd e_wn a_rf e_lr)), (a_rf, (arI G 5 f_rf)), (a_k, (oc5 a_h a_j a_pt e_ln e_se e_lh e_br e_we e_me e_ce e_wy e_ho e_ov)), (a_h, (oc1 e_wa e_le e_st e_fo e_lc a_l a_g a_b a_s a_p a_w e_gb a_bb)), (a_g, (oc6 6 5 a_gn e_g)), (a_gn, (arI G 30 f_g)), (a_b, (oc6 5 24 a_bn e_b)), (a_bn, (arI G 120 f_b)), (a_p, (oc6 8 5 a_pn e_p)), (a_pn, (arI G 40 f_p)), (a_bb, (arJ G 24 f_bb)), (a_j, (oc2 a_as a_sk)), (a_as, (arI G 8 f_as)), (a_sk, (arJ G 50 f_sk)), (a_l, (arW G 6 f_l)), (a_pt, (arI G 200 f_pt)), (a_wa, (oc10 a_h a_k a_bo)), (a_bo, (arJ G 24 f_bo)), (a_wd, (arI G 24 f_wd))] sz)) (va_A [(a_o, (oc11 a_h a_im a_ke a_k a_wa a_th a_ha a_wk a_r a_x e_tl e_fd e_fpl a_wd e_wn a_rf e_lr)), (a_rf, (arI G 5 f_rf)), (a_k, (oc5 a_h a_j a_pt e_ln e_se e_lh e_br e_we e_me e_ce e_wy e_ho e_ov)), (a_h, (oc1 e_wa e_le e_st e_fo e_lc a_l a_g a_b a_s a_p a_w e_gb a_bb)), (a_g, (oc6 6 5 a_gn e_g)), (a_gn, (arI G 30 f_g)), (a_b, (oc6 5 24 a_bn e_b)), (a_bn, (arI G 120 f_b)), (a_p, (oc6 8 5 a_pn e_p)), (a_pn, (arI G 40 f_p)), (a_bb, (arJ G 24 f_bb)), (a_j, (oc2 a_as a_sk)), (a_as, (arI G 8 f_as)), (a_sk, (arJ G 50 f_sk)), (a_l, (arW G 6 f_l)), (a_pt, (arI G 200 f_pt)), (a_wa, (oc10 a_h a_k a_bo)), (a_bo, (arJ G 24 f_bo)), (a_wd, (arI G 24 f_wd))] sz)) 0 0 (va_A [(a_o, (oc11 a_h a_im a_ke a_k a_wa a_th a_ha a_wk a_r a_x e_tl e_fd e_fpl a_wd e_wn a_rf e_lr)), (a_rf, (arI G 5 f_rf)), (a_k, (oc5 a_h a_j a_pt e_ln e_se e_lh e_br e_we e_me e_ce e_wy e_ho e_ov)), (a_h, (oc1 e_wa e_le e_st e_fo e_lc a_l a_g a_b a_s a_p a_w e_gb a_bb)), (a_g, (oc6 6 5 a_gn e_g)), (a_gn, (arI G 30 f_g)), (a_b, (oc6 5 24 a_bn e_b)), (a_bn, (arI G 120 f_b)), (a_p, (oc6 8 5 a_pn e_p)), (a_pn, (arI G 40 f_p)), (a_bb, (arJ G 24 f_bb)), (a_j, (oc2 a_as a_sk)), (a_as, (arI G 8 f_as)), (a_sk, (arJ G 50 f_sk)), (a_l, (arW G 6 f_l)), (a_pt, (arI G 200 f_pt)), (a_wa, (oc10 a_h a_k a_bo)), (a_bo, (arJ G 24 f_bo)), (a_wd, (arI G 24 f_wd))] sz) := by
  refine Met.ofW (cc := cX11_wander) (maxL := 9) (ret := (some .int)) (by decide) rfl ?_
  intro p e s m args below meth c s₁ B hml hv
  obtain ⟨rfl, hsz, hP, hK, hD0, hN, hT⟩ := hv
  have hx := B.exec
  have hb := B.bytes
  have hr := B.returns
  have hts : ∀ w ∈ tblG, w.before _ s = true := fun w h => atoms_spec (ws := (wsG yX11_wander cX11_wander 9 (some .int))) B.pre w (List.mem_cons_of_mem _ h)
  have hown : s.vm.findClass RX11 = some m.cls := findClass_of_methodNamed B.named
  have hlocks := B.notSynchronized
  subst hsz
  have hD := hD0.self (sz := s.heap.size)
  generalize hAe : va_A [(a_o, (oc11 a_h a_im a_ke a_k a_wa a_th a_ha a_wk a_r a_x e_tl e_fd e_fpl a_wd e_wn a_rf e_lr)), (a_rf, (arI G 5 f_rf)), (a_k, (oc5 a_h a_j a_pt e_ln e_se e_lh e_br e_we e_me e_ce e_wy e_ho e_ov)), (a_h, (oc1 e_wa e_le e_st e_fo e_lc a_l a_g a_b a_s a_p a_w e_gb a_bb)), (a_g, (oc6 6 5 a_gn e_g)), (a_gn, (arI G 30 f_g)), (a_b, (oc6 5 24 a_bn e_b)), (a_bn, (arI G 120 f_b)), (a_p, (oc6 8 5 a_pn e_p)), (a_pn, (arI G 40 f_p)), (a_bb, (arJ G 24 f_bb)), (a_j, (oc2 a_as a_sk)), (a_as, (arI G 8 f_as)), (a_sk, (arJ G 50 f_sk)), (a_l, (arW G 6 f_l)), (a_pt, (arI G 200 f_pt)), (a_wa, (oc10 a_h a_k a_bo)), (a_bo, (arJ G 24 f_bo)), (a_wd, (arI G 24 f_wd))] s.heap.size = A at hD hT ⊢
  have hA : ∀ q : Nat, s.heap.size ≤ q → A q := fun q h => by rw [← hAe]; exact Or.inr h
  have hS : va_S A s.heap s.heap [] := va_S.rf
  have hP : va_P G.1 vwCl [(a_o, (oc11 a_h a_im a_ke a_k a_wa a_th a_ha a_wk a_r a_x e_tl e_fd e_fpl a_wd e_wn a_rf e_lr)), (a_rf, (arI G 5 f_rf)), (a_k, (oc5 a_h a_j a_pt e_ln e_se e_lh e_br e_we e_me e_ce e_wy e_ho e_ov)), (a_h, (oc1 e_wa e_le e_st e_fo e_lc a_l a_g a_b a_s a_p a_w e_gb a_bb)), (a_g, (oc6 6 5 a_gn e_g)), (a_gn, (arI G 30 f_g)), (a_b, (oc6 5 24 a_bn e_b)), (a_bn, (arI G 120 f_b)), (a_p, (oc6 8 5 a_pn e_p)), (a_pn, (arI G 40 f_p)), (a_bb, (arJ G 24 f_bb)), (a_j, (oc2 a_as a_sk)), (a_as, (arI G 8 f_as)), (a_sk, (arJ G 50 f_sk)), (a_l, (arW G 6 f_l)), (a_pt, (arI G 200 f_pt)), (a_wa, (oc10 a_h a_k a_bo)), (a_bo, (arJ G 24 f_bo)), (a_wd, (arI G 24 f_wd))] s.heap := hP
  have hl := lv_entry ([.ref a_o, .int p_s, .int p_c]) (n := 9) (Nat.le_of_ble_eq_true rfl)
  rw [lg_entry_eq]
  generalize (lg_sl ([.ref a_o, .int p_s, .int p_c]) ++ List.replicate (9 - (lg_sl ([.ref a_o, .int p_s, .int p_c])).length) Slot.unset).toArray = ls at hl ⊢
  have hl : lv_has ls 9 [(0, .ref a_o), (1, .int p_s), (2, .int p_c)] := hl
  refine lv_iload_n hx hb dX11_wander_0 rfl (lv_at hl 1 rfl) ?_
  refine lv_if_lt (tgt := 17) hx hb dX11_wander_1 (by decide) (fun c_1 => ?_) (fun c_1 => ?_)
  ·
    have i_1 : p_s.toInt < 0 := by have z := g5_lt (a := p_s.toInt) (b := 0) (by rfl) (by decide) c_1; omega
    refine lv_aload_n hx hb dX11_wander_17 rfl (lv_at hl 0 rfl) ?_
    refine lv_iconst (v := (-1)) hx hb dX11_wander_18 (by decide) ?_
    obtain ⟨hPc, hDc, hFc⟩ := g5_sub3 (wc := [(a_o, (oc11 a_h a_im a_ke a_k a_wa a_th a_ha a_wk a_r a_x e_tl e_fd e_fpl a_wd e_wn a_rf e_lr)), (a_rf, (arI G 5 f_rf))]) hP hD hS hA [0, 1] (by decide) rfl
    refine va_calli (va_runV (As := [.int (-1)]) (rest := []) ⟨hx, hb, hml, hown, hts⟩ (x_refuse1 l G a_o a_rf a_h a_im a_ke a_k a_wa a_th a_ha a_wk a_r a_x a_wd s.heap.size e_tl e_fd e_fpl e_wn e_lr f_rf h_e_tl h_e_wn) (cwV 1 hts gV_X11_104 rfl rfl rfl hv_X11_refuse ⟨Nat.le_of_ble_eq_true rfl, Nat.le_of_ble_eq_true rfl⟩) (g5_preV hPc hK hDc hN hT hS hFc (ci := 11) (q0 := 0) rfl rfl) rfl rfl hl.1 rfl (lv_room (Nat.le_of_ble_eq_true rfl)) dX11_wander_19 ⟨Nat.le_of_ble_eq_true rfl, Nat.le_of_ble_eq_true rfl⟩) hS (fun q _ h => hFc q h) hFc (fun r u t H1 locs ht hvm hw hB hz1 hk1 hS => ?_)
    obtain ⟨hP1, hD1⟩ := hB
    rw [ht] at hP1
    obtain ⟨z2, rfl, rfl⟩ := hw
    obtain ⟨hP, hD⟩ := va_join (wr := [(a_k, (oc5 a_h a_j a_pt e_ln e_se e_lh e_br e_we e_me e_ce e_wy e_ho e_ov)), (a_h, (oc1 e_wa e_le e_st e_fo e_lc a_l a_g a_b a_s a_p a_w e_gb a_bb)), (a_g, (oc6 6 5 a_gn e_g)), (a_gn, (arI G 30 f_g)), (a_b, (oc6 5 24 a_bn e_b)), (a_bn, (arI G 120 f_b)), (a_p, (oc6 8 5 a_pn e_p)), (a_pn, (arI G 40 f_p)), (a_bb, (arJ G 24 f_bb)), (a_j, (oc2 a_as a_sk)), (a_as, (arI G 8 f_as)), (a_sk, (arJ G 50 f_sk)), (a_l, (arW G 6 f_l)), (a_pt, (arI G 200 f_pt)), (a_wa, (oc10 a_h a_k a_bo)), (a_bo, (arJ G 24 f_bo)), (a_wd, (arI G 24 f_wd))]) hP hD [0, 1] [2, 3, 4, 5, 6, 7, 8, 9, 10, 11, 12, 13, 14, 15, 16, 17, 18] rfl rfl (by decide) (by decide) hk1 hFc hP1 hD1
    generalize H1 = H at hP hS ⊢
    refine g5_rs [(a_k, (oc5 a_h a_j a_pt e_ln e_se e_lh e_br e_we e_me e_ce e_wy e_ho e_ov)), (a_h, (oc1 e_wa e_le e_st e_fo e_lc a_l a_g a_b a_s a_p a_w e_gb a_bb)), (a_g, (oc6 6 5 a_gn e_g)), (a_gn, (arI G 30 f_g)), (a_b, (oc6 5 24 a_bn e_b)), (a_bn, (arI G 120 f_b)), (a_p, (oc6 8 5 a_pn e_p)), (a_pn, (arI G 40 f_p)), (a_bb, (arJ G 24 f_bb)), (a_j, (oc2 a_as a_sk)), (a_as, (arI G 8 f_as)), (a_sk, (arJ G 50 f_sk)), (a_l, (arW G 6 f_l)), (a_pt, (arI G 200 f_pt)), (a_wa, (oc10 a_h a_k a_bo)), (a_bo, (arJ G 24 f_bo)), (a_wd, (arI G 24 f_wd)), (a_o, (oc11 a_h a_im a_ke a_k a_wa a_th a_ha a_wk a_r a_x e_tl e_fd e_fpl a_wd e_wn a_rf (-1))), (a_rf, (arI G 5 z2))] hP hD (fun hP hD => ?_)
    exact W.iret (v := (-1)) hx hb hr (fun t ht hW => ⟨⟨(-1), [(a_o, (oc11 a_h a_im a_ke a_k a_wa a_th a_ha a_wk a_r a_x e_tl e_fd e_fpl a_wd e_wn a_rf (-1))), (a_rf, (arI G 5 z2)), (a_k, (oc5 a_h a_j a_pt e_ln e_se e_lh e_br e_we e_me e_ce e_wy e_ho e_ov)), (a_h, (oc1 e_wa e_le e_st e_fo e_lc a_l a_g a_b a_s a_p a_w e_gb a_bb)), (a_g, (oc6 6 5 a_gn e_g)), (a_gn, (arI G 30 f_g)), (a_b, (oc6 5 24 a_bn e_b)), (a_bn, (arI G 120 f_b)), (a_p, (oc6 8 5 a_pn e_p)), (a_pn, (arI G 40 f_p)), (a_bb, (arJ G 24 f_bb)), (a_j, (oc2 a_as a_sk)), (a_as, (arI G 8 f_as)), (a_sk, (arJ G 50 f_sk)), (a_l, (arW G 6 f_l)), (a_pt, (arI G 200 f_pt)), (a_wa, (oc10 a_h a_k a_bo)), (a_bo, (arJ G 24 f_bo)), (a_wd, (arI G 24 f_wd))], rfl, ⟨(-1), (-1), z2, e_wn, e_ln, e_se, e_lh, e_br, e_we, e_me, e_ce, e_wy, e_ho, e_ov, f_pt, f_as, f_sk, f_bo, f_wd, h_e_ov, h_e_wn, (wand_1 (f := f_ro) (g := f_wd) (n := e_wn) (s := p_s) (c := p_c) (fun q => by unfold okD at q; omega)).1.symm, (wand_1 (f := f_ro) (g := f_wd) (n := e_wn) (s := p_s) (c := p_c) (fun q => by unfold okD at q; omega)).2.symm, rfl, rfl⟩, by rw [ht]; exact hP.sub [17, 18, 0, 1, 2, 3, 4, 5, 6, 7, 8, 9, 10, 11, 12, 13, 14, 15, 16] rfl, hD.sub [17, 18, 0, 1, 2, 3, 4, 5, 6, 7, 8, 9, 10, 11, 12, 13, 14, 15, 16] (by decide) rfl⟩, hS.F ht⟩) hS.2.2 dX11_wander_22
  ·
    have i_1 : p_s.toInt ≥ 0 := by have z := g5_ltN (a := p_s.toInt) (b := 0) (by rfl) (by decide) c_1; omega
    refine lv_iload_n hx hb dX11_wander_4 rfl (lv_at hl 1 rfl) ?_
    refine lv_ldc (v := 1000000) hx hb hown (hts _ ki_X11_181) dX11_wander_5 ?_
    refine lv_icmp_gt (tgt := 17) hx hb dX11_wander_7 (by decide) (fun c_3 => ?_) (fun c_3 => ?_)
    ·
      have i_3 : p_s.toInt > 1000000 := by have z := g5_gt (a := p_s.toInt) (b := 1000000) (by rfl) (by decide) c_3; omega
      refine lv_aload_n hx hb dX11_wander_17 rfl (lv_at hl 0 rfl) ?_
      refine lv_iconst (v := (-1)) hx hb dX11_wander_18 (by decide) ?_
      obtain ⟨hPc, hDc, hFc⟩ := g5_sub3 (wc := [(a_o, (oc11 a_h a_im a_ke a_k a_wa a_th a_ha a_wk a_r a_x e_tl e_fd e_fpl a_wd e_wn a_rf e_lr)), (a_rf, (arI G 5 f_rf))]) hP hD hS hA [0, 1] (by decide) rfl
      refine va_calli (va_runV (As := [.int (-1)]) (rest := []) ⟨hx, hb, hml, hown, hts⟩ (x_refuse1 l G a_o a_rf a_h a_im a_ke a_k a_wa a_th a_ha a_wk a_r a_x a_wd s.heap.size e_tl e_fd e_fpl e_wn e_lr f_rf h_e_tl h_e_wn) (cwV 1 hts gV_X11_104 rfl rfl rfl hv_X11_refuse ⟨Nat.le_of_ble_eq_true rfl, Nat.le_of_ble_eq_true rfl⟩) (g5_preV hPc hK hDc hN hT hS hFc (ci := 11) (q0 := 0) rfl rfl) rfl rfl hl.1 rfl (lv_room (Nat.le_of_ble_eq_true rfl)) dX11_wander_19 ⟨Nat.le_of_ble_eq_true rfl, Nat.le_of_ble_eq_true rfl⟩) hS (fun q _ h => hFc q h) hFc (fun r u t H1 locs ht hvm hw hB hz1 hk1 hS => ?_)
      obtain ⟨hP1, hD1⟩ := hB
      rw [ht] at hP1
      obtain ⟨z4, rfl, rfl⟩ := hw
      obtain ⟨hP, hD⟩ := va_join (wr := [(a_k, (oc5 a_h a_j a_pt e_ln e_se e_lh e_br e_we e_me e_ce e_wy e_ho e_ov)), (a_h, (oc1 e_wa e_le e_st e_fo e_lc a_l a_g a_b a_s a_p a_w e_gb a_bb)), (a_g, (oc6 6 5 a_gn e_g)), (a_gn, (arI G 30 f_g)), (a_b, (oc6 5 24 a_bn e_b)), (a_bn, (arI G 120 f_b)), (a_p, (oc6 8 5 a_pn e_p)), (a_pn, (arI G 40 f_p)), (a_bb, (arJ G 24 f_bb)), (a_j, (oc2 a_as a_sk)), (a_as, (arI G 8 f_as)), (a_sk, (arJ G 50 f_sk)), (a_l, (arW G 6 f_l)), (a_pt, (arI G 200 f_pt)), (a_wa, (oc10 a_h a_k a_bo)), (a_bo, (arJ G 24 f_bo)), (a_wd, (arI G 24 f_wd))]) hP hD [0, 1] [2, 3, 4, 5, 6, 7, 8, 9, 10, 11, 12, 13, 14, 15, 16, 17, 18] rfl rfl (by decide) (by decide) hk1 hFc hP1 hD1
      generalize H1 = H at hP hS ⊢
      refine g5_rs [(a_k, (oc5 a_h a_j a_pt e_ln e_se e_lh e_br e_we e_me e_ce e_wy e_ho e_ov)), (a_h, (oc1 e_wa e_le e_st e_fo e_lc a_l a_g a_b a_s a_p a_w e_gb a_bb)), (a_g, (oc6 6 5 a_gn e_g)), (a_gn, (arI G 30 f_g)), (a_b, (oc6 5 24 a_bn e_b)), (a_bn, (arI G 120 f_b)), (a_p, (oc6 8 5 a_pn e_p)), (a_pn, (arI G 40 f_p)), (a_bb, (arJ G 24 f_bb)), (a_j, (oc2 a_as a_sk)), (a_as, (arI G 8 f_as)), (a_sk, (arJ G 50 f_sk)), (a_l, (arW G 6 f_l)), (a_pt, (arI G 200 f_pt)), (a_wa, (oc10 a_h a_k a_bo)), (a_bo, (arJ G 24 f_bo)), (a_wd, (arI G 24 f_wd)), (a_o, (oc11 a_h a_im a_ke a_k a_wa a_th a_ha a_wk a_r a_x e_tl e_fd e_fpl a_wd e_wn a_rf (-1))), (a_rf, (arI G 5 z4))] hP hD (fun hP hD => ?_)
      exact W.iret (v := (-1)) hx hb hr (fun t ht hW => ⟨⟨(-1), [(a_o, (oc11 a_h a_im a_ke a_k a_wa a_th a_ha a_wk a_r a_x e_tl e_fd e_fpl a_wd e_wn a_rf (-1))), (a_rf, (arI G 5 z4)), (a_k, (oc5 a_h a_j a_pt e_ln e_se e_lh e_br e_we e_me e_ce e_wy e_ho e_ov)), (a_h, (oc1 e_wa e_le e_st e_fo e_lc a_l a_g a_b a_s a_p a_w e_gb a_bb)), (a_g, (oc6 6 5 a_gn e_g)), (a_gn, (arI G 30 f_g)), (a_b, (oc6 5 24 a_bn e_b)), (a_bn, (arI G 120 f_b)), (a_p, (oc6 8 5 a_pn e_p)), (a_pn, (arI G 40 f_p)), (a_bb, (arJ G 24 f_bb)), (a_j, (oc2 a_as a_sk)), (a_as, (arI G 8 f_as)), (a_sk, (arJ G 50 f_sk)), (a_l, (arW G 6 f_l)), (a_pt, (arI G 200 f_pt)), (a_wa, (oc10 a_h a_k a_bo)), (a_bo, (arJ G 24 f_bo)), (a_wd, (arI G 24 f_wd))], rfl, ⟨(-1), (-1), z4, e_wn, e_ln, e_se, e_lh, e_br, e_we, e_me, e_ce, e_wy, e_ho, e_ov, f_pt, f_as, f_sk, f_bo, f_wd, h_e_ov, h_e_wn, (wand_1 (f := f_ro) (g := f_wd) (n := e_wn) (s := p_s) (c := p_c) (fun q => by unfold okD at q; omega)).1.symm, (wand_1 (f := f_ro) (g := f_wd) (n := e_wn) (s := p_s) (c := p_c) (fun q => by unfold okD at q; omega)).2.symm, rfl, rfl⟩, by rw [ht]; exact hP.sub [17, 18, 0, 1, 2, 3, 4, 5, 6, 7, 8, 9, 10, 11, 12, 13, 14, 15, 16] rfl, hD.sub [17, 18, 0, 1, 2, 3, 4, 5, 6, 7, 8, 9, 10, 11, 12, 13, 14, 15, 16] (by decide) rfl⟩, hS.F ht⟩) hS.2.2 dX11_wander_22
    ·
      have i_3 : p_s.toInt ≤ 1000000 := by have z := g5_gtN (a := p_s.toInt) (b := 1000000) (by rfl) (by decide) c_3; omega
      refine lv_iload_n hx hb dX11_wander_10 rfl (lv_at hl 2 rfl) ?_
      obtain ⟨hPc, hDc, hFc⟩ := g5_sub3 (wc := []) hP hD hS hA [] (by decide) rfl
      refine va_calli (va_runS (As := [.int p_c]) (rest := []) ⟨hx, hb, hml, hown, hts⟩ (x_isCellX l G s.heap.size p_c) (va_cwS 1 hts gS_X11_97 rfl rfl rfl hs_X11_isCell ⟨Nat.le_of_ble_eq_true rfl, Nat.le_of_ble_eq_true rfl⟩) (g5_preS hPc hK hDc hN hT hS hFc) rfl rfl hl.1 rfl (lv_room (Nat.le_of_ble_eq_true rfl)) dX11_wander_11 ⟨Nat.le_of_ble_eq_true rfl, Nat.le_of_ble_eq_true rfl⟩) hS (fun q _ h => hFc q h) hFc (fun r u t H1 locs ht hvm hw hB hz1 hk1 hS => ?_)
      obtain ⟨hP1, hD1⟩ := hB
      rw [ht] at hP1
      rcases hw with ⟨i_5, rfl, rfl⟩ | ⟨i_6, rfl, rfl⟩
      ·
        have i_5 : 0 ≤ p_c.toInt ∧ p_c.toInt ≤ 63 := i_5
        have hP := g5_same hP hk1
        generalize H1 = H at hP hS ⊢
        refine lv_if_ne (tgt := 23) hx hb dX11_wander_14 (by decide) (fun c_7 => ?_) (fun c_7 => ?_)
        ·
          refine lv_aload_n hx hb dX11_wander_23 rfl (lv_at hl 0 rfl) ?_
          refine va_get (D := G.1) (ci := 11) (v := .ref a_h) (C := RX11) (T := TX11) (N := 17) hx hb hts inG_X11 hown hK hP 0 rfl rfl 0 (by decide) (hts _ fl_X11_12) (fun _ h9 => h9) rfl dX11_wander_24 ?_
          refine va_get (D := G.1) (ci := 1) (v := .long e_wa) (C := RX1) (T := TX1) (N := 13) hx hb hts inG_X1 hown hK hP 3 rfl rfl 0 (by decide) (hts _ fl_X11_111) (fun _ h9 => h9) rfl dX11_wander_27 ?_
          refine lv_iload_n hx hb dX11_wander_30 rfl (lv_at hl 2 rfl) ?_
          obtain ⟨hPc, hDc, hFc⟩ := g5_sub3 (wc := []) hP hD hS hA [] (by decide) rfl
          refine va_calli (va_runS (As := [.long e_wa, .int p_c]) (rest := []) ⟨hx, hb, hml, hown, hts⟩ (k_isOn l G H.size p_c e_wa i_5) (va_cwS 2 hts gS_X11_115 rfl rfl rfl hs_X11_isOn ⟨Nat.le_of_ble_eq_true rfl, Nat.le_of_ble_eq_true rfl⟩) (g5_preS hPc hK hDc hN hT hS hFc) rfl rfl hl.1 rfl (lv_room (Nat.le_of_ble_eq_true rfl)) dX11_wander_31 ⟨Nat.le_of_ble_eq_true rfl, Nat.le_of_ble_eq_true rfl⟩) hS (fun q _ h => hFc q h) hFc (fun r u t H1 locs ht hvm hw hB hz1 hk1 hS => ?_)
          obtain ⟨hP1, hD1⟩ := hB
          rw [ht] at hP1
          rcases hw with ⟨i_8, rfl, rfl⟩ | ⟨i_9, rfl, rfl⟩
          ·
            have i_8 : onB e_wa p_c.toInt = false := i_8
            have hP := g5_same hP hk1
            generalize H1 = H at hP hS ⊢
            refine lv_if_eq (tgt := 44) hx hb dX11_wander_34 (by decide) (fun c_10 => ?_) (fun c_10 => ?_)
            ·
              refine lv_aload_n hx hb dX11_wander_44 rfl (lv_at hl 0 rfl) ?_
              refine va_get (D := G.1) (ci := 11) (v := .ref a_wa) (C := RX11) (T := TX11) (N := 17) hx hb hts inG_X11 hown hK hP 0 rfl rfl 4 (by decide) (hts _ fl_X11_38) (fun _ h9 => h9) rfl dX11_wander_45 ?_
              obtain ⟨hPc, hDc, hFc⟩ := g5_sub3 (wc := [(a_k, (oc5 a_h a_j a_pt e_ln e_se e_lh e_br e_we e_me e_ce e_wy e_ho e_ov)), (a_h, (oc1 e_wa e_le e_st e_fo e_lc a_l a_g a_b a_s a_p a_w e_gb a_bb)), (a_g, (oc6 6 5 a_gn e_g)), (a_gn, (arI G 30 f_g)), (a_b, (oc6 5 24 a_bn e_b)), (a_bn, (arI G 120 f_b)), (a_p, (oc6 8 5 a_pn e_p)), (a_pn, (arI G 40 f_p)), (a_bb, (arJ G 24 f_bb)), (a_j, (oc2 a_as a_sk)), (a_as, (arI G 8 f_as)), (a_sk, (arJ G 50 f_sk)), (a_l, (arW G 6 f_l)), (a_pt, (arI G 200 f_pt)), (a_wa, (oc10 a_h a_k a_bo)), (a_bo, (arJ G 24 f_bo))]) hP hD hS hA [2, 3, 4, 5, 6, 7, 8, 9, 10, 11, 12, 13, 14, 15, 16, 17] (by decide) rfl
              refine va_callv (va_runV (As := []) (rest := []) ⟨hx, hb, hml, hown, hts⟩ (w_lookAroundN l G a_k a_h a_g a_gn a_b a_bn a_p a_pn a_bb a_j a_as a_sk a_l a_pt a_wa a_bo a_s a_w H.size e_le e_st e_fo e_lc e_g e_b e_p e_ln e_se e_lh e_br e_we e_me e_ce e_wy e_ho e_ov e_wa e_gb f_g f_b f_p f_bb f_as f_sk f_l f_pt f_bo h_e_g h_e_b h_e_p h_e_ov (e_gk) (e_pk) (e_gi) (e_f)) (cwV 0 hts gV_X11_254 rfl rfl rfl hv_X10_lookAround ⟨Nat.le_of_ble_eq_true rfl, Nat.le_of_ble_eq_true rfl⟩) (g5_preV hPc hK hDc hN hT hS hFc (ci := 10) (q0 := 14) rfl rfl) rfl rfl hl.1 rfl (lv_room (Nat.le_of_ble_eq_true rfl)) dX11_wander_48 ⟨Nat.le_of_ble_eq_true rfl, Nat.le_of_ble_eq_true rfl⟩) hS (fun q _ h => hFc q h) hFc (fun u t H1 locs ht hvm hw hB hz1 hk1 hS => ?_)
              obtain ⟨hP1, hD1⟩ := hB
              rw [ht] at hP1
              obtain ⟨z12, z13, z14, z15, z16, z17, z18, z19, z20, z21, z22, z23, z24, z25, i_11, rfl⟩ := hw
              have i_11 : 0 ≤ z21.toInt ∧ z21.toInt ≤ 1 := i_11
              obtain ⟨hP, hD⟩ := va_join (wr := [(a_o, (oc11 a_h a_im a_ke a_k a_wa a_th a_ha a_wk a_r a_x e_tl e_fd e_fpl a_wd e_wn a_rf e_lr)), (a_rf, (arI G 5 f_rf)), (a_wd, (arI G 24 f_wd))]) hP hD [2, 3, 4, 5, 6, 7, 8, 9, 10, 11, 12, 13, 14, 15, 16, 17] [0, 1, 18] rfl rfl (by decide) (by decide) hk1 hFc hP1 hD1
              generalize H1 = H at hP hS ⊢
              refine g5_rs [(a_o, (oc11 a_h a_im a_ke a_k a_wa a_th a_ha a_wk a_r a_x e_tl e_fd e_fpl a_wd e_wn a_rf e_lr)), (a_rf, (arI G 5 f_rf)), (a_wd, (arI G 24 f_wd)), (a_k, (oc5 a_h a_j a_pt z12 z13 z14 z15 z16 z17 z18 z19 z20 z21)), (a_h, (oc1 e_wa e_le e_st e_fo e_lc a_l a_g a_b a_s a_p a_w e_gb a_bb)), (a_g, (oc6 6 5 a_gn e_g)), (a_gn, (arI G 30 f_g)), (a_b, (oc6 5 24 a_bn e_b)), (a_bn, (arI G 120 f_b)), (a_p, (oc6 8 5 a_pn e_p)), (a_pn, (arI G 40 f_p)), (a_bb, (arJ G 24 f_bb)), (a_j, (oc2 a_as a_sk)), (a_as, (arI G 8 z23)), (a_sk, (arJ G 50 z24)), (a_l, (arW G 6 f_l)), (a_pt, (arI G 200 z22)), (a_wa, (oc10 a_h a_k a_bo)), (a_bo, (arJ G 24 z25))] hP hD (fun hP hD => ?_)
              refine lv_aload_n hx hb dX11_wander_51 rfl (lv_at hl 0 rfl) ?_
              refine lv_iconst (v := 1) hx hb dX11_wander_52 (by decide) ?_
              refine va_put (D := G.1) (ci := 11) (v := .int 1) (ty := .boolean) (C := RX11) (T := TX11) (N := 17) hx hb hts inG_X11 tyX11 tyX11_ok nmX11 hown hK hP hD hS 0 rfl rfl 14 (by decide) (hts _ fl_X11_87) (fun _ h9 => h9) rfl (by decide +kernel) rfl rfl (Nat.le_of_ble_eq_true rfl) dX11_wander_53 (fun H locs hP hD hS => ?_)
              refine g5_rs [(a_o, (oc11 a_h a_im a_ke a_k a_wa a_th a_ha a_wk a_r a_x e_tl e_fd e_fpl a_wd 1 a_rf e_lr)), (a_rf, (arI G 5 f_rf)), (a_wd, (arI G 24 f_wd)), (a_k, (oc5 a_h a_j a_pt z12 z13 z14 z15 z16 z17 z18 z19 z20 z21)), (a_h, (oc1 e_wa e_le e_st e_fo e_lc a_l a_g a_b a_s a_p a_w e_gb a_bb)), (a_g, (oc6 6 5 a_gn e_g)), (a_gn, (arI G 30 f_g)), (a_b, (oc6 5 24 a_bn e_b)), (a_bn, (arI G 120 f_b)), (a_p, (oc6 8 5 a_pn e_p)), (a_pn, (arI G 40 f_p)), (a_bb, (arJ G 24 f_bb)), (a_j, (oc2 a_as a_sk)), (a_as, (arI G 8 z23)), (a_sk, (arJ G 50 z24)), (a_l, (arW G 6 f_l)), (a_pt, (arI G 200 z22)), (a_wa, (oc10 a_h a_k a_bo)), (a_bo, (arJ G 24 z25))] hP hD (fun hP hD => ?_)
              refine lv_iload_n hx hb dX11_wander_56 rfl (lv_at hl 1 rfl) ?_
              refine lv_i2l (v := p_s.toInt64) hx hb dX11_wander_57 rfl ?_
              refine lv_lstore_n (lv' := [(3, .long p_s.toInt64), (0, .ref a_o), (1, .int p_s), (2, .int p_c)]) hx hb dX11_wander_58 rfl hl (by decide) rfl (fun ls hl => ?_)
              refine lv_iload_n hx hb dX11_wander_59 rfl (lv_at hl 3 rfl) ?_
              refine lv_istore (lv' := [(5, .int p_c), (3, .long p_s.toInt64), (0, .ref a_o), (1, .int p_s), (2, .int p_c)]) hx hb dX11_wander_60 hl (by decide) rfl (fun ls hl => ?_)
              refine lv_iconst (v := 0) hx hb dX11_wander_62 (by decide) ?_
              refine lv_istore (lv' := [(6, .int 0), (5, .int p_c), (3, .long p_s.toInt64), (0, .ref a_o), (1, .int p_s), (2, .int p_c)]) hx hb dX11_wander_63 hl (by decide) rfl (fun ls hl => ?_)
              refine lv_iconst (v := 0) hx hb dX11_wander_65 (by decide) ?_
              refine lv_istore (lv' := [(7, .int 0), (6, .int 0), (5, .int p_c), (3, .long p_s.toInt64), (0, .ref a_o), (1, .int p_s), (2, .int p_c)]) hx hb dX11_wander_66 hl (by decide) rfl (fun ls hl => ?_)
              refine g5_loop (α := (Int64) × (Int32) × (Int32) × (Int32) × (Nat → Int32)) (fun (q : (Int64) × (Int32) × (Int32) × (Int32) × (Nat → Int32)) (ls : Array Slot) (H : Heap) (locs : List Loc) => match q with | (k_d, k_a, k_n, k_i, k_wd) => lv_has ls 9 [(3, .long k_d), (5, .int k_a), (6, .int k_n), (7, .int k_i), (0, .ref a_o), (1, .int p_s), (2, .int p_c)] ∧ va_P G.1 vwCl [(a_o, (oc11 a_h a_im a_ke a_k a_wa a_th a_ha a_wk a_r a_x e_tl e_fd e_fpl a_wd 1 a_rf e_lr)), (a_rf, (arI G 5 f_rf)), (a_wd, (arI G 24 k_wd)), (a_k, (oc5 a_h a_j a_pt z12 z13 z14 z15 z16 z17 z18 z19 z20 z21)), (a_h, (oc1 e_wa e_le e_st e_fo e_lc a_l a_g a_b a_s a_p a_w e_gb a_bb)), (a_g, (oc6 6 5 a_gn e_g)), (a_gn, (arI G 30 f_g)), (a_b, (oc6 5 24 a_bn e_b)), (a_bn, (arI G 120 f_b)), (a_p, (oc6 8 5 a_pn e_p)), (a_pn, (arI G 40 f_p)), (a_bb, (arJ G 24 f_bb)), (a_j, (oc2 a_as a_sk)), (a_as, (arI G 8 z23)), (a_sk, (arJ G 50 z24)), (a_l, (arW G 6 f_l)), (a_pt, (arI G 200 z22)), (a_wa, (oc10 a_h a_k a_bo)), (a_bo, (arJ G 24 z25))] H ∧ va_D A [(a_o, (oc11 a_h a_im a_ke a_k a_wa a_th a_ha a_wk a_r a_x e_tl e_fd e_fpl a_wd 1 a_rf e_lr)), (a_rf, (arI G 5 f_rf)), (a_wd, (arI G 24 k_wd)), (a_k, (oc5 a_h a_j a_pt z12 z13 z14 z15 z16 z17 z18 z19 z20 z21)), (a_h, (oc1 e_wa e_le e_st e_fo e_lc a_l a_g a_b a_s a_p a_w e_gb a_bb)), (a_g, (oc6 6 5 a_gn e_g)), (a_gn, (arI G 30 f_g)), (a_b, (oc6 5 24 a_bn e_b)), (a_bn, (arI G 120 f_b)), (a_p, (oc6 8 5 a_pn e_p)), (a_pn, (arI G 40 f_p)), (a_bb, (arJ G 24 f_bb)), (a_j, (oc2 a_as a_sk)), (a_as, (arI G 8 z23)), (a_sk, (arJ G 50 z24)), (a_l, (arW G 6 f_l)), (a_pt, (arI G 200 z22)), (a_wa, (oc10 a_h a_k a_bo)), (a_bo, (arJ G 24 z25))] ∧ va_S A s.heap H locs ∧ (0 ≤ k_a.toInt ∧ k_a.toInt ≤ 63) ∧ (0 ≤ k_i.toInt ∧ k_i.toInt ≤ 24) ∧ (k_d = wdS p_s.toInt64 (k_i.toInt.toNat - 1)) ∧ (k_a.toInt = wdC f_ro p_s.toInt64 p_c.toInt (k_i.toInt.toNat - 1)) ∧ (k_wd = wdR f_ro p_s.toInt64 p_c.toInt f_wd k_i.toInt.toNat)) (fun (q : (Int64) × (Int32) × (Int32) × (Int32) × (Nat → Int32)) => match q with | (k_d, k_a, k_n, k_i, k_wd) => Int.toNat (24 - k_i.toInt)) (p_s.toInt64, p_c, 0, 0, f_wd) ⟨lv_sub hl [3, 2, 1, 0, 4, 5, 6] rfl, hP, hD, hS, i_5, ⟨by decide, by decide⟩, by rw [show (0 : Int32).toInt.toNat = 0 from by decide]; rfl, by rw [show (0 : Int32).toInt.toNat = 0 from by decide]; rfl, by rw [show (0 : Int32).toInt.toNat = 0 from by decide]; rfl⟩ ?_
              rintro ⟨k_d, k_a, k_n, k_i, k_wd⟩ ls H locs ⟨hl, hP, hD, hS, i_26, i_27, i_28, i_29, i_30⟩ ih_68_31
              have hl : lv_has ls 9 [(3, .long k_d), (5, .int k_a), (6, .int k_n), (7, .int k_i), (0, .ref a_o), (1, .int p_s), (2, .int p_c)] := hl
              have i_26 : 0 ≤ k_a.toInt ∧ k_a.toInt ≤ 63 := i_26
              have i_27 : 0 ≤ k_i.toInt ∧ k_i.toInt ≤ 24 := i_27
              have i_28 : k_d = wdS p_s.toInt64 (k_i.toInt.toNat - 1) := i_28
              have i_29 : k_a.toInt = wdC f_ro p_s.toInt64 p_c.toInt (k_i.toInt.toNat - 1) := i_29
              have i_30 : k_wd = wdR f_ro p_s.toInt64 p_c.toInt f_wd k_i.toInt.toNat := i_30
              refine g5_rs [(a_o, (oc11 a_h a_im a_ke a_k a_wa a_th a_ha a_wk a_r a_x e_tl e_fd e_fpl a_wd 1 a_rf e_lr)), (a_rf, (arI G 5 f_rf)), (a_wd, (arI G 24 k_wd)), (a_k, (oc5 a_h a_j a_pt z12 z13 z14 z15 z16 z17 z18 z19 z20 z21)), (a_h, (oc1 e_wa e_le e_st e_fo e_lc a_l a_g a_b a_s a_p a_w e_gb a_bb)), (a_g, (oc6 6 5 a_gn e_g)), (a_gn, (arI G 30 f_g)), (a_b, (oc6 5 24 a_bn e_b)), (a_bn, (arI G 120 f_b)), (a_p, (oc6 8 5 a_pn e_p)), (a_pn, (arI G 40 f_p)), (a_bb, (arJ G 24 f_bb)), (a_j, (oc2 a_as a_sk)), (a_as, (arI G 8 z23)), (a_sk, (arJ G 50 z24)), (a_l, (arW G 6 f_l)), (a_pt, (arI G 200 z22)), (a_wa, (oc10 a_h a_k a_bo)), (a_bo, (arJ G 24 z25))] hP hD (fun hP hD => ?_)
              refine lv_iload hx hb dX11_wander_68 (lv_at hl 3 rfl) ?_
              refine lv_bipush (v := 24) hx hb dX11_wander_70 (by decide) ?_
              refine lv_icmp_ge (tgt := 173) hx hb dX11_wander_72 (by decide) (fun c_32 => ?_) (fun c_32 => ?_)
              ·
                have i_32 : k_i.toInt ≥ 24 := by have z := g5_ge (a := k_i.toInt) (b := 24) (by rfl) (by decide) c_32; omega
                refine lv_aload_n hx hb dX11_wander_173 rfl (lv_at hl 4 rfl) ?_
                refine lv_iload hx hb dX11_wander_174 (lv_at hl 2 rfl) ?_
                obtain ⟨hPc, hDc, hFc⟩ := g5_sub3 (wc := [(a_o, (oc11 a_h a_im a_ke a_k a_wa a_th a_ha a_wk a_r a_x e_tl e_fd e_fpl a_wd 1 a_rf e_lr))]) hP hD hS hA [0] (by decide) rfl
                refine va_calli (va_runV (As := [.int k_n]) (rest := []) ⟨hx, hb, hml, hown, hts⟩ (x_done l G a_o a_h a_im a_ke a_k a_wa a_th a_ha a_wk a_r a_x a_wd a_rf H.size e_tl e_fd e_fpl 1 e_lr k_n h_e_tl ⟨by decide, by decide⟩) (cwV 1 hts gV_X11_121 rfl rfl rfl hv_X11_done ⟨Nat.le_of_ble_eq_true rfl, Nat.le_of_ble_eq_true rfl⟩) (g5_preV hPc hK hDc hN hT hS hFc (ci := 11) (q0 := 0) rfl rfl) rfl rfl hl.1 rfl (lv_room (Nat.le_of_ble_eq_true rfl)) dX11_wander_176 ⟨Nat.le_of_ble_eq_true rfl, Nat.le_of_ble_eq_true rfl⟩) hS (fun q _ h => hFc q h) hFc (fun r u t H1 locs ht hvm hw hB hz1 hk1 hS => ?_)
                obtain ⟨hP1, hD1⟩ := hB
                rw [ht] at hP1
                obtain ⟨y33, rfl⟩ := hw
                obtain ⟨hP, hD⟩ := va_join (wr := [(a_rf, (arI G 5 f_rf)), (a_wd, (arI G 24 k_wd)), (a_k, (oc5 a_h a_j a_pt z12 z13 z14 z15 z16 z17 z18 z19 z20 z21)), (a_h, (oc1 e_wa e_le e_st e_fo e_lc a_l a_g a_b a_s a_p a_w e_gb a_bb)), (a_g, (oc6 6 5 a_gn e_g)), (a_gn, (arI G 30 f_g)), (a_b, (oc6 5 24 a_bn e_b)), (a_bn, (arI G 120 f_b)), (a_p, (oc6 8 5 a_pn e_p)), (a_pn, (arI G 40 f_p)), (a_bb, (arJ G 24 f_bb)), (a_j, (oc2 a_as a_sk)), (a_as, (arI G 8 z23)), (a_sk, (arJ G 50 z24)), (a_l, (arW G 6 f_l)), (a_pt, (arI G 200 z22)), (a_wa, (oc10 a_h a_k a_bo)), (a_bo, (arJ G 24 z25))]) hP hD [0] [1, 2, 3, 4, 5, 6, 7, 8, 9, 10, 11, 12, 13, 14, 15, 16, 17, 18] rfl rfl (by decide) (by decide) hk1 hFc hP1 hD1
                generalize H1 = H at hP hS ⊢
                refine g5_rs [(a_rf, (arI G 5 f_rf)), (a_wd, (arI G 24 k_wd)), (a_k, (oc5 a_h a_j a_pt z12 z13 z14 z15 z16 z17 z18 z19 z20 z21)), (a_h, (oc1 e_wa e_le e_st e_fo e_lc a_l a_g a_b a_s a_p a_w e_gb a_bb)), (a_g, (oc6 6 5 a_gn e_g)), (a_gn, (arI G 30 f_g)), (a_b, (oc6 5 24 a_bn e_b)), (a_bn, (arI G 120 f_b)), (a_p, (oc6 8 5 a_pn e_p)), (a_pn, (arI G 40 f_p)), (a_bb, (arJ G 24 f_bb)), (a_j, (oc2 a_as a_sk)), (a_as, (arI G 8 z23)), (a_sk, (arJ G 50 z24)), (a_l, (arW G 6 f_l)), (a_pt, (arI G 200 z22)), (a_wa, (oc10 a_h a_k a_bo)), (a_bo, (arJ G 24 z25)), (a_o, (oc11 a_h a_im a_ke a_k a_wa a_th a_ha a_wk a_r a_x e_tl e_fd e_fpl a_wd 1 a_rf 0))] hP hD (fun hP hD => ?_)
                refine g5_ti (v := k_n) y33 ?_
                exact W.iret (v := k_n) hx hb hr (fun t ht hW => ⟨⟨k_n, [(a_o, (oc11 a_h a_im a_ke a_k a_wa a_th a_ha a_wk a_r a_x e_tl e_fd e_fpl a_wd 1 a_rf 0)), (a_rf, (arI G 5 f_rf)), (a_k, (oc5 a_h a_j a_pt z12 z13 z14 z15 z16 z17 z18 z19 z20 z21)), (a_h, (oc1 e_wa e_le e_st e_fo e_lc a_l a_g a_b a_s a_p a_w e_gb a_bb)), (a_g, (oc6 6 5 a_gn e_g)), (a_gn, (arI G 30 f_g)), (a_b, (oc6 5 24 a_bn e_b)), (a_bn, (arI G 120 f_b)), (a_p, (oc6 8 5 a_pn e_p)), (a_pn, (arI G 40 f_p)), (a_bb, (arJ G 24 f_bb)), (a_j, (oc2 a_as a_sk)), (a_as, (arI G 8 z23)), (a_sk, (arJ G 50 z24)), (a_l, (arW G 6 f_l)), (a_pt, (arI G 200 z22)), (a_wa, (oc10 a_h a_k a_bo)), (a_bo, (arJ G 24 z25)), (a_wd, (arI G 24 k_wd))], rfl, ⟨k_n, 0, f_rf, 1, z12, z13, z14, z15, z16, z17, z18, z19, z20, z21, z22, z23, z24, z25, k_wd, i_11, ⟨by have zc_o_wn : (1 : Int32).toInt = 1 := (by decide); omega, by have zc_o_wn : (1 : Int32).toInt = 1 := (by decide); omega⟩, by rw [(wand_0 (f := f_ro) (g := f_wd) (n := e_wn) (s := p_s) (c := p_c) (by unfold okD; omega) (wl_n e_hh (by omega) (Or.inr i_8))).1, i_30, show k_i.toInt.toNat = 24 by omega], (wand_0 (f := f_ro) (g := f_wd) (n := e_wn) (s := p_s) (c := p_c) (by unfold okD; omega) (wl_n e_hh (by omega) (Or.inr i_8))).2.symm, rfl, rfl⟩, by rw [ht]; exact hP.sub [18, 0, 2, 3, 4, 5, 6, 7, 8, 9, 10, 11, 12, 13, 14, 15, 16, 17, 1] rfl, hD.sub [18, 0, 2, 3, 4, 5, 6, 7, 8, 9, 10, 11, 12, 13, 14, 15, 16, 17, 1] (by decide) rfl⟩, hS.F ht⟩) hS.2.2 dX11_wander_179
              ·
                have i_32 : k_i.toInt < 24 := by have z := g5_geN (a := k_i.toInt) (b := 24) (by rfl) (by decide) c_32; omega
                refine lv_iload hx hb dX11_wander_75 (lv_at hl 3 rfl) ?_
                refine lv_if_le (tgt := 137) hx hb dX11_wander_77 (by decide) (fun c_34 => ?_) (fun c_34 => ?_)
                ·
                  have i_34 : k_i.toInt ≤ 0 := by have z := g5_le (a := k_i.toInt) (b := 0) (by rfl) (by decide) c_34; omega
                  refine lv_aload_n hx hb dX11_wander_137 rfl (lv_at hl 4 rfl) ?_
                  refine va_get (D := G.1) (ci := 11) (v := .ref a_wd) (C := RX11) (T := TX11) (N := 17) hx hb hts inG_X11 hown hK hP 0 rfl rfl 13 (by decide) (hts _ fl_X11_84) (fun _ h9 => h9) rfl dX11_wander_138 ?_
                  refine lv_iload hx hb dX11_wander_141 (lv_at hl 3 rfl) ?_
                  refine lv_iload hx hb dX11_wander_143 (lv_at hl 1 rfl) ?_
                  refine va_iast hx hb hK hP hD hS 2 0 rfl rfl (i := k_i) (x := k_a) (vp_in_iff.mpr ⟨by omega, by omega⟩) dX11_wander_145 (fun H locs hP hD hS => ?_)
                  refine g5_rs [(a_o, (oc11 a_h a_im a_ke a_k a_wa a_th a_ha a_wk a_r a_x e_tl e_fd e_fpl a_wd 1 a_rf e_lr)), (a_rf, (arI G 5 f_rf)), (a_wd, (arI G 24 (upd k_wd k_i.toNatClampNeg k_a))), (a_k, (oc5 a_h a_j a_pt z12 z13 z14 z15 z16 z17 z18 z19 z20 z21)), (a_h, (oc1 e_wa e_le e_st e_fo e_lc a_l a_g a_b a_s a_p a_w e_gb a_bb)), (a_g, (oc6 6 5 a_gn e_g)), (a_gn, (arI G 30 f_g)), (a_b, (oc6 5 24 a_bn e_b)), (a_bn, (arI G 120 f_b)), (a_p, (oc6 8 5 a_pn e_p)), (a_pn, (arI G 40 f_p)), (a_bb, (arJ G 24 f_bb)), (a_j, (oc2 a_as a_sk)), (a_as, (arI G 8 z23)), (a_sk, (arJ G 50 z24)), (a_l, (arW G 6 f_l)), (a_pt, (arI G 200 z22)), (a_wa, (oc10 a_h a_k a_bo)), (a_bo, (arJ G 24 z25))] hP hD (fun hP hD => ?_)
                  refine lv_aload_n hx hb dX11_wander_146 rfl (lv_at hl 4 rfl) ?_
                  refine va_get (D := G.1) (ci := 11) (v := .ref a_wa) (C := RX11) (T := TX11) (N := 17) hx hb hts inG_X11 hown hK hP 0 rfl rfl 4 (by decide) (hts _ fl_X11_38) (fun _ h9 => h9) rfl dX11_wander_147 ?_
                  refine va_get (D := G.1) (ci := 10) (v := .ref a_bo) (C := RX10) (T := TX10) (N := 3) hx hb hts inG_X10 hown hK hP 17 rfl rfl 2 (by decide) (hts _ fl_X11_257) (fun _ h9 => h9) rfl dX11_wander_150 ?_
                  refine lv_iload hx hb dX11_wander_153 (lv_at hl 3 rfl) ?_
                  refine va_lald hx hb hK hP 18 1 rfl rfl (i := k_i) (vp_in_iff.mpr ⟨by omega, by omega⟩) dX11_wander_155 ?_
                  refine lv_iload hx hb dX11_wander_156 (lv_at hl 1 rfl) ?_
                  obtain ⟨hPc, hDc, hFc⟩ := g5_sub3 (wc := []) hP hD hS hA [] (by decide) rfl
                  refine va_calli (va_runS (As := [.long (z25 k_i.toNatClampNeg), .int k_a]) (rest := []) ⟨hx, hb, hml, hown, hts⟩ (k_isOn l G H.size k_a (z25 k_i.toNatClampNeg) i_26) (va_cwS 2 hts gS_X11_115 rfl rfl rfl hs_X11_isOn ⟨Nat.le_of_ble_eq_true rfl, Nat.le_of_ble_eq_true rfl⟩) (g5_preS hPc hK hDc hN hT hS hFc) rfl rfl hl.1 rfl (lv_room (Nat.le_of_ble_eq_true rfl)) dX11_wander_158 ⟨Nat.le_of_ble_eq_true rfl, Nat.le_of_ble_eq_true rfl⟩) hS (fun q _ h => hFc q h) hFc (fun r u t H1 locs ht hvm hw hB hz1 hk1 hS => ?_)
                  obtain ⟨hP1, hD1⟩ := hB
                  rw [ht] at hP1
                  rcases hw with ⟨i_35, rfl, rfl⟩ | ⟨i_36, rfl, rfl⟩
                  ·
                    have i_35 : onB (z25 k_i.toNatClampNeg) k_a.toInt = false := i_35
                    have hP := g5_same hP hk1
                    generalize H1 = H at hP hS ⊢
                    refine lv_if_eq (tgt := 167) hx hb dX11_wander_161 (by decide) (fun c_37 => ?_) (fun c_37 => ?_)
                    ·
                      refine lv_iinc (v := (k_i + 1)) (lv' := [(7, .int (k_i + 1)), (3, .long k_d), (5, .int k_a), (6, .int k_n), (0, .ref a_o), (1, .int p_s), (2, .int p_c)]) hx hb dX11_wander_167 hl (k := 3) rfl rfl (by decide) rfl (fun ls hl => ?_)
                      have t_38 : (k_i + 1).toInt = k_i.toInt + 1 := g5_iadd (a := k_i.toInt) (b := 1) rfl (by decide) (by omega) (by omega)
                      refine lv_goto (tgt := 68) hx hb dX11_wander_170 (by decide) ?_
                      exact ih_68_31 (k_d, k_a, k_n, (k_i + 1), (upd k_wd k_i.toNatClampNeg k_a)) ls H locs (show Int.toNat (24 - (k_i + 1).toInt) < Int.toNat (24 - k_i.toInt) from g_up (show k_i.toInt < (k_i + 1).toInt by omega) (show k_i.toInt < 24 by omega)) ⟨lv_sub hl [1, 2, 3, 0, 4, 5, 6] rfl, hP, hD, hS, i_26, ⟨by omega, by omega⟩, by rw [show (k_i + 1).toInt.toNat - 1 = k_i.toInt.toNat - 1 by omega]; exact i_28, by rw [show (k_i + 1).toInt.toNat - 1 = k_i.toInt.toNat - 1 by omega]; exact i_29, by rw [show (k_i + 1).toInt.toNat = k_i.toInt.toNat + 1 by omega]; exact wdR_S i_30 rfl (by rw [show k_i.toInt.toNat = k_i.toInt.toNat - 1 by omega]; exact i_29)⟩
                    ·
                      exact absurd c_37 (by decide)
                  ·
                    have i_36 : onB (z25 k_i.toNatClampNeg) k_a.toInt = true := i_36
                    have hP := g5_same hP hk1
                    generalize H1 = H at hP hS ⊢
                    refine lv_if_eq (tgt := 167) hx hb dX11_wander_161 (by decide) (fun c_39 => ?_) (fun c_39 => ?_)
                    ·
                      exact absurd c_39 (by decide)
                    ·
                      refine lv_iinc (v := (k_n + 1)) (lv' := [(6, .int (k_n + 1)), (3, .long k_d), (5, .int k_a), (7, .int k_i), (0, .ref a_o), (1, .int p_s), (2, .int p_c)]) hx hb dX11_wander_164 hl (k := 2) rfl rfl (by decide) rfl (fun ls hl => ?_)
                      refine lv_iinc (v := (k_i + 1)) (lv' := [(7, .int (k_i + 1)), (6, .int (k_n + 1)), (3, .long k_d), (5, .int k_a), (0, .ref a_o), (1, .int p_s), (2, .int p_c)]) hx hb dX11_wander_167 hl (k := 3) rfl rfl (by decide) rfl (fun ls hl => ?_)
                      have t_40 : (k_i + 1).toInt = k_i.toInt + 1 := g5_iadd (a := k_i.toInt) (b := 1) rfl (by decide) (by omega) (by omega)
                      refine lv_goto (tgt := 68) hx hb dX11_wander_170 (by decide) ?_
                      exact ih_68_31 (k_d, k_a, (k_n + 1), (k_i + 1), (upd k_wd k_i.toNatClampNeg k_a)) ls H locs (show Int.toNat (24 - (k_i + 1).toInt) < Int.toNat (24 - k_i.toInt) from g_up (show k_i.toInt < (k_i + 1).toInt by omega) (show k_i.toInt < 24 by omega)) ⟨lv_sub hl [2, 3, 1, 0, 4, 5, 6] rfl, hP, hD, hS, i_26, ⟨by omega, by omega⟩, by rw [show (k_i + 1).toInt.toNat - 1 = k_i.toInt.toNat - 1 by omega]; exact i_28, by rw [show (k_i + 1).toInt.toNat - 1 = k_i.toInt.toNat - 1 by omega]; exact i_29, by rw [show (k_i + 1).toInt.toNat = k_i.toInt.toNat + 1 by omega]; exact wdR_S i_30 rfl (by rw [show k_i.toInt.toNat = k_i.toInt.toNat - 1 by omega]; exact i_29)⟩
                ·
                  have i_34 : k_i.toInt > 0 := by have z := g5_leN (a := k_i.toInt) (b := 0) (by rfl) (by decide) c_34; omega
                  refine lv_lload_n hx hb dX11_wander_80 rfl (lv_at hl 0 rfl) ?_
                  refine lv_ldc2 (v := 1103) hx hb hown (hts _ kl_X11_340) dX11_wander_81 ?_
                  refine lv_lmul hx hb dX11_wander_84 ?_
                  refine lv_ldc2 (v := 12345) hx hb hown (hts _ kl_X11_342) dX11_wander_85 ?_
                  refine lv_ladd hx hb dX11_wander_88 ?_
                  refine lv_ldc2 (v := 1000003) hx hb hown (hts _ kl_X11_344) dX11_wander_89 ?_
                  refine lv_lrem hx hb dX11_wander_92 (by decide) ?_
                  refine lv_lstore_n (lv' := [(3, .long (((k_d * 1103) + 12345) - ((k_d * 1103) + 12345) / 1000003 * 1000003)), (5, .int k_a), (6, .int k_n), (7, .int k_i), (0, .ref a_o), (1, .int p_s), (2, .int p_c)]) hx hb dX11_wander_93 rfl hl (by decide) rfl (fun ls hl => ?_)
                  refine lv_iload hx hb dX11_wander_94 (lv_at hl 1 rfl) ?_
                  refine lv_lload_n hx hb dX11_wander_96 rfl (lv_at hl 0 rfl) ?_
                  refine lv_ldc2 (v := 5) hx hb hown (hts _ kl_X11_346) dX11_wander_97 ?_
                  refine lv_lrem hx hb dX11_wander_100 (by decide) ?_
                  refine lv_l2i (v := ((((k_d * 1103) + 12345) - ((k_d * 1103) + 12345) / 1000003 * 1000003) - (((k_d * 1103) + 12345) - ((k_d * 1103) + 12345) / 1000003 * 1000003) / 5 * 5).toInt32) hx hb dX11_wander_101 rfl ?_
                  obtain ⟨y41, hy_41⟩ : ∃ y : Int32, ((((k_d * 1103) + 12345) - ((k_d * 1103) + 12345) / 1000003 * 1000003) - (((k_d * 1103) + 12345) - ((k_d * 1103) + 12345) / 1000003 * 1000003) / 5 * 5).toInt32 = y := ⟨_, rfl⟩
                  refine g5_ti (v := y41) hy_41 ?_
                  obtain ⟨hPc, hDc, hFc⟩ := g5_sub3 (wc := []) hP hD hS hA [] (by decide) rfl
                  refine va_calli (va_runS (As := [.int k_a, .int y41]) (rest := []) ⟨hx, hb, hml, hown, hts⟩ (k_beside l G H.size k_a y41 i_26) (va_cwS 2 hts gS_X11_348 rfl rfl rfl hs_X11_beside ⟨Nat.le_of_ble_eq_true rfl, Nat.le_of_ble_eq_true rfl⟩) (g5_preS hPc hK hDc hN hT hS hFc) rfl rfl hl.1 rfl (lv_room (Nat.le_of_ble_eq_true rfl)) dX11_wander_102 ⟨Nat.le_of_ble_eq_true rfl, Nat.le_of_ble_eq_true rfl⟩) hS (fun q _ h => hFc q h) hFc (fun r u t H1 locs ht hvm hw hB hz1 hk1 hS => ?_)
                  obtain ⟨hP1, hD1⟩ := hB
                  rw [ht] at hP1
                  obtain ⟨z44, i_42, i_43, y45, rfl⟩ := hw
                  have i_42 : z44.toInt = bs k_a.toInt y41.toInt := i_42
                  have i_43 : -1 ≤ z44.toInt ∧ z44.toInt ≤ 63 := i_43
                  have hP := g5_same hP hk1
                  generalize H1 = H at hP hS ⊢
                  refine g5_ti (v := z44) y45 ?_
                  refine lv_istore (lv' := [(8, .int z44), (3, .long (((k_d * 1103) + 12345) - ((k_d * 1103) + 12345) / 1000003 * 1000003)), (5, .int k_a), (6, .int k_n), (7, .int k_i), (0, .ref a_o), (1, .int p_s), (2, .int p_c)]) hx hb dX11_wander_105 hl (by decide) rfl (fun ls hl => ?_)
                  refine lv_iload hx hb dX11_wander_107 (lv_at hl 0 rfl) ?_
                  refine lv_iconst (v := (-1)) hx hb dX11_wander_109 (by decide) ?_
                  refine lv_icmp_eq (tgt := 128) hx hb dX11_wander_110 (by decide) (fun c_46 => ?_) (fun c_46 => ?_)
                  ·
                    have i_46 : z44.toInt = (-1) := by have z := g5_eq (a := z44.toInt) (b := (-1)) (by rfl) (by decide) c_46; omega
                    refine lv_iload hx hb dX11_wander_128 (lv_at hl 2 rfl) ?_
                    refine lv_goto (tgt := 135) hx hb dX11_wander_130 (by decide) ?_
                    refine lv_istore (lv' := [(5, .int k_a), (8, .int z44), (3, .long (((k_d * 1103) + 12345) - ((k_d * 1103) + 12345) / 1000003 * 1000003)), (6, .int k_n), (7, .int k_i), (0, .ref a_o), (1, .int p_s), (2, .int p_c)]) hx hb dX11_wander_135 hl (by decide) rfl (fun ls hl => ?_)
                    refine lv_aload_n hx hb dX11_wander_137 rfl (lv_at hl 5 rfl) ?_
                    refine va_get (D := G.1) (ci := 11) (v := .ref a_wd) (C := RX11) (T := TX11) (N := 17) hx hb hts inG_X11 hown hK hP 0 rfl rfl 13 (by decide) (hts _ fl_X11_84) (fun _ h9 => h9) rfl dX11_wander_138 ?_
                    refine lv_iload hx hb dX11_wander_141 (lv_at hl 4 rfl) ?_
                    refine lv_iload hx hb dX11_wander_143 (lv_at hl 0 rfl) ?_
                    refine va_iast hx hb hK hP hD hS 2 0 rfl rfl (i := k_i) (x := k_a) (vp_in_iff.mpr ⟨by omega, by omega⟩) dX11_wander_145 (fun H locs hP hD hS => ?_)
                    refine g5_rs [(a_o, (oc11 a_h a_im a_ke a_k a_wa a_th a_ha a_wk a_r a_x e_tl e_fd e_fpl a_wd 1 a_rf e_lr)), (a_rf, (arI G 5 f_rf)), (a_wd, (arI G 24 (upd k_wd k_i.toNatClampNeg k_a))), (a_k, (oc5 a_h a_j a_pt z12 z13 z14 z15 z16 z17 z18 z19 z20 z21)), (a_h, (oc1 e_wa e_le e_st e_fo e_lc a_l a_g a_b a_s a_p a_w e_gb a_bb)), (a_g, (oc6 6 5 a_gn e_g)), (a_gn, (arI G 30 f_g)), (a_b, (oc6 5 24 a_bn e_b)), (a_bn, (arI G 120 f_b)), (a_p, (oc6 8 5 a_pn e_p)), (a_pn, (arI G 40 f_p)), (a_bb, (arJ G 24 f_bb)), (a_j, (oc2 a_as a_sk)), (a_as, (arI G 8 z23)), (a_sk, (arJ G 50 z24)), (a_l, (arW G 6 f_l)), (a_pt, (arI G 200 z22)), (a_wa, (oc10 a_h a_k a_bo)), (a_bo, (arJ G 24 z25))] hP hD (fun hP hD => ?_)
                    refine lv_aload_n hx hb dX11_wander_146 rfl (lv_at hl 5 rfl) ?_
                    refine va_get (D := G.1) (ci := 11) (v := .ref a_wa) (C := RX11) (T := TX11) (N := 17) hx hb hts inG_X11 hown hK hP 0 rfl rfl 4 (by decide) (hts _ fl_X11_38) (fun _ h9 => h9) rfl dX11_wander_147 ?_
                    refine va_get (D := G.1) (ci := 10) (v := .ref a_bo) (C := RX10) (T := TX10) (N := 3) hx hb hts inG_X10 hown hK hP 17 rfl rfl 2 (by decide) (hts _ fl_X11_257) (fun _ h9 => h9) rfl dX11_wander_150 ?_
                    refine lv_iload hx hb dX11_wander_153 (lv_at hl 4 rfl) ?_
                    refine va_lald hx hb hK hP 18 1 rfl rfl (i := k_i) (vp_in_iff.mpr ⟨by omega, by omega⟩) dX11_wander_155 ?_
                    refine lv_iload hx hb dX11_wander_156 (lv_at hl 0 rfl) ?_
                    obtain ⟨hPc, hDc, hFc⟩ := g5_sub3 (wc := []) hP hD hS hA [] (by decide) rfl
                    refine va_calli (va_runS (As := [.long (z25 k_i.toNatClampNeg), .int k_a]) (rest := []) ⟨hx, hb, hml, hown, hts⟩ (k_isOn l G H.size k_a (z25 k_i.toNatClampNeg) i_26) (va_cwS 2 hts gS_X11_115 rfl rfl rfl hs_X11_isOn ⟨Nat.le_of_ble_eq_true rfl, Nat.le_of_ble_eq_true rfl⟩) (g5_preS hPc hK hDc hN hT hS hFc) rfl rfl hl.1 rfl (lv_room (Nat.le_of_ble_eq_true rfl)) dX11_wander_158 ⟨Nat.le_of_ble_eq_true rfl, Nat.le_of_ble_eq_true rfl⟩) hS (fun q _ h => hFc q h) hFc (fun r u t H1 locs ht hvm hw hB hz1 hk1 hS => ?_)
                    obtain ⟨hP1, hD1⟩ := hB
                    rw [ht] at hP1
                    rcases hw with ⟨i_47, rfl, rfl⟩ | ⟨i_48, rfl, rfl⟩
                    ·
                      have i_47 : onB (z25 k_i.toNatClampNeg) k_a.toInt = false := i_47
                      have hP := g5_same hP hk1
                      generalize H1 = H at hP hS ⊢
                      refine lv_if_eq (tgt := 167) hx hb dX11_wander_161 (by decide) (fun c_49 => ?_) (fun c_49 => ?_)
                      ·
                        refine lv_iinc (v := (k_i + 1)) (lv' := [(7, .int (k_i + 1)), (5, .int k_a), (8, .int z44), (3, .long (((k_d * 1103) + 12345) - ((k_d * 1103) + 12345) / 1000003 * 1000003)), (6, .int k_n), (0, .ref a_o), (1, .int p_s), (2, .int p_c)]) hx hb dX11_wander_167 hl (k := 4) rfl rfl (by decide) rfl (fun ls hl => ?_)
                        have t_50 : (k_i + 1).toInt = k_i.toInt + 1 := g5_iadd (a := k_i.toInt) (b := 1) rfl (by decide) (by omega) (by omega)
                        refine lv_goto (tgt := 68) hx hb dX11_wander_170 (by decide) ?_
                        exact ih_68_31 ((((k_d * 1103) + 12345) - ((k_d * 1103) + 12345) / 1000003 * 1000003), k_a, k_n, (k_i + 1), (upd k_wd k_i.toNatClampNeg k_a)) ls H locs (show Int.toNat (24 - (k_i + 1).toInt) < Int.toNat (24 - k_i.toInt) from g_up (show k_i.toInt < (k_i + 1).toInt by omega) (show k_i.toInt < 24 by omega)) ⟨lv_sub hl [3, 1, 4, 0, 5, 6, 7] rfl, hP, hD, hS, i_26, ⟨by omega, by omega⟩, by rw [show (k_i + 1).toInt.toNat - 1 = (k_i.toInt.toNat - 1) + 1 by omega, wdS_S, ← i_28]; rfl, by rw [show (k_i + 1).toInt.toNat - 1 = (k_i.toInt.toNat - 1) + 1 by omega]; exact (by rw [wdC_S (wdk_of i_28 hy_41), ← i_29, ws_n (by rw [← i_42]; omega)]), by rw [show (k_i + 1).toInt.toNat = k_i.toInt.toNat + 1 by omega]; exact wdR_S i_30 rfl (by rw [show k_i.toInt.toNat = (k_i.toInt.toNat - 1) + 1 by omega]; exact (by rw [wdC_S (wdk_of i_28 hy_41), ← i_29, ws_n (by rw [← i_42]; omega)]))⟩
                      ·
                        exact absurd c_49 (by decide)
                    ·
                      have i_48 : onB (z25 k_i.toNatClampNeg) k_a.toInt = true := i_48
                      have hP := g5_same hP hk1
                      generalize H1 = H at hP hS ⊢
                      refine lv_if_eq (tgt := 167) hx hb dX11_wander_161 (by decide) (fun c_51 => ?_) (fun c_51 => ?_)
                      ·
                        exact absurd c_51 (by decide)
                      ·
                        refine lv_iinc (v := (k_n + 1)) (lv' := [(6, .int (k_n + 1)), (5, .int k_a), (8, .int z44), (3, .long (((k_d * 1103) + 12345) - ((k_d * 1103) + 12345) / 1000003 * 1000003)), (7, .int k_i), (0, .ref a_o), (1, .int p_s), (2, .int p_c)]) hx hb dX11_wander_164 hl (k := 3) rfl rfl (by decide) rfl (fun ls hl => ?_)
                        refine lv_iinc (v := (k_i + 1)) (lv' := [(7, .int (k_i + 1)), (6, .int (k_n + 1)), (5, .int k_a), (8, .int z44), (3, .long (((k_d * 1103) + 12345) - ((k_d * 1103) + 12345) / 1000003 * 1000003)), (0, .ref a_o), (1, .int p_s), (2, .int p_c)]) hx hb dX11_wander_167 hl (k := 4) rfl rfl (by decide) rfl (fun ls hl => ?_)
                        have t_52 : (k_i + 1).toInt = k_i.toInt + 1 := g5_iadd (a := k_i.toInt) (b := 1) rfl (by decide) (by omega) (by omega)
                        refine lv_goto (tgt := 68) hx hb dX11_wander_170 (by decide) ?_
                        exact ih_68_31 ((((k_d * 1103) + 12345) - ((k_d * 1103) + 12345) / 1000003 * 1000003), k_a, (k_n + 1), (k_i + 1), (upd k_wd k_i.toNatClampNeg k_a)) ls H locs (show Int.toNat (24 - (k_i + 1).toInt) < Int.toNat (24 - k_i.toInt) from g_up (show k_i.toInt < (k_i + 1).toInt by omega) (show k_i.toInt < 24 by omega)) ⟨lv_sub hl [4, 2, 1, 0, 5, 6, 7] rfl, hP, hD, hS, i_26, ⟨by omega, by omega⟩, by rw [show (k_i + 1).toInt.toNat - 1 = (k_i.toInt.toNat - 1) + 1 by omega, wdS_S, ← i_28]; rfl, by rw [show (k_i + 1).toInt.toNat - 1 = (k_i.toInt.toNat - 1) + 1 by omega]; exact (by rw [wdC_S (wdk_of i_28 hy_41), ← i_29, ws_n (by rw [← i_42]; omega)]), by rw [show (k_i + 1).toInt.toNat = k_i.toInt.toNat + 1 by omega]; exact wdR_S i_30 rfl (by rw [show k_i.toInt.toNat = (k_i.toInt.toNat - 1) + 1 by omega]; exact (by rw [wdC_S (wdk_of i_28 hy_41), ← i_29, ws_n (by rw [← i_42]; omega)]))⟩
                  ·
                    have n_46 : gNe (z44.toInt) ((-1)) := by have z := g5_eqN (a := z44.toInt) (b := (-1)) (by rfl) (by decide) c_46; unfold gNe; omega
                    have i_46 : z44.toInt ≥ 0 := by have z := g5_eqN (a := z44.toInt) (b := (-1)) (by rfl) (by decide) c_46; omega
                    refine lv_aload_n hx hb dX11_wander_113 rfl (lv_at hl 5 rfl) ?_
                    refine va_get (D := G.1) (ci := 11) (v := .ref a_h) (C := RX11) (T := TX11) (N := 17) hx hb hts inG_X11 hown hK hP 0 rfl rfl 0 (by decide) (hts _ fl_X11_12) (fun _ h9 => h9) rfl dX11_wander_114 ?_
                    refine va_get (D := G.1) (ci := 1) (v := .long e_wa) (C := RX1) (T := TX1) (N := 13) hx hb hts inG_X1 hown hK hP 4 rfl rfl 0 (by decide) (hts _ fl_X11_111) (fun _ h9 => h9) rfl dX11_wander_117 ?_
                    refine lv_iload hx hb dX11_wander_120 (lv_at hl 0 rfl) ?_
                    obtain ⟨hPc, hDc, hFc⟩ := g5_sub3 (wc := []) hP hD hS hA [] (by decide) rfl
                    refine va_calli (va_runS (As := [.long e_wa, .int z44]) (rest := []) ⟨hx, hb, hml, hown, hts⟩ (k_isOn l G H.size z44 e_wa ⟨by omega, by omega⟩) (va_cwS 2 hts gS_X11_115 rfl rfl rfl hs_X11_isOn ⟨Nat.le_of_ble_eq_true rfl, Nat.le_of_ble_eq_true rfl⟩) (g5_preS hPc hK hDc hN hT hS hFc) rfl rfl hl.1 rfl (lv_room (Nat.le_of_ble_eq_true rfl)) dX11_wander_122 ⟨Nat.le_of_ble_eq_true rfl, Nat.le_of_ble_eq_true rfl⟩) hS (fun q _ h => hFc q h) hFc (fun r u t H1 locs ht hvm hw hB hz1 hk1 hS => ?_)
                    obtain ⟨hP1, hD1⟩ := hB
                    rw [ht] at hP1
                    rcases hw with ⟨i_53, rfl, rfl⟩ | ⟨i_54, rfl, rfl⟩
                    ·
                      have i_53 : onB e_wa z44.toInt = false := i_53
                      have hP := g5_same hP hk1
                      generalize H1 = H at hP hS ⊢
                      refine lv_if_eq (tgt := 133) hx hb dX11_wander_125 (by decide) (fun c_55 => ?_) (fun c_55 => ?_)
                      ·
                        refine lv_iload hx hb dX11_wander_133 (lv_at hl 0 rfl) ?_
                        refine lv_istore (lv' := [(5, .int z44), (8, .int z44), (3, .long (((k_d * 1103) + 12345) - ((k_d * 1103) + 12345) / 1000003 * 1000003)), (6, .int k_n), (7, .int k_i), (0, .ref a_o), (1, .int p_s), (2, .int p_c)]) hx hb dX11_wander_135 hl (by decide) rfl (fun ls hl => ?_)
                        refine lv_aload_n hx hb dX11_wander_137 rfl (lv_at hl 5 rfl) ?_
                        refine va_get (D := G.1) (ci := 11) (v := .ref a_wd) (C := RX11) (T := TX11) (N := 17) hx hb hts inG_X11 hown hK hP 0 rfl rfl 13 (by decide) (hts _ fl_X11_84) (fun _ h9 => h9) rfl dX11_wander_138 ?_
                        refine lv_iload hx hb dX11_wander_141 (lv_at hl 4 rfl) ?_
                        refine lv_iload hx hb dX11_wander_143 (lv_at hl 0 rfl) ?_
                        refine va_iast hx hb hK hP hD hS 2 0 rfl rfl (i := k_i) (x := z44) (vp_in_iff.mpr ⟨by omega, by omega⟩) dX11_wander_145 (fun H locs hP hD hS => ?_)
                        refine g5_rs [(a_o, (oc11 a_h a_im a_ke a_k a_wa a_th a_ha a_wk a_r a_x e_tl e_fd e_fpl a_wd 1 a_rf e_lr)), (a_rf, (arI G 5 f_rf)), (a_wd, (arI G 24 (upd k_wd k_i.toNatClampNeg z44))), (a_k, (oc5 a_h a_j a_pt z12 z13 z14 z15 z16 z17 z18 z19 z20 z21)), (a_h, (oc1 e_wa e_le e_st e_fo e_lc a_l a_g a_b a_s a_p a_w e_gb a_bb)), (a_g, (oc6 6 5 a_gn e_g)), (a_gn, (arI G 30 f_g)), (a_b, (oc6 5 24 a_bn e_b)), (a_bn, (arI G 120 f_b)), (a_p, (oc6 8 5 a_pn e_p)), (a_pn, (arI G 40 f_p)), (a_bb, (arJ G 24 f_bb)), (a_j, (oc2 a_as a_sk)), (a_as, (arI G 8 z23)), (a_sk, (arJ G 50 z24)), (a_l, (arW G 6 f_l)), (a_pt, (arI G 200 z22)), (a_wa, (oc10 a_h a_k a_bo)), (a_bo, (arJ G 24 z25))] hP hD (fun hP hD => ?_)
                        refine lv_aload_n hx hb dX11_wander_146 rfl (lv_at hl 5 rfl) ?_
                        refine va_get (D := G.1) (ci := 11) (v := .ref a_wa) (C := RX11) (T := TX11) (N := 17) hx hb hts inG_X11 hown hK hP 0 rfl rfl 4 (by decide) (hts _ fl_X11_38) (fun _ h9 => h9) rfl dX11_wander_147 ?_
                        refine va_get (D := G.1) (ci := 10) (v := .ref a_bo) (C := RX10) (T := TX10) (N := 3) hx hb hts inG_X10 hown hK hP 17 rfl rfl 2 (by decide) (hts _ fl_X11_257) (fun _ h9 => h9) rfl dX11_wander_150 ?_
                        refine lv_iload hx hb dX11_wander_153 (lv_at hl 4 rfl) ?_
                        refine va_lald hx hb hK hP 18 1 rfl rfl (i := k_i) (vp_in_iff.mpr ⟨by omega, by omega⟩) dX11_wander_155 ?_
                        refine lv_iload hx hb dX11_wander_156 (lv_at hl 0 rfl) ?_
                        obtain ⟨hPc, hDc, hFc⟩ := g5_sub3 (wc := []) hP hD hS hA [] (by decide) rfl
                        refine va_calli (va_runS (As := [.long (z25 k_i.toNatClampNeg), .int z44]) (rest := []) ⟨hx, hb, hml, hown, hts⟩ (k_isOn l G H.size z44 (z25 k_i.toNatClampNeg) ⟨by omega, by omega⟩) (va_cwS 2 hts gS_X11_115 rfl rfl rfl hs_X11_isOn ⟨Nat.le_of_ble_eq_true rfl, Nat.le_of_ble_eq_true rfl⟩) (g5_preS hPc hK hDc hN hT hS hFc) rfl rfl hl.1 rfl (lv_room (Nat.le_of_ble_eq_true rfl)) dX11_wander_158 ⟨Nat.le_of_ble_eq_true rfl, Nat.le_of_ble_eq_true rfl⟩) hS (fun q _ h => hFc q h) hFc (fun r u t H1 locs ht hvm hw hB hz1 hk1 hS => ?_)
                        obtain ⟨hP1, hD1⟩ := hB
                        rw [ht] at hP1
                        rcases hw with ⟨i_56, rfl, rfl⟩ | ⟨i_57, rfl, rfl⟩
                        ·
                          have i_56 : onB (z25 k_i.toNatClampNeg) z44.toInt = false := i_56
                          have hP := g5_same hP hk1
                          generalize H1 = H at hP hS ⊢
                          refine lv_if_eq (tgt := 167) hx hb dX11_wander_161 (by decide) (fun c_58 => ?_) (fun c_58 => ?_)
                          ·
                            refine lv_iinc (v := (k_i + 1)) (lv' := [(7, .int (k_i + 1)), (5, .int z44), (8, .int z44), (3, .long (((k_d * 1103) + 12345) - ((k_d * 1103) + 12345) / 1000003 * 1000003)), (6, .int k_n), (0, .ref a_o), (1, .int p_s), (2, .int p_c)]) hx hb dX11_wander_167 hl (k := 4) rfl rfl (by decide) rfl (fun ls hl => ?_)
                            have t_59 : (k_i + 1).toInt = k_i.toInt + 1 := g5_iadd (a := k_i.toInt) (b := 1) rfl (by decide) (by omega) (by omega)
                            refine lv_goto (tgt := 68) hx hb dX11_wander_170 (by decide) ?_
                            exact ih_68_31 ((((k_d * 1103) + 12345) - ((k_d * 1103) + 12345) / 1000003 * 1000003), z44, k_n, (k_i + 1), (upd k_wd k_i.toNatClampNeg z44)) ls H locs (show Int.toNat (24 - (k_i + 1).toInt) < Int.toNat (24 - k_i.toInt) from g_up (show k_i.toInt < (k_i + 1).toInt by omega) (show k_i.toInt < 24 by omega)) ⟨lv_sub hl [3, 1, 4, 0, 5, 6, 7] rfl, hP, hD, hS, ⟨by omega, by omega⟩, ⟨by omega, by omega⟩, by rw [show (k_i + 1).toInt.toNat - 1 = (k_i.toInt.toNat - 1) + 1 by omega, wdS_S, ← i_28]; rfl, by rw [show (k_i + 1).toInt.toNat - 1 = (k_i.toInt.toNat - 1) + 1 by omega]; exact (by rw [wdC_S (wdk_of i_28 hy_41), ← i_29, ws_y (by rw [← i_42]; exact n_46) (by rw [← i_42]; exact wl_n e_hh (by omega) (Or.inr i_53)), ← i_42]), by rw [show (k_i + 1).toInt.toNat = k_i.toInt.toNat + 1 by omega]; exact wdR_S i_30 rfl (by rw [show k_i.toInt.toNat = (k_i.toInt.toNat - 1) + 1 by omega]; exact (by rw [wdC_S (wdk_of i_28 hy_41), ← i_29, ws_y (by rw [← i_42]; exact n_46) (by rw [← i_42]; exact wl_n e_hh (by omega) (Or.inr i_53)), ← i_42]))⟩
                          ·
                            exact absurd c_58 (by decide)
                        ·
                          have i_57 : onB (z25 k_i.toNatClampNeg) z44.toInt = true := i_57
                          have hP := g5_same hP hk1
                          generalize H1 = H at hP hS ⊢
                          refine lv_if_eq (tgt := 167) hx hb dX11_wander_161 (by decide) (fun c_60 => ?_) (fun c_60 => ?_)
                          ·
                            exact absurd c_60 (by decide)
                          ·
                            refine lv_iinc (v := (k_n + 1)) (lv' := [(6, .int (k_n + 1)), (5, .int z44), (8, .int z44), (3, .long (((k_d * 1103) + 12345) - ((k_d * 1103) + 12345) / 1000003 * 1000003)), (7, .int k_i), (0, .ref a_o), (1, .int p_s), (2, .int p_c)]) hx hb dX11_wander_164 hl (k := 3) rfl rfl (by decide) rfl (fun ls hl => ?_)
                            refine lv_iinc (v := (k_i + 1)) (lv' := [(7, .int (k_i + 1)), (6, .int (k_n + 1)), (5, .int z44), (8, .int z44), (3, .long (((k_d * 1103) + 12345) - ((k_d * 1103) + 12345) / 1000003 * 1000003)), (0, .ref a_o), (1, .int p_s), (2, .int p_c)]) hx hb dX11_wander_167 hl (k := 4) rfl rfl (by decide) rfl (fun ls hl => ?_)
                            have t_61 : (k_i + 1).toInt = k_i.toInt + 1 := g5_iadd (a := k_i.toInt) (b := 1) rfl (by decide) (by omega) (by omega)
                            refine lv_goto (tgt := 68) hx hb dX11_wander_170 (by decide) ?_
                            exact ih_68_31 ((((k_d * 1103) + 12345) - ((k_d * 1103) + 12345) / 1000003 * 1000003), z44, (k_n + 1), (k_i + 1), (upd k_wd k_i.toNatClampNeg z44)) ls H locs (show Int.toNat (24 - (k_i + 1).toInt) < Int.toNat (24 - k_i.toInt) from g_up (show k_i.toInt < (k_i + 1).toInt by omega) (show k_i.toInt < 24 by omega)) ⟨lv_sub hl [4, 2, 1, 0, 5, 6, 7] rfl, hP, hD, hS, ⟨by omega, by omega⟩, ⟨by omega, by omega⟩, by rw [show (k_i + 1).toInt.toNat - 1 = (k_i.toInt.toNat - 1) + 1 by omega, wdS_S, ← i_28]; rfl, by rw [show (k_i + 1).toInt.toNat - 1 = (k_i.toInt.toNat - 1) + 1 by omega]; exact (by rw [wdC_S (wdk_of i_28 hy_41), ← i_29, ws_y (by rw [← i_42]; exact n_46) (by rw [← i_42]; exact wl_n e_hh (by omega) (Or.inr i_53)), ← i_42]), by rw [show (k_i + 1).toInt.toNat = k_i.toInt.toNat + 1 by omega]; exact wdR_S i_30 rfl (by rw [show k_i.toInt.toNat = (k_i.toInt.toNat - 1) + 1 by omega]; exact (by rw [wdC_S (wdk_of i_28 hy_41), ← i_29, ws_y (by rw [← i_42]; exact n_46) (by rw [← i_42]; exact wl_n e_hh (by omega) (Or.inr i_53)), ← i_42]))⟩
                      ·
                        exact absurd c_55 (by decide)
                    ·
                      have i_54 : onB e_wa z44.toInt = true := i_54
                      have hP := g5_same hP hk1
                      generalize H1 = H at hP hS ⊢
                      refine lv_if_eq (tgt := 133) hx hb dX11_wander_125 (by decide) (fun c_62 => ?_) (fun c_62 => ?_)
                      ·
                        exact absurd c_62 (by decide)
                      ·
                        refine lv_iload hx hb dX11_wander_128 (lv_at hl 2 rfl) ?_
                        refine lv_goto (tgt := 135) hx hb dX11_wander_130 (by decide) ?_
                        refine lv_istore (lv' := [(5, .int k_a), (8, .int z44), (3, .long (((k_d * 1103) + 12345) - ((k_d * 1103) + 12345) / 1000003 * 1000003)), (6, .int k_n), (7, .int k_i), (0, .ref a_o), (1, .int p_s), (2, .int p_c)]) hx hb dX11_wander_135 hl (by decide) rfl (fun ls hl => ?_)
                        refine lv_aload_n hx hb dX11_wander_137 rfl (lv_at hl 5 rfl) ?_
                        refine va_get (D := G.1) (ci := 11) (v := .ref a_wd) (C := RX11) (T := TX11) (N := 17) hx hb hts inG_X11 hown hK hP 0 rfl rfl 13 (by decide) (hts _ fl_X11_84) (fun _ h9 => h9) rfl dX11_wander_138 ?_
                        refine lv_iload hx hb dX11_wander_141 (lv_at hl 4 rfl) ?_
                        refine lv_iload hx hb dX11_wander_143 (lv_at hl 0 rfl) ?_
                        refine va_iast hx hb hK hP hD hS 2 0 rfl rfl (i := k_i) (x := k_a) (vp_in_iff.mpr ⟨by omega, by omega⟩) dX11_wander_145 (fun H locs hP hD hS => ?_)
                        refine g5_rs [(a_o, (oc11 a_h a_im a_ke a_k a_wa a_th a_ha a_wk a_r a_x e_tl e_fd e_fpl a_wd 1 a_rf e_lr)), (a_rf, (arI G 5 f_rf)), (a_wd, (arI G 24 (upd k_wd k_i.toNatClampNeg k_a))), (a_k, (oc5 a_h a_j a_pt z12 z13 z14 z15 z16 z17 z18 z19 z20 z21)), (a_h, (oc1 e_wa e_le e_st e_fo e_lc a_l a_g a_b a_s a_p a_w e_gb a_bb)), (a_g, (oc6 6 5 a_gn e_g)), (a_gn, (arI G 30 f_g)), (a_b, (oc6 5 24 a_bn e_b)), (a_bn, (arI G 120 f_b)), (a_p, (oc6 8 5 a_pn e_p)), (a_pn, (arI G 40 f_p)), (a_bb, (arJ G 24 f_bb)), (a_j, (oc2 a_as a_sk)), (a_as, (arI G 8 z23)), (a_sk, (arJ G 50 z24)), (a_l, (arW G 6 f_l)), (a_pt, (arI G 200 z22)), (a_wa, (oc10 a_h a_k a_bo)), (a_bo, (arJ G 24 z25))] hP hD (fun hP hD => ?_)
                        refine lv_aload_n hx hb dX11_wander_146 rfl (lv_at hl 5 rfl) ?_
                        refine va_get (D := G.1) (ci := 11) (v := .ref a_wa) (C := RX11) (T := TX11) (N := 17) hx hb hts inG_X11 hown hK hP 0 rfl rfl 4 (by decide) (hts _ fl_X11_38) (fun _ h9 => h9) rfl dX11_wander_147 ?_
                        refine va_get (D := G.1) (ci := 10) (v := .ref a_bo) (C := RX10) (T := TX10) (N := 3) hx hb hts inG_X10 hown hK hP 17 rfl rfl 2 (by decide) (hts _ fl_X11_257) (fun _ h9 => h9) rfl dX11_wander_150 ?_
                        refine lv_iload hx hb dX11_wander_153 (lv_at hl 4 rfl) ?_
                        refine va_lald hx hb hK hP 18 1 rfl rfl (i := k_i) (vp_in_iff.mpr ⟨by omega, by omega⟩) dX11_wander_155 ?_
                        refine lv_iload hx hb dX11_wander_156 (lv_at hl 0 rfl) ?_
                        obtain ⟨hPc, hDc, hFc⟩ := g5_sub3 (wc := []) hP hD hS hA [] (by decide) rfl
                        refine va_calli (va_runS (As := [.long (z25 k_i.toNatClampNeg), .int k_a]) (rest := []) ⟨hx, hb, hml, hown, hts⟩ (k_isOn l G H.size k_a (z25 k_i.toNatClampNeg) i_26) (va_cwS 2 hts gS_X11_115 rfl rfl rfl hs_X11_isOn ⟨Nat.le_of_ble_eq_true rfl, Nat.le_of_ble_eq_true rfl⟩) (g5_preS hPc hK hDc hN hT hS hFc) rfl rfl hl.1 rfl (lv_room (Nat.le_of_ble_eq_true rfl)) dX11_wander_158 ⟨Nat.le_of_ble_eq_true rfl, Nat.le_of_ble_eq_true rfl⟩) hS (fun q _ h => hFc q h) hFc (fun r u t H1 locs ht hvm hw hB hz1 hk1 hS => ?_)
                        obtain ⟨hP1, hD1⟩ := hB
                        rw [ht] at hP1
                        rcases hw with ⟨i_63, rfl, rfl⟩ | ⟨i_64, rfl, rfl⟩
                        ·
                          have i_63 : onB (z25 k_i.toNatClampNeg) k_a.toInt = false := i_63
                          have hP := g5_same hP hk1
                          generalize H1 = H at hP hS ⊢
                          refine lv_if_eq (tgt := 167) hx hb dX11_wander_161 (by decide) (fun c_65 => ?_) (fun c_65 => ?_)
                          ·
                            refine lv_iinc (v := (k_i + 1)) (lv' := [(7, .int (k_i + 1)), (5, .int k_a), (8, .int z44), (3, .long (((k_d * 1103) + 12345) - ((k_d * 1103) + 12345) / 1000003 * 1000003)), (6, .int k_n), (0, .ref a_o), (1, .int p_s), (2, .int p_c)]) hx hb dX11_wander_167 hl (k := 4) rfl rfl (by decide) rfl (fun ls hl => ?_)
                            have t_66 : (k_i + 1).toInt = k_i.toInt + 1 := g5_iadd (a := k_i.toInt) (b := 1) rfl (by decide) (by omega) (by omega)
                            refine lv_goto (tgt := 68) hx hb dX11_wander_170 (by decide) ?_
                            exact ih_68_31 ((((k_d * 1103) + 12345) - ((k_d * 1103) + 12345) / 1000003 * 1000003), k_a, k_n, (k_i + 1), (upd k_wd k_i.toNatClampNeg k_a)) ls H locs (show Int.toNat (24 - (k_i + 1).toInt) < Int.toNat (24 - k_i.toInt) from g_up (show k_i.toInt < (k_i + 1).toInt by omega) (show k_i.toInt < 24 by omega)) ⟨lv_sub hl [3, 1, 4, 0, 5, 6, 7] rfl, hP, hD, hS, i_26, ⟨by omega, by omega⟩, by rw [show (k_i + 1).toInt.toNat - 1 = (k_i.toInt.toNat - 1) + 1 by omega, wdS_S, ← i_28]; rfl, by rw [show (k_i + 1).toInt.toNat - 1 = (k_i.toInt.toNat - 1) + 1 by omega]; exact (by rw [wdC_S (wdk_of i_28 hy_41), ← i_29, ws_w (by rw [← i_42]; exact wl_y e_hh (by omega) ⟨by omega, i_54⟩)]), by rw [show (k_i + 1).toInt.toNat = k_i.toInt.toNat + 1 by omega]; exact wdR_S i_30 rfl (by rw [show k_i.toInt.toNat = (k_i.toInt.toNat - 1) + 1 by omega]; exact (by rw [wdC_S (wdk_of i_28 hy_41), ← i_29, ws_w (by rw [← i_42]; exact wl_y e_hh (by omega) ⟨by omega, i_54⟩)]))⟩
                          ·
                            exact absurd c_65 (by decide)
                        ·
                          have i_64 : onB (z25 k_i.toNatClampNeg) k_a.toInt = true := i_64
                          have hP := g5_same hP hk1
                          generalize H1 = H at hP hS ⊢
                          refine lv_if_eq (tgt := 167) hx hb dX11_wander_161 (by decide) (fun c_67 => ?_) (fun c_67 => ?_)
                          ·
                            exact absurd c_67 (by decide)
                          ·
                            refine lv_iinc (v := (k_n + 1)) (lv' := [(6, .int (k_n + 1)), (5, .int k_a), (8, .int z44), (3, .long (((k_d * 1103) + 12345) - ((k_d * 1103) + 12345) / 1000003 * 1000003)), (7, .int k_i), (0, .ref a_o), (1, .int p_s), (2, .int p_c)]) hx hb dX11_wander_164 hl (k := 3) rfl rfl (by decide) rfl (fun ls hl => ?_)
                            refine lv_iinc (v := (k_i + 1)) (lv' := [(7, .int (k_i + 1)), (6, .int (k_n + 1)), (5, .int k_a), (8, .int z44), (3, .long (((k_d * 1103) + 12345) - ((k_d * 1103) + 12345) / 1000003 * 1000003)), (0, .ref a_o), (1, .int p_s), (2, .int p_c)]) hx hb dX11_wander_167 hl (k := 4) rfl rfl (by decide) rfl (fun ls hl => ?_)
                            have t_68 : (k_i + 1).toInt = k_i.toInt + 1 := g5_iadd (a := k_i.toInt) (b := 1) rfl (by decide) (by omega) (by omega)
                            refine lv_goto (tgt := 68) hx hb dX11_wander_170 (by decide) ?_
                            exact ih_68_31 ((((k_d * 1103) + 12345) - ((k_d * 1103) + 12345) / 1000003 * 1000003), k_a, (k_n + 1), (k_i + 1), (upd k_wd k_i.toNatClampNeg k_a)) ls H locs (show Int.toNat (24 - (k_i + 1).toInt) < Int.toNat (24 - k_i.toInt) from g_up (show k_i.toInt < (k_i + 1).toInt by omega) (show k_i.toInt < 24 by omega)) ⟨lv_sub hl [4, 2, 1, 0, 5, 6, 7] rfl, hP, hD, hS, i_26, ⟨by omega, by omega⟩, by rw [show (k_i + 1).toInt.toNat - 1 = (k_i.toInt.toNat - 1) + 1 by omega, wdS_S, ← i_28]; rfl, by rw [show (k_i + 1).toInt.toNat - 1 = (k_i.toInt.toNat - 1) + 1 by omega]; exact (by rw [wdC_S (wdk_of i_28 hy_41), ← i_29, ws_w (by rw [← i_42]; exact wl_y e_hh (by omega) ⟨by omega, i_54⟩)]), by rw [show (k_i + 1).toInt.toNat = k_i.toInt.toNat + 1 by omega]; exact wdR_S i_30 rfl (by rw [show k_i.toInt.toNat = (k_i.toInt.toNat - 1) + 1 by omega]; exact (by rw [wdC_S (wdk_of i_28 hy_41), ← i_29, ws_w (by rw [← i_42]; exact wl_y e_hh (by omega) ⟨by omega, i_54⟩)]))⟩
            ·
              exact absurd c_10 (by decide)
          ·
            have i_9 : onB e_wa p_c.toInt = true := i_9
            have hP := g5_same hP hk1
            generalize H1 = H at hP hS ⊢
            refine lv_if_eq (tgt := 44) hx hb dX11_wander_34 (by decide) (fun c_69 => ?_) (fun c_69 => ?_)
            ·
              exact absurd c_69 (by decide)
            ·
              refine lv_aload_n hx hb dX11_wander_37 rfl (lv_at hl 0 rfl) ?_
              refine lv_bipush (v := (-3)) hx hb dX11_wander_38 (by decide) ?_
              obtain ⟨hPc, hDc, hFc⟩ := g5_sub3 (wc := [(a_o, (oc11 a_h a_im a_ke a_k a_wa a_th a_ha a_wk a_r a_x e_tl e_fd e_fpl a_wd e_wn a_rf e_lr)), (a_rf, (arI G 5 f_rf))]) hP hD hS hA [0, 1] (by decide) rfl
              refine va_calli (va_runV (As := [.int (-3)]) (rest := []) ⟨hx, hb, hml, hown, hts⟩ (x_refuse3 l G a_o a_rf a_h a_im a_ke a_k a_wa a_th a_ha a_wk a_r a_x a_wd H.size e_tl e_fd e_fpl e_wn e_lr f_rf h_e_tl h_e_wn) (cwV 1 hts gV_X11_104 rfl rfl rfl hv_X11_refuse ⟨Nat.le_of_ble_eq_true rfl, Nat.le_of_ble_eq_true rfl⟩) (g5_preV hPc hK hDc hN hT hS hFc (ci := 11) (q0 := 0) rfl rfl) rfl rfl hl.1 rfl (lv_room (Nat.le_of_ble_eq_true rfl)) dX11_wander_40 ⟨Nat.le_of_ble_eq_true rfl, Nat.le_of_ble_eq_true rfl⟩) hS (fun q _ h => hFc q h) hFc (fun r u t H1 locs ht hvm hw hB hz1 hk1 hS => ?_)
              obtain ⟨hP1, hD1⟩ := hB
              rw [ht] at hP1
              obtain ⟨z70, rfl, rfl⟩ := hw
              obtain ⟨hP, hD⟩ := va_join (wr := [(a_k, (oc5 a_h a_j a_pt e_ln e_se e_lh e_br e_we e_me e_ce e_wy e_ho e_ov)), (a_h, (oc1 e_wa e_le e_st e_fo e_lc a_l a_g a_b a_s a_p a_w e_gb a_bb)), (a_g, (oc6 6 5 a_gn e_g)), (a_gn, (arI G 30 f_g)), (a_b, (oc6 5 24 a_bn e_b)), (a_bn, (arI G 120 f_b)), (a_p, (oc6 8 5 a_pn e_p)), (a_pn, (arI G 40 f_p)), (a_bb, (arJ G 24 f_bb)), (a_j, (oc2 a_as a_sk)), (a_as, (arI G 8 f_as)), (a_sk, (arJ G 50 f_sk)), (a_l, (arW G 6 f_l)), (a_pt, (arI G 200 f_pt)), (a_wa, (oc10 a_h a_k a_bo)), (a_bo, (arJ G 24 f_bo)), (a_wd, (arI G 24 f_wd))]) hP hD [0, 1] [2, 3, 4, 5, 6, 7, 8, 9, 10, 11, 12, 13, 14, 15, 16, 17, 18] rfl rfl (by decide) (by decide) hk1 hFc hP1 hD1
              generalize H1 = H at hP hS ⊢
              refine g5_rs [(a_k, (oc5 a_h a_j a_pt e_ln e_se e_lh e_br e_we e_me e_ce e_wy e_ho e_ov)), (a_h, (oc1 e_wa e_le e_st e_fo e_lc a_l a_g a_b a_s a_p a_w e_gb a_bb)), (a_g, (oc6 6 5 a_gn e_g)), (a_gn, (arI G 30 f_g)), (a_b, (oc6 5 24 a_bn e_b)), (a_bn, (arI G 120 f_b)), (a_p, (oc6 8 5 a_pn e_p)), (a_pn, (arI G 40 f_p)), (a_bb, (arJ G 24 f_bb)), (a_j, (oc2 a_as a_sk)), (a_as, (arI G 8 f_as)), (a_sk, (arJ G 50 f_sk)), (a_l, (arW G 6 f_l)), (a_pt, (arI G 200 f_pt)), (a_wa, (oc10 a_h a_k a_bo)), (a_bo, (arJ G 24 f_bo)), (a_wd, (arI G 24 f_wd)), (a_o, (oc11 a_h a_im a_ke a_k a_wa a_th a_ha a_wk a_r a_x e_tl e_fd e_fpl a_wd e_wn a_rf (-3))), (a_rf, (arI G 5 z70))] hP hD (fun hP hD => ?_)
              exact W.iret (v := (-3)) hx hb hr (fun t ht hW => ⟨⟨(-3), [(a_o, (oc11 a_h a_im a_ke a_k a_wa a_th a_ha a_wk a_r a_x e_tl e_fd e_fpl a_wd e_wn a_rf (-3))), (a_rf, (arI G 5 z70)), (a_k, (oc5 a_h a_j a_pt e_ln e_se e_lh e_br e_we e_me e_ce e_wy e_ho e_ov)), (a_h, (oc1 e_wa e_le e_st e_fo e_lc a_l a_g a_b a_s a_p a_w e_gb a_bb)), (a_g, (oc6 6 5 a_gn e_g)), (a_gn, (arI G 30 f_g)), (a_b, (oc6 5 24 a_bn e_b)), (a_bn, (arI G 120 f_b)), (a_p, (oc6 8 5 a_pn e_p)), (a_pn, (arI G 40 f_p)), (a_bb, (arJ G 24 f_bb)), (a_j, (oc2 a_as a_sk)), (a_as, (arI G 8 f_as)), (a_sk, (arJ G 50 f_sk)), (a_l, (arW G 6 f_l)), (a_pt, (arI G 200 f_pt)), (a_wa, (oc10 a_h a_k a_bo)), (a_bo, (arJ G 24 f_bo)), (a_wd, (arI G 24 f_wd))], rfl, ⟨(-3), (-3), z70, e_wn, e_ln, e_se, e_lh, e_br, e_we, e_me, e_ce, e_wy, e_ho, e_ov, f_pt, f_as, f_sk, f_bo, f_wd, h_e_ov, h_e_wn, (wand_3 (f := f_ro) (g := f_wd) (n := e_wn) (s := p_s) (c := p_c) (wl_y e_hh (by omega) ⟨by omega, i_9⟩)).1.symm, (wand_3 (f := f_ro) (g := f_wd) (n := e_wn) (s := p_s) (c := p_c) (wl_y e_hh (by omega) ⟨by omega, i_9⟩)).2.symm, rfl, rfl⟩, by rw [ht]; exact hP.sub [17, 18, 0, 1, 2, 3, 4, 5, 6, 7, 8, 9, 10, 11, 12, 13, 14, 15, 16] rfl, hD.sub [17, 18, 0, 1, 2, 3, 4, 5, 6, 7, 8, 9, 10, 11, 12, 13, 14, 15, 16] (by decide) rfl⟩, hS.F ht⟩) hS.2.2 dX11_wander_43
        ·
          exact absurd c_7 (by decide)
      ·
        have i_6 : p_c.toInt < 0 ∨ 63 < p_c.toInt := i_6
        have hP := g5_same hP hk1
        generalize H1 = H at hP hS ⊢
        refine lv_if_ne (tgt := 23) hx hb dX11_wander_14 (by decide) (fun c_71 => ?_) (fun c_71 => ?_)
        ·
          exact absurd c_71 (by decide)
        ·
          refine lv_aload_n hx hb dX11_wander_17 rfl (lv_at hl 0 rfl) ?_
          refine lv_iconst (v := (-1)) hx hb dX11_wander_18 (by decide) ?_
          obtain ⟨hPc, hDc, hFc⟩ := g5_sub3 (wc := [(a_o, (oc11 a_h a_im a_ke a_k a_wa a_th a_ha a_wk a_r a_x e_tl e_fd e_fpl a_wd e_wn a_rf e_lr)), (a_rf, (arI G 5 f_rf))]) hP hD hS hA [0, 1] (by decide) rfl
          refine va_calli (va_runV (As := [.int (-1)]) (rest := []) ⟨hx, hb, hml, hown, hts⟩ (x_refuse1 l G a_o a_rf a_h a_im a_ke a_k a_wa a_th a_ha a_wk a_r a_x a_wd H.size e_tl e_fd e_fpl e_wn e_lr f_rf h_e_tl h_e_wn) (cwV 1 hts gV_X11_104 rfl rfl rfl hv_X11_refuse ⟨Nat.le_of_ble_eq_true rfl, Nat.le_of_ble_eq_true rfl⟩) (g5_preV hPc hK hDc hN hT hS hFc (ci := 11) (q0 := 0) rfl rfl) rfl rfl hl.1 rfl (lv_room (Nat.le_of_ble_eq_true rfl)) dX11_wander_19 ⟨Nat.le_of_ble_eq_true rfl, Nat.le_of_ble_eq_true rfl⟩) hS (fun q _ h => hFc q h) hFc (fun r u t H1 locs ht hvm hw hB hz1 hk1 hS => ?_)
          obtain ⟨hP1, hD1⟩ := hB
          rw [ht] at hP1
          obtain ⟨z72, rfl, rfl⟩ := hw
          obtain ⟨hP, hD⟩ := va_join (wr := [(a_k, (oc5 a_h a_j a_pt e_ln e_se e_lh e_br e_we e_me e_ce e_wy e_ho e_ov)), (a_h, (oc1 e_wa e_le e_st e_fo e_lc a_l a_g a_b a_s a_p a_w e_gb a_bb)), (a_g, (oc6 6 5 a_gn e_g)), (a_gn, (arI G 30 f_g)), (a_b, (oc6 5 24 a_bn e_b)), (a_bn, (arI G 120 f_b)), (a_p, (oc6 8 5 a_pn e_p)), (a_pn, (arI G 40 f_p)), (a_bb, (arJ G 24 f_bb)), (a_j, (oc2 a_as a_sk)), (a_as, (arI G 8 f_as)), (a_sk, (arJ G 50 f_sk)), (a_l, (arW G 6 f_l)), (a_pt, (arI G 200 f_pt)), (a_wa, (oc10 a_h a_k a_bo)), (a_bo, (arJ G 24 f_bo)), (a_wd, (arI G 24 f_wd))]) hP hD [0, 1] [2, 3, 4, 5, 6, 7, 8, 9, 10, 11, 12, 13, 14, 15, 16, 17, 18] rfl rfl (by decide) (by decide) hk1 hFc hP1 hD1
          generalize H1 = H at hP hS ⊢
          refine g5_rs [(a_k, (oc5 a_h a_j a_pt e_ln e_se e_lh e_br e_we e_me e_ce e_wy e_ho e_ov)), (a_h, (oc1 e_wa e_le e_st e_fo e_lc a_l a_g a_b a_s a_p a_w e_gb a_bb)), (a_g, (oc6 6 5 a_gn e_g)), (a_gn, (arI G 30 f_g)), (a_b, (oc6 5 24 a_bn e_b)), (a_bn, (arI G 120 f_b)), (a_p, (oc6 8 5 a_pn e_p)), (a_pn, (arI G 40 f_p)), (a_bb, (arJ G 24 f_bb)), (a_j, (oc2 a_as a_sk)), (a_as, (arI G 8 f_as)), (a_sk, (arJ G 50 f_sk)), (a_l, (arW G 6 f_l)), (a_pt, (arI G 200 f_pt)), (a_wa, (oc10 a_h a_k a_bo)), (a_bo, (arJ G 24 f_bo)), (a_wd, (arI G 24 f_wd)), (a_o, (oc11 a_h a_im a_ke a_k a_wa a_th a_ha a_wk a_r a_x e_tl e_fd e_fpl a_wd e_wn a_rf (-1))), (a_rf, (arI G 5 z72))] hP hD (fun hP hD => ?_)
          exact W.iret (v := (-1)) hx hb hr (fun t ht hW => ⟨⟨(-1), [(a_o, (oc11 a_h a_im a_ke a_k a_wa a_th a_ha a_wk a_r a_x e_tl e_fd e_fpl a_wd e_wn a_rf (-1))), (a_rf, (arI G 5 z72)), (a_k, (oc5 a_h a_j a_pt e_ln e_se e_lh e_br e_we e_me e_ce e_wy e_ho e_ov)), (a_h, (oc1 e_wa e_le e_st e_fo e_lc a_l a_g a_b a_s a_p a_w e_gb a_bb)), (a_g, (oc6 6 5 a_gn e_g)), (a_gn, (arI G 30 f_g)), (a_b, (oc6 5 24 a_bn e_b)), (a_bn, (arI G 120 f_b)), (a_p, (oc6 8 5 a_pn e_p)), (a_pn, (arI G 40 f_p)), (a_bb, (arJ G 24 f_bb)), (a_j, (oc2 a_as a_sk)), (a_as, (arI G 8 f_as)), (a_sk, (arJ G 50 f_sk)), (a_l, (arW G 6 f_l)), (a_pt, (arI G 200 f_pt)), (a_wa, (oc10 a_h a_k a_bo)), (a_bo, (arJ G 24 f_bo)), (a_wd, (arI G 24 f_wd))], rfl, ⟨(-1), (-1), z72, e_wn, e_ln, e_se, e_lh, e_br, e_we, e_me, e_ce, e_wy, e_ho, e_ov, f_pt, f_as, f_sk, f_bo, f_wd, h_e_ov, h_e_wn, (wand_1 (f := f_ro) (g := f_wd) (n := e_wn) (s := p_s) (c := p_c) (fun q => by unfold okD at q; omega)).1.symm, (wand_1 (f := f_ro) (g := f_wd) (n := e_wn) (s := p_s) (c := p_c) (fun q => by unfold okD at q; omega)).2.symm, rfl, rfl⟩, by rw [ht]; exact hP.sub [17, 18, 0, 1, 2, 3, 4, 5, 6, 7, 8, 9, 10, 11, 12, 13, 14, 15, 16] rfl, hD.sub [17, 18, 0, 1, 2, 3, 4, 5, 6, 7, 8, 9, 10, 11, 12, 13, 14, 15, 16] (by decide) rfl⟩, hS.F ht⟩) hS.2.2 dX11_wander_22
set_option maxHeartbeats 4000000 in
set_option maxRecDepth 100000 in
theorem x_wanderXL (l : Launch) (G : g5_G) (a_o a_rf a_k a_h a_g a_gn a_b a_bn a_p a_pn a_bb a_j a_as a_sk a_l a_lo a_sr a_cd a_hd a_pt a_wa a_bo a_wd a_im a_ke a_th a_ha a_wk a_r a_x a_s a_w : Nat) (sz : Nat) (e_tl : Int32) (e_fd : Int32) (e_fpl : Int32) (e_wn : Int32) (e_lr : Int32) (e_le : Int32) (e_st : Int32) (e_fo : Int32) (e_lc : Int32) (e_g : Int32) (e_b : Int32) (e_p : Int32) (e_cl : Int32) (e_ln : Int32) (e_se : Int32) (e_lh : Int32) (e_br : Int32) (e_we : Int32) (e_me : Int32) (e_ce : Int32) (e_wy : Int32) (e_ho : Int32) (e_ov : Int32) (p_s : Int32) (p_c : Int32) (e_wa : Int64) (e_gb : Int64) (f_rf : Nat → Int32) (f_g : Nat → Int32) (f_b : Nat → Int32) (f_p : Nat → Int32) (f_bb : Nat → Int64) (f_as : Nat → Int32) (f_sk : Nat → Int64) (f_l : Nat → Option Nat) (f_sr : Nat → Int32) (f_cd : Nat → Int32) (f_hd : Nat → Int32) (f_pt : Nat → Int32) (f_bo : Nat → Int64) (f_wd : Nat → Int32) (f_ro : Nat → Int32) (n_sr : Nat) (n_cd : Nat) (n_hd : Nat) (h_e_tl : 0 ≤ e_tl.toInt ∧ e_tl.toInt ≤ 400) (h_e_wn : 0 ≤ e_wn.toInt ∧ e_wn.toInt ≤ 1) (h_e_g : 0 ≤ e_g.toInt ∧ e_g.toInt ≤ 6) (h_e_b : 0 ≤ e_b.toInt ∧ e_b.toInt ≤ 5) (h_e_p : 0 ≤ e_p.toInt ∧ e_p.toInt ≤ 8) (h_e_cl : 0 ≤ e_cl.toInt ∧ e_cl.toInt ≤ 12) (h_e_ov : 0 ≤ e_ov.toInt ∧ e_ov.toInt ≤ 1) (e_gk : gOK f_g e_g.toInt) (e_pk : gOK f_p e_p.toInt) (e_gi : inT e_gb f_g e_g.toInt) (e_f : 0 ≤ e_fo.toInt ∧ e_fo.toInt < e_lc.toInt ∧ e_lc.toInt ≤ 6) (e_a : f_l e_fo.toNatClampNeg = some a_lo) (e_hn : n_cd ≤ 400) (e_hs : ∀ j : Nat, j < n_sr → 0 ≤ (f_sr j).toInt ∧ (f_sr j).toInt ≤ (n_cd : Int)) (e_hk : ∀ j : Nat, j < n_cd → (f_cd j >>> (12 &&& 31)).toInt = 1 → (f_cd j &&& 4095).toInt < 8) (e_c : (e_cl.toInt : Int) ≤ (n_hd : Int) ∧ (e_cl.toInt + 1 : Int) ≤ (n_sr : Int)) (e_hh : QH e_wa e_le e_st f_ro) : Met l yX11_wander (wsG yX11_wander cX11_wander 9 (some .int)) ({ frames := 15, cells := 0, slots := 0, locals := 580 }) (va_Pc [.ref a_o, .int p_s, .int p_c] (g5_P G [(a_o, (oc11 a_h a_im a_ke a_k a_wa a_th a_ha a_wk a_r a_x e_tl e_fd e_fpl a_wd e_wn a_rf e_lr)), (a_rf, (arI G 5 f_rf)), (a_k, (oc5 a_h a_j a_pt e_ln e_se e_lh e_br e_we e_me e_ce e_wy e_ho e_ov)), (a_h, (oc1 e_wa e_le e_st e_fo e_lc a_l a_g a_b a_s a_p a_w e_gb a_bb)), (a_g, (oc6 6 5 a_gn e_g)), (a_gn, (arI G 30 f_g)), (a_b, (oc6 5 24 a_bn e_b)), (a_bn, (arI G 120 f_b)), (a_p, (oc6 8 5 a_pn e_p)), (a_pn, (arI G 40 f_p)), (a_bb, (arJ G 24 f_bb)), (a_j, (oc2 a_as a_sk)), (a_as, (arI G 8 f_as)), (a_sk, (arJ G 50 f_sk)), (a_l, (arW G 6 f_l)), (a_lo, (oc3 e_cl a_hd a_sr a_cd)), (a_sr, (arI G n_sr f_sr)), (a_cd, (arI G n_cd f_cd)), (a_hd, (arI G n_hd f_hd)), (a_pt, (arI G 200 f_pt)), (a_wa, (oc10 a_h a_k a_bo)), (a_bo, (arJ G 24 f_bo)), (a_wd, (arI G 24 f_wd))] sz)) (va_Qi (fun (r : Int32) (u : va_W) => (∃ (o_r : Int32) (o_lr : Int32) (o_rf : Nat → Int32) (o_wn : Int32) (o_ln : Int32) (o_se : Int32) (o_lh : Int32) (o_br : Int32) (o_we : Int32) (o_me : Int32) (o_ce : Int32) (o_wy : Int32) (o_ho : Int32) (o_ov : Int32) (o_pt : Nat → Int32) (o_as : Nat → Int32) (o_sk : Nat → Int64) (o_bo : Nat → Int64) (o_wd : Nat → Int32), (0 ≤ o_ov.toInt ∧ o_ov.toInt ≤ 1) ∧ (0 ≤ o_wn.toInt ∧ o_wn.toInt ≤ 1) ∧ (o_wd = swand f_ro f_wd p_s p_c) ∧ (o_wn = swanf f_ro e_wn p_s p_c) ∧ (r = o_r) ∧ (u = [(a_o, (oc11 a_h a_im a_ke a_k a_wa a_th a_ha a_wk a_r a_x e_tl e_fd e_fpl a_wd o_wn a_rf o_lr)), (a_rf, (arI G 5 o_rf)), (a_k, (oc5 a_h a_j a_pt o_ln o_se o_lh o_br o_we o_me o_ce o_wy o_ho o_ov)), (a_h, (oc1 e_wa e_le e_st e_fo e_lc a_l a_g a_b a_s a_p a_w e_gb a_bb)), (a_g, (oc6 6 5 a_gn e_g)), (a_gn, (arI G 30 f_g)), (a_b, (oc6 5 24 a_bn e_b)), (a_bn, (arI G 120 f_b)), (a_p, (oc6 8 5 a_pn e_p)), (a_pn, (arI G 40 f_p)), (a_bb, (arJ G 24 f_bb)), (a_j, (oc2 a_as a_sk)), (a_as, (arI G 8 o_as)), (a_sk, (arJ G 50 o_sk)), (a_l, (arW G 6 f_l)), (a_lo, (oc3 e_cl a_hd a_sr a_cd)), (a_sr, (arI G n_sr f_sr)), (a_cd, (arI G n_cd f_cd)), (a_hd, (arI G n_hd f_hd)), (a_pt, (arI G 200 o_pt)), (a_wa, (oc10 a_h a_k a_bo)), (a_bo, (arJ G 24 o_bo)), (a_wd, (arI G 24 o_wd))]))) (g5_B G (va_A [(a_o, (oc11 a_h a_im a_ke a_k a_wa a_th a_ha a_wk a_r a_x e_tl e_fd e_fpl a_wd e_wn a_rf e_lr)), (a_rf, (arI G 5 f_rf)), (a_k, (oc5 a_h a_j a_pt e_ln e_se e_lh e_br e_we e_me e_ce e_wy e_ho e_ov)), (a_h, (oc1 e_wa e_le e_st e_fo e_lc a_l a_g a_b a_s a_p a_w e_gb a_bb)), (a_g, (oc6 6 5 a_gn e_g)), (a_gn, (arI G 30 f_g)), (a_b, (oc6 5 24 a_bn e_b)), (a_bn, (arI G 120 f_b)), (a_p, (oc6 8 5 a_pn e_p)), (a_pn, (arI G 40 f_p)), (a_bb, (arJ G 24 f_bb)), (a_j, (oc2 a_as a_sk)), (a_as, (arI G 8 f_as)), (a_sk, (arJ G 50 f_sk)), (a_l, (arW G 6 f_l)), (a_lo, (oc3 e_cl a_hd a_sr a_cd)), (a_sr, (arI G n_sr f_sr)), (a_cd, (arI G n_cd f_cd)), (a_hd, (arI G n_hd f_hd)), (a_pt, (arI G 200 f_pt)), (a_wa, (oc10 a_h a_k a_bo)), (a_bo, (arJ G 24 f_bo)), (a_wd, (arI G 24 f_wd))] sz)) (va_A [(a_o, (oc11 a_h a_im a_ke a_k a_wa a_th a_ha a_wk a_r a_x e_tl e_fd e_fpl a_wd e_wn a_rf e_lr)), (a_rf, (arI G 5 f_rf)), (a_k, (oc5 a_h a_j a_pt e_ln e_se e_lh e_br e_we e_me e_ce e_wy e_ho e_ov)), (a_h, (oc1 e_wa e_le e_st e_fo e_lc a_l a_g a_b a_s a_p a_w e_gb a_bb)), (a_g, (oc6 6 5 a_gn e_g)), (a_gn, (arI G 30 f_g)), (a_b, (oc6 5 24 a_bn e_b)), (a_bn, (arI G 120 f_b)), (a_p, (oc6 8 5 a_pn e_p)), (a_pn, (arI G 40 f_p)), (a_bb, (arJ G 24 f_bb)), (a_j, (oc2 a_as a_sk)), (a_as, (arI G 8 f_as)), (a_sk, (arJ G 50 f_sk)), (a_l, (arW G 6 f_l)), (a_lo, (oc3 e_cl a_hd a_sr a_cd)), (a_sr, (arI G n_sr f_sr)), (a_cd, (arI G n_cd f_cd)), (a_hd, (arI G n_hd f_hd)), (a_pt, (arI G 200 f_pt)), (a_wa, (oc10 a_h a_k a_bo)), (a_bo, (arJ G 24 f_bo)), (a_wd, (arI G 24 f_wd))] sz)) 0 0 (va_A [(a_o, (oc11 a_h a_im a_ke a_k a_wa a_th a_ha a_wk a_r a_x e_tl e_fd e_fpl a_wd e_wn a_rf e_lr)), (a_rf, (arI G 5 f_rf)), (a_k, (oc5 a_h a_j a_pt e_ln e_se e_lh e_br e_we e_me e_ce e_wy e_ho e_ov)), (a_h, (oc1 e_wa e_le e_st e_fo e_lc a_l a_g a_b a_s a_p a_w e_gb a_bb)), (a_g, (oc6 6 5 a_gn e_g)), (a_gn, (arI G 30 f_g)), (a_b, (oc6 5 24 a_bn e_b)), (a_bn, (arI G 120 f_b)), (a_p, (oc6 8 5 a_pn e_p)), (a_pn, (arI G 40 f_p)), (a_bb, (arJ G 24 f_bb)), (a_j, (oc2 a_as a_sk)), (a_as, (arI G 8 f_as)), (a_sk, (arJ G 50 f_sk)), (a_l, (arW G 6 f_l)), (a_lo, (oc3 e_cl a_hd a_sr a_cd)), (a_sr, (arI G n_sr f_sr)), (a_cd, (arI G n_cd f_cd)), (a_hd, (arI G n_hd f_hd)), (a_pt, (arI G 200 f_pt)), (a_wa, (oc10 a_h a_k a_bo)), (a_bo, (arJ G 24 f_bo)), (a_wd, (arI G 24 f_wd))] sz) := by
  refine Met.ofW (cc := cX11_wander) (maxL := 9) (ret := (some .int)) (by decide) rfl ?_
  intro p e s m args below meth c s₁ B hml hv
  obtain ⟨rfl, hsz, hP, hK, hD0, hN, hT⟩ := hv
  have hx := B.exec
  have hb := B.bytes
  have hr := B.returns
  have hts : ∀ w ∈ tblG, w.before _ s = true := fun w h => atoms_spec (ws := (wsG yX11_wander cX11_wander 9 (some .int))) B.pre w (List.mem_cons_of_mem _ h)
  have hown : s.vm.findClass RX11 = some m.cls := findClass_of_methodNamed B.named
  have hlocks := B.notSynchronized
  subst hsz
  have hD := hD0.self (sz := s.heap.size)
  generalize hAe : va_A [(a_o, (oc11 a_h a_im a_ke a_k a_wa a_th a_ha a_wk a_r a_x e_tl e_fd e_fpl a_wd e_wn a_rf e_lr)), (a_rf, (arI G 5 f_rf)), (a_k, (oc5 a_h a_j a_pt e_ln e_se e_lh e_br e_we e_me e_ce e_wy e_ho e_ov)), (a_h, (oc1 e_wa e_le e_st e_fo e_lc a_l a_g a_b a_s a_p a_w e_gb a_bb)), (a_g, (oc6 6 5 a_gn e_g)), (a_gn, (arI G 30 f_g)), (a_b, (oc6 5 24 a_bn e_b)), (a_bn, (arI G 120 f_b)), (a_p, (oc6 8 5 a_pn e_p)), (a_pn, (arI G 40 f_p)), (a_bb, (arJ G 24 f_bb)), (a_j, (oc2 a_as a_sk)), (a_as, (arI G 8 f_as)), (a_sk, (arJ G 50 f_sk)), (a_l, (arW G 6 f_l)), (a_lo, (oc3 e_cl a_hd a_sr a_cd)), (a_sr, (arI G n_sr f_sr)), (a_cd, (arI G n_cd f_cd)), (a_hd, (arI G n_hd f_hd)), (a_pt, (arI G 200 f_pt)), (a_wa, (oc10 a_h a_k a_bo)), (a_bo, (arJ G 24 f_bo)), (a_wd, (arI G 24 f_wd))] s.heap.size = A at hD hT ⊢
  have hA : ∀ q : Nat, s.heap.size ≤ q → A q := fun q h => by rw [← hAe]; exact Or.inr h
  have hS : va_S A s.heap s.heap [] := va_S.rf
  have hP : va_P G.1 vwCl [(a_o, (oc11 a_h a_im a_ke a_k a_wa a_th a_ha a_wk a_r a_x e_tl e_fd e_fpl a_wd e_wn a_rf e_lr)), (a_rf, (arI G 5 f_rf)), (a_k, (oc5 a_h a_j a_pt e_ln e_se e_lh e_br e_we e_me e_ce e_wy e_ho e_ov)), (a_h, (oc1 e_wa e_le e_st e_fo e_lc a_l a_g a_b a_s a_p a_w e_gb a_bb)), (a_g, (oc6 6 5 a_gn e_g)), (a_gn, (arI G 30 f_g)), (a_b, (oc6 5 24 a_bn e_b)), (a_bn, (arI G 120 f_b)), (a_p, (oc6 8 5 a_pn e_p)), (a_pn, (arI G 40 f_p)), (a_bb, (arJ G 24 f_bb)), (a_j, (oc2 a_as a_sk)), (a_as, (arI G 8 f_as)), (a_sk, (arJ G 50 f_sk)), (a_l, (arW G 6 f_l)), (a_lo, (oc3 e_cl a_hd a_sr a_cd)), (a_sr, (arI G n_sr f_sr)), (a_cd, (arI G n_cd f_cd)), (a_hd, (arI G n_hd f_hd)), (a_pt, (arI G 200 f_pt)), (a_wa, (oc10 a_h a_k a_bo)), (a_bo, (arJ G 24 f_bo)), (a_wd, (arI G 24 f_wd))] s.heap := hP
  have hl := lv_entry ([.ref a_o, .int p_s, .int p_c]) (n := 9) (Nat.le_of_ble_eq_true rfl)
  rw [lg_entry_eq]
  generalize (lg_sl ([.ref a_o, .int p_s, .int p_c]) ++ List.replicate (9 - (lg_sl ([.ref a_o, .int p_s, .int p_c])).length) Slot.unset).toArray = ls at hl ⊢
  have hl : lv_has ls 9 [(0, .ref a_o), (1, .int p_s), (2, .int p_c)] := hl
  refine lv_iload_n hx hb dX11_wander_0 rfl (lv_at hl 1 rfl) ?_
  refine lv_if_lt (tgt := 17) hx hb dX11_wander_1 (by decide) (fun c_1 => ?_) (fun c_1 => ?_)
  ·
    have i_1 : p_s.toInt < 0 := by have z := g5_lt (a := p_s.toInt) (b := 0) (by rfl) (by decide) c_1; omega
    refine lv_aload_n hx hb dX11_wander_17 rfl (lv_at hl 0 rfl) ?_
    refine lv_iconst (v := (-1)) hx hb dX11_wander_18 (by decide) ?_
    obtain ⟨hPc, hDc, hFc⟩ := g5_sub3 (wc := [(a_o, (oc11 a_h a_im a_ke a_k a_wa a_th a_ha a_wk a_r a_x e_tl e_fd e_fpl a_wd e_wn a_rf e_lr)), (a_rf, (arI G 5 f_rf))]) hP hD hS hA [0, 1] (by decide) rfl
    refine va_calli (va_runV (As := [.int (-1)]) (rest := []) ⟨hx, hb, hml, hown, hts⟩ (x_refuse1 l G a_o a_rf a_h a_im a_ke a_k a_wa a_th a_ha a_wk a_r a_x a_wd s.heap.size e_tl e_fd e_fpl e_wn e_lr f_rf h_e_tl h_e_wn) (cwV 1 hts gV_X11_104 rfl rfl rfl hv_X11_refuse ⟨Nat.le_of_ble_eq_true rfl, Nat.le_of_ble_eq_true rfl⟩) (g5_preV hPc hK hDc hN hT hS hFc (ci := 11) (q0 := 0) rfl rfl) rfl rfl hl.1 rfl (lv_room (Nat.le_of_ble_eq_true rfl)) dX11_wander_19 ⟨Nat.le_of_ble_eq_true rfl, Nat.le_of_ble_eq_true rfl⟩) hS (fun q _ h => hFc q h) hFc (fun r u t H1 locs ht hvm hw hB hz1 hk1 hS => ?_)
    obtain ⟨hP1, hD1⟩ := hB
    rw [ht] at hP1
    obtain ⟨z2, rfl, rfl⟩ := hw
    obtain ⟨hP, hD⟩ := va_join (wr := [(a_k, (oc5 a_h a_j a_pt e_ln e_se e_lh e_br e_we e_me e_ce e_wy e_ho e_ov)), (a_h, (oc1 e_wa e_le e_st e_fo e_lc a_l a_g a_b a_s a_p a_w e_gb a_bb)), (a_g, (oc6 6 5 a_gn e_g)), (a_gn, (arI G 30 f_g)), (a_b, (oc6 5 24 a_bn e_b)), (a_bn, (arI G 120 f_b)), (a_p, (oc6 8 5 a_pn e_p)), (a_pn, (arI G 40 f_p)), (a_bb, (arJ G 24 f_bb)), (a_j, (oc2 a_as a_sk)), (a_as, (arI G 8 f_as)), (a_sk, (arJ G 50 f_sk)), (a_l, (arW G 6 f_l)), (a_lo, (oc3 e_cl a_hd a_sr a_cd)), (a_sr, (arI G n_sr f_sr)), (a_cd, (arI G n_cd f_cd)), (a_hd, (arI G n_hd f_hd)), (a_pt, (arI G 200 f_pt)), (a_wa, (oc10 a_h a_k a_bo)), (a_bo, (arJ G 24 f_bo)), (a_wd, (arI G 24 f_wd))]) hP hD [0, 1] [2, 3, 4, 5, 6, 7, 8, 9, 10, 11, 12, 13, 14, 15, 16, 17, 18, 19, 20, 21, 22] rfl rfl (by decide) (by decide) hk1 hFc hP1 hD1
    generalize H1 = H at hP hS ⊢
    refine g5_rs [(a_k, (oc5 a_h a_j a_pt e_ln e_se e_lh e_br e_we e_me e_ce e_wy e_ho e_ov)), (a_h, (oc1 e_wa e_le e_st e_fo e_lc a_l a_g a_b a_s a_p a_w e_gb a_bb)), (a_g, (oc6 6 5 a_gn e_g)), (a_gn, (arI G 30 f_g)), (a_b, (oc6 5 24 a_bn e_b)), (a_bn, (arI G 120 f_b)), (a_p, (oc6 8 5 a_pn e_p)), (a_pn, (arI G 40 f_p)), (a_bb, (arJ G 24 f_bb)), (a_j, (oc2 a_as a_sk)), (a_as, (arI G 8 f_as)), (a_sk, (arJ G 50 f_sk)), (a_l, (arW G 6 f_l)), (a_lo, (oc3 e_cl a_hd a_sr a_cd)), (a_sr, (arI G n_sr f_sr)), (a_cd, (arI G n_cd f_cd)), (a_hd, (arI G n_hd f_hd)), (a_pt, (arI G 200 f_pt)), (a_wa, (oc10 a_h a_k a_bo)), (a_bo, (arJ G 24 f_bo)), (a_wd, (arI G 24 f_wd)), (a_o, (oc11 a_h a_im a_ke a_k a_wa a_th a_ha a_wk a_r a_x e_tl e_fd e_fpl a_wd e_wn a_rf (-1))), (a_rf, (arI G 5 z2))] hP hD (fun hP hD => ?_)
    exact W.iret (v := (-1)) hx hb hr (fun t ht hW => ⟨⟨(-1), [(a_o, (oc11 a_h a_im a_ke a_k a_wa a_th a_ha a_wk a_r a_x e_tl e_fd e_fpl a_wd e_wn a_rf (-1))), (a_rf, (arI G 5 z2)), (a_k, (oc5 a_h a_j a_pt e_ln e_se e_lh e_br e_we e_me e_ce e_wy e_ho e_ov)), (a_h, (oc1 e_wa e_le e_st e_fo e_lc a_l a_g a_b a_s a_p a_w e_gb a_bb)), (a_g, (oc6 6 5 a_gn e_g)), (a_gn, (arI G 30 f_g)), (a_b, (oc6 5 24 a_bn e_b)), (a_bn, (arI G 120 f_b)), (a_p, (oc6 8 5 a_pn e_p)), (a_pn, (arI G 40 f_p)), (a_bb, (arJ G 24 f_bb)), (a_j, (oc2 a_as a_sk)), (a_as, (arI G 8 f_as)), (a_sk, (arJ G 50 f_sk)), (a_l, (arW G 6 f_l)), (a_lo, (oc3 e_cl a_hd a_sr a_cd)), (a_sr, (arI G n_sr f_sr)), (a_cd, (arI G n_cd f_cd)), (a_hd, (arI G n_hd f_hd)), (a_pt, (arI G 200 f_pt)), (a_wa, (oc10 a_h a_k a_bo)), (a_bo, (arJ G 24 f_bo)), (a_wd, (arI G 24 f_wd))], rfl, ⟨(-1), (-1), z2, e_wn, e_ln, e_se, e_lh, e_br, e_we, e_me, e_ce, e_wy, e_ho, e_ov, f_pt, f_as, f_sk, f_bo, f_wd, h_e_ov, h_e_wn, (wand_1 (f := f_ro) (g := f_wd) (n := e_wn) (s := p_s) (c := p_c) (fun q => by unfold okD at q; omega)).1.symm, (wand_1 (f := f_ro) (g := f_wd) (n := e_wn) (s := p_s) (c := p_c) (fun q => by unfold okD at q; omega)).2.symm, rfl, rfl⟩, by rw [ht]; exact hP.sub [21, 22, 0, 1, 2, 3, 4, 5, 6, 7, 8, 9, 10, 11, 12, 13, 14, 15, 16, 17, 18, 19, 20] rfl, hD.sub [21, 22, 0, 1, 2, 3, 4, 5, 6, 7, 8, 9, 10, 11, 12, 13, 14, 15, 16, 17, 18, 19, 20] (by decide) rfl⟩, hS.F ht⟩) hS.2.2 dX11_wander_22
  ·
    have i_1 : p_s.toInt ≥ 0 := by have z := g5_ltN (a := p_s.toInt) (b := 0) (by rfl) (by decide) c_1; omega
    refine lv_iload_n hx hb dX11_wander_4 rfl (lv_at hl 1 rfl) ?_
    refine lv_ldc (v := 1000000) hx hb hown (hts _ ki_X11_181) dX11_wander_5 ?_
    refine lv_icmp_gt (tgt := 17) hx hb dX11_wander_7 (by decide) (fun c_3 => ?_) (fun c_3 => ?_)
    ·
      have i_3 : p_s.toInt > 1000000 := by have z := g5_gt (a := p_s.toInt) (b := 1000000) (by rfl) (by decide) c_3; omega
      refine lv_aload_n hx hb dX11_wander_17 rfl (lv_at hl 0 rfl) ?_
      refine lv_iconst (v := (-1)) hx hb dX11_wander_18 (by decide) ?_
      obtain ⟨hPc, hDc, hFc⟩ := g5_sub3 (wc := [(a_o, (oc11 a_h a_im a_ke a_k a_wa a_th a_ha a_wk a_r a_x e_tl e_fd e_fpl a_wd e_wn a_rf e_lr)), (a_rf, (arI G 5 f_rf))]) hP hD hS hA [0, 1] (by decide) rfl
      refine va_calli (va_runV (As := [.int (-1)]) (rest := []) ⟨hx, hb, hml, hown, hts⟩ (x_refuse1 l G a_o a_rf a_h a_im a_ke a_k a_wa a_th a_ha a_wk a_r a_x a_wd s.heap.size e_tl e_fd e_fpl e_wn e_lr f_rf h_e_tl h_e_wn) (cwV 1 hts gV_X11_104 rfl rfl rfl hv_X11_refuse ⟨Nat.le_of_ble_eq_true rfl, Nat.le_of_ble_eq_true rfl⟩) (g5_preV hPc hK hDc hN hT hS hFc (ci := 11) (q0 := 0) rfl rfl) rfl rfl hl.1 rfl (lv_room (Nat.le_of_ble_eq_true rfl)) dX11_wander_19 ⟨Nat.le_of_ble_eq_true rfl, Nat.le_of_ble_eq_true rfl⟩) hS (fun q _ h => hFc q h) hFc (fun r u t H1 locs ht hvm hw hB hz1 hk1 hS => ?_)
      obtain ⟨hP1, hD1⟩ := hB
      rw [ht] at hP1
      obtain ⟨z4, rfl, rfl⟩ := hw
      obtain ⟨hP, hD⟩ := va_join (wr := [(a_k, (oc5 a_h a_j a_pt e_ln e_se e_lh e_br e_we e_me e_ce e_wy e_ho e_ov)), (a_h, (oc1 e_wa e_le e_st e_fo e_lc a_l a_g a_b a_s a_p a_w e_gb a_bb)), (a_g, (oc6 6 5 a_gn e_g)), (a_gn, (arI G 30 f_g)), (a_b, (oc6 5 24 a_bn e_b)), (a_bn, (arI G 120 f_b)), (a_p, (oc6 8 5 a_pn e_p)), (a_pn, (arI G 40 f_p)), (a_bb, (arJ G 24 f_bb)), (a_j, (oc2 a_as a_sk)), (a_as, (arI G 8 f_as)), (a_sk, (arJ G 50 f_sk)), (a_l, (arW G 6 f_l)), (a_lo, (oc3 e_cl a_hd a_sr a_cd)), (a_sr, (arI G n_sr f_sr)), (a_cd, (arI G n_cd f_cd)), (a_hd, (arI G n_hd f_hd)), (a_pt, (arI G 200 f_pt)), (a_wa, (oc10 a_h a_k a_bo)), (a_bo, (arJ G 24 f_bo)), (a_wd, (arI G 24 f_wd))]) hP hD [0, 1] [2, 3, 4, 5, 6, 7, 8, 9, 10, 11, 12, 13, 14, 15, 16, 17, 18, 19, 20, 21, 22] rfl rfl (by decide) (by decide) hk1 hFc hP1 hD1
      generalize H1 = H at hP hS ⊢
      refine g5_rs [(a_k, (oc5 a_h a_j a_pt e_ln e_se e_lh e_br e_we e_me e_ce e_wy e_ho e_ov)), (a_h, (oc1 e_wa e_le e_st e_fo e_lc a_l a_g a_b a_s a_p a_w e_gb a_bb)), (a_g, (oc6 6 5 a_gn e_g)), (a_gn, (arI G 30 f_g)), (a_b, (oc6 5 24 a_bn e_b)), (a_bn, (arI G 120 f_b)), (a_p, (oc6 8 5 a_pn e_p)), (a_pn, (arI G 40 f_p)), (a_bb, (arJ G 24 f_bb)), (a_j, (oc2 a_as a_sk)), (a_as, (arI G 8 f_as)), (a_sk, (arJ G 50 f_sk)), (a_l, (arW G 6 f_l)), (a_lo, (oc3 e_cl a_hd a_sr a_cd)), (a_sr, (arI G n_sr f_sr)), (a_cd, (arI G n_cd f_cd)), (a_hd, (arI G n_hd f_hd)), (a_pt, (arI G 200 f_pt)), (a_wa, (oc10 a_h a_k a_bo)), (a_bo, (arJ G 24 f_bo)), (a_wd, (arI G 24 f_wd)), (a_o, (oc11 a_h a_im a_ke a_k a_wa a_th a_ha a_wk a_r a_x e_tl e_fd e_fpl a_wd e_wn a_rf (-1))), (a_rf, (arI G 5 z4))] hP hD (fun hP hD => ?_)
      exact W.iret (v := (-1)) hx hb hr (fun t ht hW => ⟨⟨(-1), [(a_o, (oc11 a_h a_im a_ke a_k a_wa a_th a_ha a_wk a_r a_x e_tl e_fd e_fpl a_wd e_wn a_rf (-1))), (a_rf, (arI G 5 z4)), (a_k, (oc5 a_h a_j a_pt e_ln e_se e_lh e_br e_we e_me e_ce e_wy e_ho e_ov)), (a_h, (oc1 e_wa e_le e_st e_fo e_lc a_l a_g a_b a_s a_p a_w e_gb a_bb)), (a_g, (oc6 6 5 a_gn e_g)), (a_gn, (arI G 30 f_g)), (a_b, (oc6 5 24 a_bn e_b)), (a_bn, (arI G 120 f_b)), (a_p, (oc6 8 5 a_pn e_p)), (a_pn, (arI G 40 f_p)), (a_bb, (arJ G 24 f_bb)), (a_j, (oc2 a_as a_sk)), (a_as, (arI G 8 f_as)), (a_sk, (arJ G 50 f_sk)), (a_l, (arW G 6 f_l)), (a_lo, (oc3 e_cl a_hd a_sr a_cd)), (a_sr, (arI G n_sr f_sr)), (a_cd, (arI G n_cd f_cd)), (a_hd, (arI G n_hd f_hd)), (a_pt, (arI G 200 f_pt)), (a_wa, (oc10 a_h a_k a_bo)), (a_bo, (arJ G 24 f_bo)), (a_wd, (arI G 24 f_wd))], rfl, ⟨(-1), (-1), z4, e_wn, e_ln, e_se, e_lh, e_br, e_we, e_me, e_ce, e_wy, e_ho, e_ov, f_pt, f_as, f_sk, f_bo, f_wd, h_e_ov, h_e_wn, (wand_1 (f := f_ro) (g := f_wd) (n := e_wn) (s := p_s) (c := p_c) (fun q => by unfold okD at q; omega)).1.symm, (wand_1 (f := f_ro) (g := f_wd) (n := e_wn) (s := p_s) (c := p_c) (fun q => by unfold okD at q; omega)).2.symm, rfl, rfl⟩, by rw [ht]; exact hP.sub [21, 22, 0, 1, 2, 3, 4, 5, 6, 7, 8, 9, 10, 11, 12, 13, 14, 15, 16, 17, 18, 19, 20] rfl, hD.sub [21, 22, 0, 1, 2, 3, 4, 5, 6, 7, 8, 9, 10, 11, 12, 13, 14, 15, 16, 17, 18, 19, 20] (by decide) rfl⟩, hS.F ht⟩) hS.2.2 dX11_wander_22
    ·
      have i_3 : p_s.toInt ≤ 1000000 := by have z := g5_gtN (a := p_s.toInt) (b := 1000000) (by rfl) (by decide) c_3; omega
      refine lv_iload_n hx hb dX11_wander_10 rfl (lv_at hl 2 rfl) ?_
      obtain ⟨hPc, hDc, hFc⟩ := g5_sub3 (wc := []) hP hD hS hA [] (by decide) rfl
      refine va_calli (va_runS (As := [.int p_c]) (rest := []) ⟨hx, hb, hml, hown, hts⟩ (x_isCellX l G s.heap.size p_c) (va_cwS 1 hts gS_X11_97 rfl rfl rfl hs_X11_isCell ⟨Nat.le_of_ble_eq_true rfl, Nat.le_of_ble_eq_true rfl⟩) (g5_preS hPc hK hDc hN hT hS hFc) rfl rfl hl.1 rfl (lv_room (Nat.le_of_ble_eq_true rfl)) dX11_wander_11 ⟨Nat.le_of_ble_eq_true rfl, Nat.le_of_ble_eq_true rfl⟩) hS (fun q _ h => hFc q h) hFc (fun r u t H1 locs ht hvm hw hB hz1 hk1 hS => ?_)
      obtain ⟨hP1, hD1⟩ := hB
      rw [ht] at hP1
      rcases hw with ⟨i_5, rfl, rfl⟩ | ⟨i_6, rfl, rfl⟩
      ·
        have i_5 : 0 ≤ p_c.toInt ∧ p_c.toInt ≤ 63 := i_5
        have hP := g5_same hP hk1
        generalize H1 = H at hP hS ⊢
        refine lv_if_ne (tgt := 23) hx hb dX11_wander_14 (by decide) (fun c_7 => ?_) (fun c_7 => ?_)
        ·
          refine lv_aload_n hx hb dX11_wander_23 rfl (lv_at hl 0 rfl) ?_
          refine va_get (D := G.1) (ci := 11) (v := .ref a_h) (C := RX11) (T := TX11) (N := 17) hx hb hts inG_X11 hown hK hP 0 rfl rfl 0 (by decide) (hts _ fl_X11_12) (fun _ h9 => h9) rfl dX11_wander_24 ?_
          refine va_get (D := G.1) (ci := 1) (v := .long e_wa) (C := RX1) (T := TX1) (N := 13) hx hb hts inG_X1 hown hK hP 3 rfl rfl 0 (by decide) (hts _ fl_X11_111) (fun _ h9 => h9) rfl dX11_wander_27 ?_
          refine lv_iload_n hx hb dX11_wander_30 rfl (lv_at hl 2 rfl) ?_
          obtain ⟨hPc, hDc, hFc⟩ := g5_sub3 (wc := []) hP hD hS hA [] (by decide) rfl
          refine va_calli (va_runS (As := [.long e_wa, .int p_c]) (rest := []) ⟨hx, hb, hml, hown, hts⟩ (k_isOn l G H.size p_c e_wa i_5) (va_cwS 2 hts gS_X11_115 rfl rfl rfl hs_X11_isOn ⟨Nat.le_of_ble_eq_true rfl, Nat.le_of_ble_eq_true rfl⟩) (g5_preS hPc hK hDc hN hT hS hFc) rfl rfl hl.1 rfl (lv_room (Nat.le_of_ble_eq_true rfl)) dX11_wander_31 ⟨Nat.le_of_ble_eq_true rfl, Nat.le_of_ble_eq_true rfl⟩) hS (fun q _ h => hFc q h) hFc (fun r u t H1 locs ht hvm hw hB hz1 hk1 hS => ?_)
          obtain ⟨hP1, hD1⟩ := hB
          rw [ht] at hP1
          rcases hw with ⟨i_8, rfl, rfl⟩ | ⟨i_9, rfl, rfl⟩
          ·
            have i_8 : onB e_wa p_c.toInt = false := i_8
            have hP := g5_same hP hk1
            generalize H1 = H at hP hS ⊢
            refine lv_if_eq (tgt := 44) hx hb dX11_wander_34 (by decide) (fun c_10 => ?_) (fun c_10 => ?_)
            ·
              refine lv_aload_n hx hb dX11_wander_44 rfl (lv_at hl 0 rfl) ?_
              refine va_get (D := G.1) (ci := 11) (v := .ref a_wa) (C := RX11) (T := TX11) (N := 17) hx hb hts inG_X11 hown hK hP 0 rfl rfl 4 (by decide) (hts _ fl_X11_38) (fun _ h9 => h9) rfl dX11_wander_45 ?_
              obtain ⟨hPc, hDc, hFc⟩ := g5_sub3 (wc := [(a_k, (oc5 a_h a_j a_pt e_ln e_se e_lh e_br e_we e_me e_ce e_wy e_ho e_ov)), (a_h, (oc1 e_wa e_le e_st e_fo e_lc a_l a_g a_b a_s a_p a_w e_gb a_bb)), (a_g, (oc6 6 5 a_gn e_g)), (a_gn, (arI G 30 f_g)), (a_b, (oc6 5 24 a_bn e_b)), (a_bn, (arI G 120 f_b)), (a_p, (oc6 8 5 a_pn e_p)), (a_pn, (arI G 40 f_p)), (a_bb, (arJ G 24 f_bb)), (a_j, (oc2 a_as a_sk)), (a_as, (arI G 8 f_as)), (a_sk, (arJ G 50 f_sk)), (a_l, (arW G 6 f_l)), (a_lo, (oc3 e_cl a_hd a_sr a_cd)), (a_sr, (arI G n_sr f_sr)), (a_cd, (arI G n_cd f_cd)), (a_hd, (arI G n_hd f_hd)), (a_pt, (arI G 200 f_pt)), (a_wa, (oc10 a_h a_k a_bo)), (a_bo, (arJ G 24 f_bo))]) hP hD hS hA [2, 3, 4, 5, 6, 7, 8, 9, 10, 11, 12, 13, 14, 15, 16, 17, 18, 19, 20, 21] (by decide) rfl
              refine va_callv (va_runV (As := []) (rest := []) ⟨hx, hb, hml, hown, hts⟩ (w_lookAroundL l G a_k a_h a_g a_gn a_b a_bn a_p a_pn a_bb a_j a_as a_sk a_l a_lo a_sr a_cd a_hd a_pt a_wa a_bo a_s a_w H.size e_le e_st e_fo e_lc e_g e_b e_p e_cl e_ln e_se e_lh e_br e_we e_me e_ce e_wy e_ho e_ov e_wa e_gb f_g f_b f_p f_bb f_as f_sk f_l f_sr f_cd f_hd f_pt f_bo n_sr n_cd n_hd h_e_g h_e_b h_e_p h_e_cl h_e_ov (e_gk) (e_pk) (e_gi) (e_f) (e_a) (e_hn) (e_hs) (e_hk) (e_c)) (cwV 0 hts gV_X11_254 rfl rfl rfl hv_X10_lookAround ⟨Nat.le_of_ble_eq_true rfl, Nat.le_of_ble_eq_true rfl⟩) (g5_preV hPc hK hDc hN hT hS hFc (ci := 10) (q0 := 18) rfl rfl) rfl rfl hl.1 rfl (lv_room (Nat.le_of_ble_eq_true rfl)) dX11_wander_48 ⟨Nat.le_of_ble_eq_true rfl, Nat.le_of_ble_eq_true rfl⟩) hS (fun q _ h => hFc q h) hFc (fun u t H1 locs ht hvm hw hB hz1 hk1 hS => ?_)
              obtain ⟨hP1, hD1⟩ := hB
              rw [ht] at hP1
              obtain ⟨z12, z13, z14, z15, z16, z17, z18, z19, z20, z21, z22, z23, z24, z25, i_11, rfl⟩ := hw
              have i_11 : 0 ≤ z21.toInt ∧ z21.toInt ≤ 1 := i_11
              obtain ⟨hP, hD⟩ := va_join (wr := [(a_o, (oc11 a_h a_im a_ke a_k a_wa a_th a_ha a_wk a_r a_x e_tl e_fd e_fpl a_wd e_wn a_rf e_lr)), (a_rf, (arI G 5 f_rf)), (a_wd, (arI G 24 f_wd))]) hP hD [2, 3, 4, 5, 6, 7, 8, 9, 10, 11, 12, 13, 14, 15, 16, 17, 18, 19, 20, 21] [0, 1, 22] rfl rfl (by decide) (by decide) hk1 hFc hP1 hD1
              generalize H1 = H at hP hS ⊢
              refine g5_rs [(a_o, (oc11 a_h a_im a_ke a_k a_wa a_th a_ha a_wk a_r a_x e_tl e_fd e_fpl a_wd e_wn a_rf e_lr)), (a_rf, (arI G 5 f_rf)), (a_wd, (arI G 24 f_wd)), (a_k, (oc5 a_h a_j a_pt z12 z13 z14 z15 z16 z17 z18 z19 z20 z21)), (a_h, (oc1 e_wa e_le e_st e_fo e_lc a_l a_g a_b a_s a_p a_w e_gb a_bb)), (a_g, (oc6 6 5 a_gn e_g)), (a_gn, (arI G 30 f_g)), (a_b, (oc6 5 24 a_bn e_b)), (a_bn, (arI G 120 f_b)), (a_p, (oc6 8 5 a_pn e_p)), (a_pn, (arI G 40 f_p)), (a_bb, (arJ G 24 f_bb)), (a_j, (oc2 a_as a_sk)), (a_as, (arI G 8 z23)), (a_sk, (arJ G 50 z24)), (a_l, (arW G 6 f_l)), (a_lo, (oc3 e_cl a_hd a_sr a_cd)), (a_sr, (arI G n_sr f_sr)), (a_cd, (arI G n_cd f_cd)), (a_hd, (arI G n_hd f_hd)), (a_pt, (arI G 200 z22)), (a_wa, (oc10 a_h a_k a_bo)), (a_bo, (arJ G 24 z25))] hP hD (fun hP hD => ?_)
              refine lv_aload_n hx hb dX11_wander_51 rfl (lv_at hl 0 rfl) ?_
              refine lv_iconst (v := 1) hx hb dX11_wander_52 (by decide) ?_
              refine va_put (D := G.1) (ci := 11) (v := .int 1) (ty := .boolean) (C := RX11) (T := TX11) (N := 17) hx hb hts inG_X11 tyX11 tyX11_ok nmX11 hown hK hP hD hS 0 rfl rfl 14 (by decide) (hts _ fl_X11_87) (fun _ h9 => h9) rfl (by decide +kernel) rfl rfl (Nat.le_of_ble_eq_true rfl) dX11_wander_53 (fun H locs hP hD hS => ?_)
              refine g5_rs [(a_o, (oc11 a_h a_im a_ke a_k a_wa a_th a_ha a_wk a_r a_x e_tl e_fd e_fpl a_wd 1 a_rf e_lr)), (a_rf, (arI G 5 f_rf)), (a_wd, (arI G 24 f_wd)), (a_k, (oc5 a_h a_j a_pt z12 z13 z14 z15 z16 z17 z18 z19 z20 z21)), (a_h, (oc1 e_wa e_le e_st e_fo e_lc a_l a_g a_b a_s a_p a_w e_gb a_bb)), (a_g, (oc6 6 5 a_gn e_g)), (a_gn, (arI G 30 f_g)), (a_b, (oc6 5 24 a_bn e_b)), (a_bn, (arI G 120 f_b)), (a_p, (oc6 8 5 a_pn e_p)), (a_pn, (arI G 40 f_p)), (a_bb, (arJ G 24 f_bb)), (a_j, (oc2 a_as a_sk)), (a_as, (arI G 8 z23)), (a_sk, (arJ G 50 z24)), (a_l, (arW G 6 f_l)), (a_lo, (oc3 e_cl a_hd a_sr a_cd)), (a_sr, (arI G n_sr f_sr)), (a_cd, (arI G n_cd f_cd)), (a_hd, (arI G n_hd f_hd)), (a_pt, (arI G 200 z22)), (a_wa, (oc10 a_h a_k a_bo)), (a_bo, (arJ G 24 z25))] hP hD (fun hP hD => ?_)
              refine lv_iload_n hx hb dX11_wander_56 rfl (lv_at hl 1 rfl) ?_
              refine lv_i2l (v := p_s.toInt64) hx hb dX11_wander_57 rfl ?_
              refine lv_lstore_n (lv' := [(3, .long p_s.toInt64), (0, .ref a_o), (1, .int p_s), (2, .int p_c)]) hx hb dX11_wander_58 rfl hl (by decide) rfl (fun ls hl => ?_)
              refine lv_iload_n hx hb dX11_wander_59 rfl (lv_at hl 3 rfl) ?_
              refine lv_istore (lv' := [(5, .int p_c), (3, .long p_s.toInt64), (0, .ref a_o), (1, .int p_s), (2, .int p_c)]) hx hb dX11_wander_60 hl (by decide) rfl (fun ls hl => ?_)
              refine lv_iconst (v := 0) hx hb dX11_wander_62 (by decide) ?_
              refine lv_istore (lv' := [(6, .int 0), (5, .int p_c), (3, .long p_s.toInt64), (0, .ref a_o), (1, .int p_s), (2, .int p_c)]) hx hb dX11_wander_63 hl (by decide) rfl (fun ls hl => ?_)
              refine lv_iconst (v := 0) hx hb dX11_wander_65 (by decide) ?_
              refine lv_istore (lv' := [(7, .int 0), (6, .int 0), (5, .int p_c), (3, .long p_s.toInt64), (0, .ref a_o), (1, .int p_s), (2, .int p_c)]) hx hb dX11_wander_66 hl (by decide) rfl (fun ls hl => ?_)
              refine g5_loop (α := (Int64) × (Int32) × (Int32) × (Int32) × (Nat → Int32)) (fun (q : (Int64) × (Int32) × (Int32) × (Int32) × (Nat → Int32)) (ls : Array Slot) (H : Heap) (locs : List Loc) => match q with | (k_d, k_a, k_n, k_i, k_wd) => lv_has ls 9 [(3, .long k_d), (5, .int k_a), (6, .int k_n), (7, .int k_i), (0, .ref a_o), (1, .int p_s), (2, .int p_c)] ∧ va_P G.1 vwCl [(a_o, (oc11 a_h a_im a_ke a_k a_wa a_th a_ha a_wk a_r a_x e_tl e_fd e_fpl a_wd 1 a_rf e_lr)), (a_rf, (arI G 5 f_rf)), (a_wd, (arI G 24 k_wd)), (a_k, (oc5 a_h a_j a_pt z12 z13 z14 z15 z16 z17 z18 z19 z20 z21)), (a_h, (oc1 e_wa e_le e_st e_fo e_lc a_l a_g a_b a_s a_p a_w e_gb a_bb)), (a_g, (oc6 6 5 a_gn e_g)), (a_gn, (arI G 30 f_g)), (a_b, (oc6 5 24 a_bn e_b)), (a_bn, (arI G 120 f_b)), (a_p, (oc6 8 5 a_pn e_p)), (a_pn, (arI G 40 f_p)), (a_bb, (arJ G 24 f_bb)), (a_j, (oc2 a_as a_sk)), (a_as, (arI G 8 z23)), (a_sk, (arJ G 50 z24)), (a_l, (arW G 6 f_l)), (a_lo, (oc3 e_cl a_hd a_sr a_cd)), (a_sr, (arI G n_sr f_sr)), (a_cd, (arI G n_cd f_cd)), (a_hd, (arI G n_hd f_hd)), (a_pt, (arI G 200 z22)), (a_wa, (oc10 a_h a_k a_bo)), (a_bo, (arJ G 24 z25))] H ∧ va_D A [(a_o, (oc11 a_h a_im a_ke a_k a_wa a_th a_ha a_wk a_r a_x e_tl e_fd e_fpl a_wd 1 a_rf e_lr)), (a_rf, (arI G 5 f_rf)), (a_wd, (arI G 24 k_wd)), (a_k, (oc5 a_h a_j a_pt z12 z13 z14 z15 z16 z17 z18 z19 z20 z21)), (a_h, (oc1 e_wa e_le e_st e_fo e_lc a_l a_g a_b a_s a_p a_w e_gb a_bb)), (a_g, (oc6 6 5 a_gn e_g)), (a_gn, (arI G 30 f_g)), (a_b, (oc6 5 24 a_bn e_b)), (a_bn, (arI G 120 f_b)), (a_p, (oc6 8 5 a_pn e_p)), (a_pn, (arI G 40 f_p)), (a_bb, (arJ G 24 f_bb)), (a_j, (oc2 a_as a_sk)), (a_as, (arI G 8 z23)), (a_sk, (arJ G 50 z24)), (a_l, (arW G 6 f_l)), (a_lo, (oc3 e_cl a_hd a_sr a_cd)), (a_sr, (arI G n_sr f_sr)), (a_cd, (arI G n_cd f_cd)), (a_hd, (arI G n_hd f_hd)), (a_pt, (arI G 200 z22)), (a_wa, (oc10 a_h a_k a_bo)), (a_bo, (arJ G 24 z25))] ∧ va_S A s.heap H locs ∧ (0 ≤ k_a.toInt ∧ k_a.toInt ≤ 63) ∧ (0 ≤ k_i.toInt ∧ k_i.toInt ≤ 24) ∧ (k_d = wdS p_s.toInt64 (k_i.toInt.toNat - 1)) ∧ (k_a.toInt = wdC f_ro p_s.toInt64 p_c.toInt (k_i.toInt.toNat - 1)) ∧ (k_wd = wdR f_ro p_s.toInt64 p_c.toInt f_wd k_i.toInt.toNat)) (fun (q : (Int64) × (Int32) × (Int32) × (Int32) × (Nat → Int32)) => match q with | (k_d, k_a, k_n, k_i, k_wd) => Int.toNat (24 - k_i.toInt)) (p_s.toInt64, p_c, 0, 0, f_wd) ⟨lv_sub hl [3, 2, 1, 0, 4, 5, 6] rfl, hP, hD, hS, i_5, ⟨by decide, by decide⟩, by rw [show (0 : Int32).toInt.toNat = 0 from by decide]; rfl, by rw [show (0 : Int32).toInt.toNat = 0 from by decide]; rfl, by rw [show (0 : Int32).toInt.toNat = 0 from by decide]; rfl⟩ ?_
              rintro ⟨k_d, k_a, k_n, k_i, k_wd⟩ ls H locs ⟨hl, hP, hD, hS, i_26, i_27, i_28, i_29, i_30⟩ ih_68_31
              have hl : lv_has ls 9 [(3, .long k_d), (5, .int k_a), (6, .int k_n), (7, .int k_i), (0, .ref a_o), (1, .int p_s), (2, .int p_c)] := hl
              have i_26 : 0 ≤ k_a.toInt ∧ k_a.toInt ≤ 63 := i_26
              have i_27 : 0 ≤ k_i.toInt ∧ k_i.toInt ≤ 24 := i_27
              have i_28 : k_d = wdS p_s.toInt64 (k_i.toInt.toNat - 1) := i_28
              have i_29 : k_a.toInt = wdC f_ro p_s.toInt64 p_c.toInt (k_i.toInt.toNat - 1) := i_29
              have i_30 : k_wd = wdR f_ro p_s.toInt64 p_c.toInt f_wd k_i.toInt.toNat := i_30
              refine g5_rs [(a_o, (oc11 a_h a_im a_ke a_k a_wa a_th a_ha a_wk a_r a_x e_tl e_fd e_fpl a_wd 1 a_rf e_lr)), (a_rf, (arI G 5 f_rf)), (a_wd, (arI G 24 k_wd)), (a_k, (oc5 a_h a_j a_pt z12 z13 z14 z15 z16 z17 z18 z19 z20 z21)), (a_h, (oc1 e_wa e_le e_st e_fo e_lc a_l a_g a_b a_s a_p a_w e_gb a_bb)), (a_g, (oc6 6 5 a_gn e_g)), (a_gn, (arI G 30 f_g)), (a_b, (oc6 5 24 a_bn e_b)), (a_bn, (arI G 120 f_b)), (a_p, (oc6 8 5 a_pn e_p)), (a_pn, (arI G 40 f_p)), (a_bb, (arJ G 24 f_bb)), (a_j, (oc2 a_as a_sk)), (a_as, (arI G 8 z23)), (a_sk, (arJ G 50 z24)), (a_l, (arW G 6 f_l)), (a_lo, (oc3 e_cl a_hd a_sr a_cd)), (a_sr, (arI G n_sr f_sr)), (a_cd, (arI G n_cd f_cd)), (a_hd, (arI G n_hd f_hd)), (a_pt, (arI G 200 z22)), (a_wa, (oc10 a_h a_k a_bo)), (a_bo, (arJ G 24 z25))] hP hD (fun hP hD => ?_)
              refine lv_iload hx hb dX11_wander_68 (lv_at hl 3 rfl) ?_
              refine lv_bipush (v := 24) hx hb dX11_wander_70 (by decide) ?_
              refine lv_icmp_ge (tgt := 173) hx hb dX11_wander_72 (by decide) (fun c_32 => ?_) (fun c_32 => ?_)
              ·
                have i_32 : k_i.toInt ≥ 24 := by have z := g5_ge (a := k_i.toInt) (b := 24) (by rfl) (by decide) c_32; omega
                refine lv_aload_n hx hb dX11_wander_173 rfl (lv_at hl 4 rfl) ?_
                refine lv_iload hx hb dX11_wander_174 (lv_at hl 2 rfl) ?_
                obtain ⟨hPc, hDc, hFc⟩ := g5_sub3 (wc := [(a_o, (oc11 a_h a_im a_ke a_k a_wa a_th a_ha a_wk a_r a_x e_tl e_fd e_fpl a_wd 1 a_rf e_lr))]) hP hD hS hA [0] (by decide) rfl
                refine va_calli (va_runV (As := [.int k_n]) (rest := []) ⟨hx, hb, hml, hown, hts⟩ (x_done l G a_o a_h a_im a_ke a_k a_wa a_th a_ha a_wk a_r a_x a_wd a_rf H.size e_tl e_fd e_fpl 1 e_lr k_n h_e_tl ⟨by decide, by decide⟩) (cwV 1 hts gV_X11_121 rfl rfl rfl hv_X11_done ⟨Nat.le_of_ble_eq_true rfl, Nat.le_of_ble_eq_true rfl⟩) (g5_preV hPc hK hDc hN hT hS hFc (ci := 11) (q0 := 0) rfl rfl) rfl rfl hl.1 rfl (lv_room (Nat.le_of_ble_eq_true rfl)) dX11_wander_176 ⟨Nat.le_of_ble_eq_true rfl, Nat.le_of_ble_eq_true rfl⟩) hS (fun q _ h => hFc q h) hFc (fun r u t H1 locs ht hvm hw hB hz1 hk1 hS => ?_)
                obtain ⟨hP1, hD1⟩ := hB
                rw [ht] at hP1
                obtain ⟨y33, rfl⟩ := hw
                obtain ⟨hP, hD⟩ := va_join (wr := [(a_rf, (arI G 5 f_rf)), (a_wd, (arI G 24 k_wd)), (a_k, (oc5 a_h a_j a_pt z12 z13 z14 z15 z16 z17 z18 z19 z20 z21)), (a_h, (oc1 e_wa e_le e_st e_fo e_lc a_l a_g a_b a_s a_p a_w e_gb a_bb)), (a_g, (oc6 6 5 a_gn e_g)), (a_gn, (arI G 30 f_g)), (a_b, (oc6 5 24 a_bn e_b)), (a_bn, (arI G 120 f_b)), (a_p, (oc6 8 5 a_pn e_p)), (a_pn, (arI G 40 f_p)), (a_bb, (arJ G 24 f_bb)), (a_j, (oc2 a_as a_sk)), (a_as, (arI G 8 z23)), (a_sk, (arJ G 50 z24)), (a_l, (arW G 6 f_l)), (a_lo, (oc3 e_cl a_hd a_sr a_cd)), (a_sr, (arI G n_sr f_sr)), (a_cd, (arI G n_cd f_cd)), (a_hd, (arI G n_hd f_hd)), (a_pt, (arI G 200 z22)), (a_wa, (oc10 a_h a_k a_bo)), (a_bo, (arJ G 24 z25))]) hP hD [0] [1, 2, 3, 4, 5, 6, 7, 8, 9, 10, 11, 12, 13, 14, 15, 16, 17, 18, 19, 20, 21, 22] rfl rfl (by decide) (by decide) hk1 hFc hP1 hD1
                generalize H1 = H at hP hS ⊢
                refine g5_rs [(a_rf, (arI G 5 f_rf)), (a_wd, (arI G 24 k_wd)), (a_k, (oc5 a_h a_j a_pt z12 z13 z14 z15 z16 z17 z18 z19 z20 z21)), (a_h, (oc1 e_wa e_le e_st e_fo e_lc a_l a_g a_b a_s a_p a_w e_gb a_bb)), (a_g, (oc6 6 5 a_gn e_g)), (a_gn, (arI G 30 f_g)), (a_b, (oc6 5 24 a_bn e_b)), (a_bn, (arI G 120 f_b)), (a_p, (oc6 8 5 a_pn e_p)), (a_pn, (arI G 40 f_p)), (a_bb, (arJ G 24 f_bb)), (a_j, (oc2 a_as a_sk)), (a_as, (arI G 8 z23)), (a_sk, (arJ G 50 z24)), (a_l, (arW G 6 f_l)), (a_lo, (oc3 e_cl a_hd a_sr a_cd)), (a_sr, (arI G n_sr f_sr)), (a_cd, (arI G n_cd f_cd)), (a_hd, (arI G n_hd f_hd)), (a_pt, (arI G 200 z22)), (a_wa, (oc10 a_h a_k a_bo)), (a_bo, (arJ G 24 z25)), (a_o, (oc11 a_h a_im a_ke a_k a_wa a_th a_ha a_wk a_r a_x e_tl e_fd e_fpl a_wd 1 a_rf 0))] hP hD (fun hP hD => ?_)
                refine g5_ti (v := k_n) y33 ?_
                exact W.iret (v := k_n) hx hb hr (fun t ht hW => ⟨⟨k_n, [(a_o, (oc11 a_h a_im a_ke a_k a_wa a_th a_ha a_wk a_r a_x e_tl e_fd e_fpl a_wd 1 a_rf 0)), (a_rf, (arI G 5 f_rf)), (a_k, (oc5 a_h a_j a_pt z12 z13 z14 z15 z16 z17 z18 z19 z20 z21)), (a_h, (oc1 e_wa e_le e_st e_fo e_lc a_l a_g a_b a_s a_p a_w e_gb a_bb)), (a_g, (oc6 6 5 a_gn e_g)), (a_gn, (arI G 30 f_g)), (a_b, (oc6 5 24 a_bn e_b)), (a_bn, (arI G 120 f_b)), (a_p, (oc6 8 5 a_pn e_p)), (a_pn, (arI G 40 f_p)), (a_bb, (arJ G 24 f_bb)), (a_j, (oc2 a_as a_sk)), (a_as, (arI G 8 z23)), (a_sk, (arJ G 50 z24)), (a_l, (arW G 6 f_l)), (a_lo, (oc3 e_cl a_hd a_sr a_cd)), (a_sr, (arI G n_sr f_sr)), (a_cd, (arI G n_cd f_cd)), (a_hd, (arI G n_hd f_hd)), (a_pt, (arI G 200 z22)), (a_wa, (oc10 a_h a_k a_bo)), (a_bo, (arJ G 24 z25)), (a_wd, (arI G 24 k_wd))], rfl, ⟨k_n, 0, f_rf, 1, z12, z13, z14, z15, z16, z17, z18, z19, z20, z21, z22, z23, z24, z25, k_wd, i_11, ⟨by have zc_o_wn : (1 : Int32).toInt = 1 := (by decide); omega, by have zc_o_wn : (1 : Int32).toInt = 1 := (by decide); omega⟩, by rw [(wand_0 (f := f_ro) (g := f_wd) (n := e_wn) (s := p_s) (c := p_c) (by unfold okD; omega) (wl_n e_hh (by omega) (Or.inr i_8))).1, i_30, show k_i.toInt.toNat = 24 by omega], (wand_0 (f := f_ro) (g := f_wd) (n := e_wn) (s := p_s) (c := p_c) (by unfold okD; omega) (wl_n e_hh (by omega) (Or.inr i_8))).2.symm, rfl, rfl⟩, by rw [ht]; exact hP.sub [22, 0, 2, 3, 4, 5, 6, 7, 8, 9, 10, 11, 12, 13, 14, 15, 16, 17, 18, 19, 20, 21, 1] rfl, hD.sub [22, 0, 2, 3, 4, 5, 6, 7, 8, 9, 10, 11, 12, 13, 14, 15, 16, 17, 18, 19, 20, 21, 1] (by decide) rfl⟩, hS.F ht⟩) hS.2.2 dX11_wander_179
              ·
                have i_32 : k_i.toInt < 24 := by have z := g5_geN (a := k_i.toInt) (b := 24) (by rfl) (by decide) c_32; omega
                refine lv_iload hx hb dX11_wander_75 (lv_at hl 3 rfl) ?_
                refine lv_if_le (tgt := 137) hx hb dX11_wander_77 (by decide) (fun c_34 => ?_) (fun c_34 => ?_)
                ·
                  have i_34 : k_i.toInt ≤ 0 := by have z := g5_le (a := k_i.toInt) (b := 0) (by rfl) (by decide) c_34; omega
                  refine lv_aload_n hx hb dX11_wander_137 rfl (lv_at hl 4 rfl) ?_
                  refine va_get (D := G.1) (ci := 11) (v := .ref a_wd) (C := RX11) (T := TX11) (N := 17) hx hb hts inG_X11 hown hK hP 0 rfl rfl 13 (by decide) (hts _ fl_X11_84) (fun _ h9 => h9) rfl dX11_wander_138 ?_
                  refine lv_iload hx hb dX11_wander_141 (lv_at hl 3 rfl) ?_
                  refine lv_iload hx hb dX11_wander_143 (lv_at hl 1 rfl) ?_
                  refine va_iast hx hb hK hP hD hS 2 0 rfl rfl (i := k_i) (x := k_a) (vp_in_iff.mpr ⟨by omega, by omega⟩) dX11_wander_145 (fun H locs hP hD hS => ?_)
                  refine g5_rs [(a_o, (oc11 a_h a_im a_ke a_k a_wa a_th a_ha a_wk a_r a_x e_tl e_fd e_fpl a_wd 1 a_rf e_lr)), (a_rf, (arI G 5 f_rf)), (a_wd, (arI G 24 (upd k_wd k_i.toNatClampNeg k_a))), (a_k, (oc5 a_h a_j a_pt z12 z13 z14 z15 z16 z17 z18 z19 z20 z21)), (a_h, (oc1 e_wa e_le e_st e_fo e_lc a_l a_g a_b a_s a_p a_w e_gb a_bb)), (a_g, (oc6 6 5 a_gn e_g)), (a_gn, (arI G 30 f_g)), (a_b, (oc6 5 24 a_bn e_b)), (a_bn, (arI G 120 f_b)), (a_p, (oc6 8 5 a_pn e_p)), (a_pn, (arI G 40 f_p)), (a_bb, (arJ G 24 f_bb)), (a_j, (oc2 a_as a_sk)), (a_as, (arI G 8 z23)), (a_sk, (arJ G 50 z24)), (a_l, (arW G 6 f_l)), (a_lo, (oc3 e_cl a_hd a_sr a_cd)), (a_sr, (arI G n_sr f_sr)), (a_cd, (arI G n_cd f_cd)), (a_hd, (arI G n_hd f_hd)), (a_pt, (arI G 200 z22)), (a_wa, (oc10 a_h a_k a_bo)), (a_bo, (arJ G 24 z25))] hP hD (fun hP hD => ?_)
                  refine lv_aload_n hx hb dX11_wander_146 rfl (lv_at hl 4 rfl) ?_
                  refine va_get (D := G.1) (ci := 11) (v := .ref a_wa) (C := RX11) (T := TX11) (N := 17) hx hb hts inG_X11 hown hK hP 0 rfl rfl 4 (by decide) (hts _ fl_X11_38) (fun _ h9 => h9) rfl dX11_wander_147 ?_
                  refine va_get (D := G.1) (ci := 10) (v := .ref a_bo) (C := RX10) (T := TX10) (N := 3) hx hb hts inG_X10 hown hK hP 21 rfl rfl 2 (by decide) (hts _ fl_X11_257) (fun _ h9 => h9) rfl dX11_wander_150 ?_
                  refine lv_iload hx hb dX11_wander_153 (lv_at hl 3 rfl) ?_
                  refine va_lald hx hb hK hP 22 1 rfl rfl (i := k_i) (vp_in_iff.mpr ⟨by omega, by omega⟩) dX11_wander_155 ?_
                  refine lv_iload hx hb dX11_wander_156 (lv_at hl 1 rfl) ?_
                  obtain ⟨hPc, hDc, hFc⟩ := g5_sub3 (wc := []) hP hD hS hA [] (by decide) rfl
                  refine va_calli (va_runS (As := [.long (z25 k_i.toNatClampNeg), .int k_a]) (rest := []) ⟨hx, hb, hml, hown, hts⟩ (k_isOn l G H.size k_a (z25 k_i.toNatClampNeg) i_26) (va_cwS 2 hts gS_X11_115 rfl rfl rfl hs_X11_isOn ⟨Nat.le_of_ble_eq_true rfl, Nat.le_of_ble_eq_true rfl⟩) (g5_preS hPc hK hDc hN hT hS hFc) rfl rfl hl.1 rfl (lv_room (Nat.le_of_ble_eq_true rfl)) dX11_wander_158 ⟨Nat.le_of_ble_eq_true rfl, Nat.le_of_ble_eq_true rfl⟩) hS (fun q _ h => hFc q h) hFc (fun r u t H1 locs ht hvm hw hB hz1 hk1 hS => ?_)
                  obtain ⟨hP1, hD1⟩ := hB
                  rw [ht] at hP1
                  rcases hw with ⟨i_35, rfl, rfl⟩ | ⟨i_36, rfl, rfl⟩
                  ·
                    have i_35 : onB (z25 k_i.toNatClampNeg) k_a.toInt = false := i_35
                    have hP := g5_same hP hk1
                    generalize H1 = H at hP hS ⊢
                    refine lv_if_eq (tgt := 167) hx hb dX11_wander_161 (by decide) (fun c_37 => ?_) (fun c_37 => ?_)
                    ·
                      refine lv_iinc (v := (k_i + 1)) (lv' := [(7, .int (k_i + 1)), (3, .long k_d), (5, .int k_a), (6, .int k_n), (0, .ref a_o), (1, .int p_s), (2, .int p_c)]) hx hb dX11_wander_167 hl (k := 3) rfl rfl (by decide) rfl (fun ls hl => ?_)
                      have t_38 : (k_i + 1).toInt = k_i.toInt + 1 := g5_iadd (a := k_i.toInt) (b := 1) rfl (by decide) (by omega) (by omega)
                      refine lv_goto (tgt := 68) hx hb dX11_wander_170 (by decide) ?_
                      exact ih_68_31 (k_d, k_a, k_n, (k_i + 1), (upd k_wd k_i.toNatClampNeg k_a)) ls H locs (show Int.toNat (24 - (k_i + 1).toInt) < Int.toNat (24 - k_i.toInt) from g_up (show k_i.toInt < (k_i + 1).toInt by omega) (show k_i.toInt < 24 by omega)) ⟨lv_sub hl [1, 2, 3, 0, 4, 5, 6] rfl, hP, hD, hS, i_26, ⟨by omega, by omega⟩, by rw [show (k_i + 1).toInt.toNat - 1 = k_i.toInt.toNat - 1 by omega]; exact i_28, by rw [show (k_i + 1).toInt.toNat - 1 = k_i.toInt.toNat - 1 by omega]; exact i_29, by rw [show (k_i + 1).toInt.toNat = k_i.toInt.toNat + 1 by omega]; exact wdR_S i_30 rfl (by rw [show k_i.toInt.toNat = k_i.toInt.toNat - 1 by omega]; exact i_29)⟩
                    ·
                      exact absurd c_37 (by decide)
                  ·
                    have i_36 : onB (z25 k_i.toNatClampNeg) k_a.toInt = true := i_36
                    have hP := g5_same hP hk1
                    generalize H1 = H at hP hS ⊢
                    refine lv_if_eq (tgt := 167) hx hb dX11_wander_161 (by decide) (fun c_39 => ?_) (fun c_39 => ?_)
                    ·
                      exact absurd c_39 (by decide)
                    ·
                      refine lv_iinc (v := (k_n + 1)) (lv' := [(6, .int (k_n + 1)), (3, .long k_d), (5, .int k_a), (7, .int k_i), (0, .ref a_o), (1, .int p_s), (2, .int p_c)]) hx hb dX11_wander_164 hl (k := 2) rfl rfl (by decide) rfl (fun ls hl => ?_)
                      refine lv_iinc (v := (k_i + 1)) (lv' := [(7, .int (k_i + 1)), (6, .int (k_n + 1)), (3, .long k_d), (5, .int k_a), (0, .ref a_o), (1, .int p_s), (2, .int p_c)]) hx hb dX11_wander_167 hl (k := 3) rfl rfl (by decide) rfl (fun ls hl => ?_)
                      have t_40 : (k_i + 1).toInt = k_i.toInt + 1 := g5_iadd (a := k_i.toInt) (b := 1) rfl (by decide) (by omega) (by omega)
                      refine lv_goto (tgt := 68) hx hb dX11_wander_170 (by decide) ?_
                      exact ih_68_31 (k_d, k_a, (k_n + 1), (k_i + 1), (upd k_wd k_i.toNatClampNeg k_a)) ls H locs (show Int.toNat (24 - (k_i + 1).toInt) < Int.toNat (24 - k_i.toInt) from g_up (show k_i.toInt < (k_i + 1).toInt by omega) (show k_i.toInt < 24 by omega)) ⟨lv_sub hl [2, 3, 1, 0, 4, 5, 6] rfl, hP, hD, hS, i_26, ⟨by omega, by omega⟩, by rw [show (k_i + 1).toInt.toNat - 1 = k_i.toInt.toNat - 1 by omega]; exact i_28, by rw [show (k_i + 1).toInt.toNat - 1 = k_i.toInt.toNat - 1 by omega]; exact i_29, by rw [show (k_i + 1).toInt.toNat = k_i.toInt.toNat + 1 by omega]; exact wdR_S i_30 rfl (by rw [show k_i.toInt.toNat = k_i.toInt.toNat - 1 by omega]; exact i_29)⟩
                ·
                  have i_34 : k_i.toInt > 0 := by have z := g5_leN (a := k_i.toInt) (b := 0) (by rfl) (by decide) c_34; omega
                  refine lv_lload_n hx hb dX11_wander_80 rfl (lv_at hl 0 rfl) ?_
                  refine lv_ldc2 (v := 1103) hx hb hown (hts _ kl_X11_340) dX11_wander_81 ?_
                  refine lv_lmul hx hb dX11_wander_84 ?_
                  refine lv_ldc2 (v := 12345) hx hb hown (hts _ kl_X11_342) dX11_wander_85 ?_
                  refine lv_ladd hx hb dX11_wander_88 ?_
                  refine lv_ldc2 (v := 1000003) hx hb hown (hts _ kl_X11_344) dX11_wander_89 ?_
                  refine lv_lrem hx hb dX11_wander_92 (by decide) ?_
                  refine lv_lstore_n (lv' := [(3, .long (((k_d * 1103) + 12345) - ((k_d * 1103) + 12345) / 1000003 * 1000003)), (5, .int k_a), (6, .int k_n), (7, .int k_i), (0, .ref a_o), (1, .int p_s), (2, .int p_c)]) hx hb dX11_wander_93 rfl hl (by decide) rfl (fun ls hl => ?_)
                  refine lv_iload hx hb dX11_wander_94 (lv_at hl 1 rfl) ?_
                  refine lv_lload_n hx hb dX11_wander_96 rfl (lv_at hl 0 rfl) ?_
                  refine lv_ldc2 (v := 5) hx hb hown (hts _ kl_X11_346) dX11_wander_97 ?_
                  refine lv_lrem hx hb dX11_wander_100 (by decide) ?_
                  refine lv_l2i (v := ((((k_d * 1103) + 12345) - ((k_d * 1103) + 12345) / 1000003 * 1000003) - (((k_d * 1103) + 12345) - ((k_d * 1103) + 12345) / 1000003 * 1000003) / 5 * 5).toInt32) hx hb dX11_wander_101 rfl ?_
                  obtain ⟨y41, hy_41⟩ : ∃ y : Int32, ((((k_d * 1103) + 12345) - ((k_d * 1103) + 12345) / 1000003 * 1000003) - (((k_d * 1103) + 12345) - ((k_d * 1103) + 12345) / 1000003 * 1000003) / 5 * 5).toInt32 = y := ⟨_, rfl⟩
                  refine g5_ti (v := y41) hy_41 ?_
                  obtain ⟨hPc, hDc, hFc⟩ := g5_sub3 (wc := []) hP hD hS hA [] (by decide) rfl
                  refine va_calli (va_runS (As := [.int k_a, .int y41]) (rest := []) ⟨hx, hb, hml, hown, hts⟩ (k_beside l G H.size k_a y41 i_26) (va_cwS 2 hts gS_X11_348 rfl rfl rfl hs_X11_beside ⟨Nat.le_of_ble_eq_true rfl, Nat.le_of_ble_eq_true rfl⟩) (g5_preS hPc hK hDc hN hT hS hFc) rfl rfl hl.1 rfl (lv_room (Nat.le_of_ble_eq_true rfl)) dX11_wander_102 ⟨Nat.le_of_ble_eq_true rfl, Nat.le_of_ble_eq_true rfl⟩) hS (fun q _ h => hFc q h) hFc (fun r u t H1 locs ht hvm hw hB hz1 hk1 hS => ?_)
                  obtain ⟨hP1, hD1⟩ := hB
                  rw [ht] at hP1
                  obtain ⟨z44, i_42, i_43, y45, rfl⟩ := hw
                  have i_42 : z44.toInt = bs k_a.toInt y41.toInt := i_42
                  have i_43 : -1 ≤ z44.toInt ∧ z44.toInt ≤ 63 := i_43
                  have hP := g5_same hP hk1
                  generalize H1 = H at hP hS ⊢
                  refine g5_ti (v := z44) y45 ?_
                  refine lv_istore (lv' := [(8, .int z44), (3, .long (((k_d * 1103) + 12345) - ((k_d * 1103) + 12345) / 1000003 * 1000003)), (5, .int k_a), (6, .int k_n), (7, .int k_i), (0, .ref a_o), (1, .int p_s), (2, .int p_c)]) hx hb dX11_wander_105 hl (by decide) rfl (fun ls hl => ?_)
                  refine lv_iload hx hb dX11_wander_107 (lv_at hl 0 rfl) ?_
                  refine lv_iconst (v := (-1)) hx hb dX11_wander_109 (by decide) ?_
                  refine lv_icmp_eq (tgt := 128) hx hb dX11_wander_110 (by decide) (fun c_46 => ?_) (fun c_46 => ?_)
                  ·
                    have i_46 : z44.toInt = (-1) := by have z := g5_eq (a := z44.toInt) (b := (-1)) (by rfl) (by decide) c_46; omega
                    refine lv_iload hx hb dX11_wander_128 (lv_at hl 2 rfl) ?_
                    refine lv_goto (tgt := 135) hx hb dX11_wander_130 (by decide) ?_
                    refine lv_istore (lv' := [(5, .int k_a), (8, .int z44), (3, .long (((k_d * 1103) + 12345) - ((k_d * 1103) + 12345) / 1000003 * 1000003)), (6, .int k_n), (7, .int k_i), (0, .ref a_o), (1, .int p_s), (2, .int p_c)]) hx hb dX11_wander_135 hl (by decide) rfl (fun ls hl => ?_)
                    refine lv_aload_n hx hb dX11_wander_137 rfl (lv_at hl 5 rfl) ?_
                    refine va_get (D := G.1) (ci := 11) (v := .ref a_wd) (C := RX11) (T := TX11) (N := 17) hx hb hts inG_X11 hown hK hP 0 rfl rfl 13 (by decide) (hts _ fl_X11_84) (fun _ h9 => h9) rfl dX11_wander_138 ?_
                    refine lv_iload hx hb dX11_wander_141 (lv_at hl 4 rfl) ?_
                    refine lv_iload hx hb dX11_wander_143 (lv_at hl 0 rfl) ?_
                    refine va_iast hx hb hK hP hD hS 2 0 rfl rfl (i := k_i) (x := k_a) (vp_in_iff.mpr ⟨by omega, by omega⟩) dX11_wander_145 (fun H locs hP hD hS => ?_)
                    refine g5_rs [(a_o, (oc11 a_h a_im a_ke a_k a_wa a_th a_ha a_wk a_r a_x e_tl e_fd e_fpl a_wd 1 a_rf e_lr)), (a_rf, (arI G 5 f_rf)), (a_wd, (arI G 24 (upd k_wd k_i.toNatClampNeg k_a))), (a_k, (oc5 a_h a_j a_pt z12 z13 z14 z15 z16 z17 z18 z19 z20 z21)), (a_h, (oc1 e_wa e_le e_st e_fo e_lc a_l a_g a_b a_s a_p a_w e_gb a_bb)), (a_g, (oc6 6 5 a_gn e_g)), (a_gn, (arI G 30 f_g)), (a_b, (oc6 5 24 a_bn e_b)), (a_bn, (arI G 120 f_b)), (a_p, (oc6 8 5 a_pn e_p)), (a_pn, (arI G 40 f_p)), (a_bb, (arJ G 24 f_bb)), (a_j, (oc2 a_as a_sk)), (a_as, (arI G 8 z23)), (a_sk, (arJ G 50 z24)), (a_l, (arW G 6 f_l)), (a_lo, (oc3 e_cl a_hd a_sr a_cd)), (a_sr, (arI G n_sr f_sr)), (a_cd, (arI G n_cd f_cd)), (a_hd, (arI G n_hd f_hd)), (a_pt, (arI G 200 z22)), (a_wa, (oc10 a_h a_k a_bo)), (a_bo, (arJ G 24 z25))] hP hD (fun hP hD => ?_)
                    refine lv_aload_n hx hb dX11_wander_146 rfl (lv_at hl 5 rfl) ?_
                    refine va_get (D := G.1) (ci := 11) (v := .ref a_wa) (C := RX11) (T := TX11) (N := 17) hx hb hts inG_X11 hown hK hP 0 rfl rfl 4 (by decide) (hts _ fl_X11_38) (fun _ h9 => h9) rfl dX11_wander_147 ?_
                    refine va_get (D := G.1) (ci := 10) (v := .ref a_bo) (C := RX10) (T := TX10) (N := 3) hx hb hts inG_X10 hown hK hP 21 rfl rfl 2 (by decide) (hts _ fl_X11_257) (fun _ h9 => h9) rfl dX11_wander_150 ?_
                    refine lv_iload hx hb dX11_wander_153 (lv_at hl 4 rfl) ?_
                    refine va_lald hx hb hK hP 22 1 rfl rfl (i := k_i) (vp_in_iff.mpr ⟨by omega, by omega⟩) dX11_wander_155 ?_
                    refine lv_iload hx hb dX11_wander_156 (lv_at hl 0 rfl) ?_
                    obtain ⟨hPc, hDc, hFc⟩ := g5_sub3 (wc := []) hP hD hS hA [] (by decide) rfl
                    refine va_calli (va_runS (As := [.long (z25 k_i.toNatClampNeg), .int k_a]) (rest := []) ⟨hx, hb, hml, hown, hts⟩ (k_isOn l G H.size k_a (z25 k_i.toNatClampNeg) i_26) (va_cwS 2 hts gS_X11_115 rfl rfl rfl hs_X11_isOn ⟨Nat.le_of_ble_eq_true rfl, Nat.le_of_ble_eq_true rfl⟩) (g5_preS hPc hK hDc hN hT hS hFc) rfl rfl hl.1 rfl (lv_room (Nat.le_of_ble_eq_true rfl)) dX11_wander_158 ⟨Nat.le_of_ble_eq_true rfl, Nat.le_of_ble_eq_true rfl⟩) hS (fun q _ h => hFc q h) hFc (fun r u t H1 locs ht hvm hw hB hz1 hk1 hS => ?_)
                    obtain ⟨hP1, hD1⟩ := hB
                    rw [ht] at hP1
                    rcases hw with ⟨i_47, rfl, rfl⟩ | ⟨i_48, rfl, rfl⟩
                    ·
                      have i_47 : onB (z25 k_i.toNatClampNeg) k_a.toInt = false := i_47
                      have hP := g5_same hP hk1
                      generalize H1 = H at hP hS ⊢
                      refine lv_if_eq (tgt := 167) hx hb dX11_wander_161 (by decide) (fun c_49 => ?_) (fun c_49 => ?_)
                      ·
                        refine lv_iinc (v := (k_i + 1)) (lv' := [(7, .int (k_i + 1)), (5, .int k_a), (8, .int z44), (3, .long (((k_d * 1103) + 12345) - ((k_d * 1103) + 12345) / 1000003 * 1000003)), (6, .int k_n), (0, .ref a_o), (1, .int p_s), (2, .int p_c)]) hx hb dX11_wander_167 hl (k := 4) rfl rfl (by decide) rfl (fun ls hl => ?_)
                        have t_50 : (k_i + 1).toInt = k_i.toInt + 1 := g5_iadd (a := k_i.toInt) (b := 1) rfl (by decide) (by omega) (by omega)
                        refine lv_goto (tgt := 68) hx hb dX11_wander_170 (by decide) ?_
                        exact ih_68_31 ((((k_d * 1103) + 12345) - ((k_d * 1103) + 12345) / 1000003 * 1000003), k_a, k_n, (k_i + 1), (upd k_wd k_i.toNatClampNeg k_a)) ls H locs (show Int.toNat (24 - (k_i + 1).toInt) < Int.toNat (24 - k_i.toInt) from g_up (show k_i.toInt < (k_i + 1).toInt by omega) (show k_i.toInt < 24 by omega)) ⟨lv_sub hl [3, 1, 4, 0, 5, 6, 7] rfl, hP, hD, hS, i_26, ⟨by omega, by omega⟩, by rw [show (k_i + 1).toInt.toNat - 1 = (k_i.toInt.toNat - 1) + 1 by omega, wdS_S, ← i_28]; rfl, by rw [show (k_i + 1).toInt.toNat - 1 = (k_i.toInt.toNat - 1) + 1 by omega]; exact (by rw [wdC_S (wdk_of i_28 hy_41), ← i_29, ws_n (by rw [← i_42]; omega)]), by rw [show (k_i + 1).toInt.toNat = k_i.toInt.toNat + 1 by omega]; exact wdR_S i_30 rfl (by rw [show k_i.toInt.toNat = (k_i.toInt.toNat - 1) + 1 by omega]; exact (by rw [wdC_S (wdk_of i_28 hy_41), ← i_29, ws_n (by rw [← i_42]; omega)]))⟩
                      ·
                        exact absurd c_49 (by decide)
                    ·
                      have i_48 : onB (z25 k_i.toNatClampNeg) k_a.toInt = true := i_48
                      have hP := g5_same hP hk1
                      generalize H1 = H at hP hS ⊢
                      refine lv_if_eq (tgt := 167) hx hb dX11_wander_161 (by decide) (fun c_51 => ?_) (fun c_51 => ?_)
                      ·
                        exact absurd c_51 (by decide)
                      ·
                        refine lv_iinc (v := (k_n + 1)) (lv' := [(6, .int (k_n + 1)), (5, .int k_a), (8, .int z44), (3, .long (((k_d * 1103) + 12345) - ((k_d * 1103) + 12345) / 1000003 * 1000003)), (7, .int k_i), (0, .ref a_o), (1, .int p_s), (2, .int p_c)]) hx hb dX11_wander_164 hl (k := 3) rfl rfl (by decide) rfl (fun ls hl => ?_)
                        refine lv_iinc (v := (k_i + 1)) (lv' := [(7, .int (k_i + 1)), (6, .int (k_n + 1)), (5, .int k_a), (8, .int z44), (3, .long (((k_d * 1103) + 12345) - ((k_d * 1103) + 12345) / 1000003 * 1000003)), (0, .ref a_o), (1, .int p_s), (2, .int p_c)]) hx hb dX11_wander_167 hl (k := 4) rfl rfl (by decide) rfl (fun ls hl => ?_)
                        have t_52 : (k_i + 1).toInt = k_i.toInt + 1 := g5_iadd (a := k_i.toInt) (b := 1) rfl (by decide) (by omega) (by omega)
                        refine lv_goto (tgt := 68) hx hb dX11_wander_170 (by decide) ?_
                        exact ih_68_31 ((((k_d * 1103) + 12345) - ((k_d * 1103) + 12345) / 1000003 * 1000003), k_a, (k_n + 1), (k_i + 1), (upd k_wd k_i.toNatClampNeg k_a)) ls H locs (show Int.toNat (24 - (k_i + 1).toInt) < Int.toNat (24 - k_i.toInt) from g_up (show k_i.toInt < (k_i + 1).toInt by omega) (show k_i.toInt < 24 by omega)) ⟨lv_sub hl [4, 2, 1, 0, 5, 6, 7] rfl, hP, hD, hS, i_26, ⟨by omega, by omega⟩, by rw [show (k_i + 1).toInt.toNat - 1 = (k_i.toInt.toNat - 1) + 1 by omega, wdS_S, ← i_28]; rfl, by rw [show (k_i + 1).toInt.toNat - 1 = (k_i.toInt.toNat - 1) + 1 by omega]; exact (by rw [wdC_S (wdk_of i_28 hy_41), ← i_29, ws_n (by rw [← i_42]; omega)]), by rw [show (k_i + 1).toInt.toNat = k_i.toInt.toNat + 1 by omega]; exact wdR_S i_30 rfl (by rw [show k_i.toInt.toNat = (k_i.toInt.toNat - 1) + 1 by omega]; exact (by rw [wdC_S (wdk_of i_28 hy_41), ← i_29, ws_n (by rw [← i_42]; omega)]))⟩
                  ·
                    have n_46 : gNe (z44.toInt) ((-1)) := by have z := g5_eqN (a := z44.toInt) (b := (-1)) (by rfl) (by decide) c_46; unfold gNe; omega
                    have i_46 : z44.toInt ≥ 0 := by have z := g5_eqN (a := z44.toInt) (b := (-1)) (by rfl) (by decide) c_46; omega
                    refine lv_aload_n hx hb dX11_wander_113 rfl (lv_at hl 5 rfl) ?_
                    refine va_get (D := G.1) (ci := 11) (v := .ref a_h) (C := RX11) (T := TX11) (N := 17) hx hb hts inG_X11 hown hK hP 0 rfl rfl 0 (by decide) (hts _ fl_X11_12) (fun _ h9 => h9) rfl dX11_wander_114 ?_
                    refine va_get (D := G.1) (ci := 1) (v := .long e_wa) (C := RX1) (T := TX1) (N := 13) hx hb hts inG_X1 hown hK hP 4 rfl rfl 0 (by decide) (hts _ fl_X11_111) (fun _ h9 => h9) rfl dX11_wander_117 ?_
                    refine lv_iload hx hb dX11_wander_120 (lv_at hl 0 rfl) ?_
                    obtain ⟨hPc, hDc, hFc⟩ := g5_sub3 (wc := []) hP hD hS hA [] (by decide) rfl
                    refine va_calli (va_runS (As := [.long e_wa, .int z44]) (rest := []) ⟨hx, hb, hml, hown, hts⟩ (k_isOn l G H.size z44 e_wa ⟨by omega, by omega⟩) (va_cwS 2 hts gS_X11_115 rfl rfl rfl hs_X11_isOn ⟨Nat.le_of_ble_eq_true rfl, Nat.le_of_ble_eq_true rfl⟩) (g5_preS hPc hK hDc hN hT hS hFc) rfl rfl hl.1 rfl (lv_room (Nat.le_of_ble_eq_true rfl)) dX11_wander_122 ⟨Nat.le_of_ble_eq_true rfl, Nat.le_of_ble_eq_true rfl⟩) hS (fun q _ h => hFc q h) hFc (fun r u t H1 locs ht hvm hw hB hz1 hk1 hS => ?_)
                    obtain ⟨hP1, hD1⟩ := hB
                    rw [ht] at hP1
                    rcases hw with ⟨i_53, rfl, rfl⟩ | ⟨i_54, rfl, rfl⟩
                    ·
                      have i_53 : onB e_wa z44.toInt = false := i_53
                      have hP := g5_same hP hk1
                      generalize H1 = H at hP hS ⊢
                      refine lv_if_eq (tgt := 133) hx hb dX11_wander_125 (by decide) (fun c_55 => ?_) (fun c_55 => ?_)
                      ·
                        refine lv_iload hx hb dX11_wander_133 (lv_at hl 0 rfl) ?_
                        refine lv_istore (lv' := [(5, .int z44), (8, .int z44), (3, .long (((k_d * 1103) + 12345) - ((k_d * 1103) + 12345) / 1000003 * 1000003)), (6, .int k_n), (7, .int k_i), (0, .ref a_o), (1, .int p_s), (2, .int p_c)]) hx hb dX11_wander_135 hl (by decide) rfl (fun ls hl => ?_)
                        refine lv_aload_n hx hb dX11_wander_137 rfl (lv_at hl 5 rfl) ?_
                        refine va_get (D := G.1) (ci := 11) (v := .ref a_wd) (C := RX11) (T := TX11) (N := 17) hx hb hts inG_X11 hown hK hP 0 rfl rfl 13 (by decide) (hts _ fl_X11_84) (fun _ h9 => h9) rfl dX11_wander_138 ?_
                        refine lv_iload hx hb dX11_wander_141 (lv_at hl 4 rfl) ?_
                        refine lv_iload hx hb dX11_wander_143 (lv_at hl 0 rfl) ?_
                        refine va_iast hx hb hK hP hD hS 2 0 rfl rfl (i := k_i) (x := z44) (vp_in_iff.mpr ⟨by omega, by omega⟩) dX11_wander_145 (fun H locs hP hD hS => ?_)
                        refine g5_rs [(a_o, (oc11 a_h a_im a_ke a_k a_wa a_th a_ha a_wk a_r a_x e_tl e_fd e_fpl a_wd 1 a_rf e_lr)), (a_rf, (arI G 5 f_rf)), (a_wd, (arI G 24 (upd k_wd k_i.toNatClampNeg z44))), (a_k, (oc5 a_h a_j a_pt z12 z13 z14 z15 z16 z17 z18 z19 z20 z21)), (a_h, (oc1 e_wa e_le e_st e_fo e_lc a_l a_g a_b a_s a_p a_w e_gb a_bb)), (a_g, (oc6 6 5 a_gn e_g)), (a_gn, (arI G 30 f_g)), (a_b, (oc6 5 24 a_bn e_b)), (a_bn, (arI G 120 f_b)), (a_p, (oc6 8 5 a_pn e_p)), (a_pn, (arI G 40 f_p)), (a_bb, (arJ G 24 f_bb)), (a_j, (oc2 a_as a_sk)), (a_as, (arI G 8 z23)), (a_sk, (arJ G 50 z24)), (a_l, (arW G 6 f_l)), (a_lo, (oc3 e_cl a_hd a_sr a_cd)), (a_sr, (arI G n_sr f_sr)), (a_cd, (arI G n_cd f_cd)), (a_hd, (arI G n_hd f_hd)), (a_pt, (arI G 200 z22)), (a_wa, (oc10 a_h a_k a_bo)), (a_bo, (arJ G 24 z25))] hP hD (fun hP hD => ?_)
                        refine lv_aload_n hx hb dX11_wander_146 rfl (lv_at hl 5 rfl) ?_
                        refine va_get (D := G.1) (ci := 11) (v := .ref a_wa) (C := RX11) (T := TX11) (N := 17) hx hb hts inG_X11 hown hK hP 0 rfl rfl 4 (by decide) (hts _ fl_X11_38) (fun _ h9 => h9) rfl dX11_wander_147 ?_
                        refine va_get (D := G.1) (ci := 10) (v := .ref a_bo) (C := RX10) (T := TX10) (N := 3) hx hb hts inG_X10 hown hK hP 21 rfl rfl 2 (by decide) (hts _ fl_X11_257) (fun _ h9 => h9) rfl dX11_wander_150 ?_
                        refine lv_iload hx hb dX11_wander_153 (lv_at hl 4 rfl) ?_
                        refine va_lald hx hb hK hP 22 1 rfl rfl (i := k_i) (vp_in_iff.mpr ⟨by omega, by omega⟩) dX11_wander_155 ?_
                        refine lv_iload hx hb dX11_wander_156 (lv_at hl 0 rfl) ?_
                        obtain ⟨hPc, hDc, hFc⟩ := g5_sub3 (wc := []) hP hD hS hA [] (by decide) rfl
                        refine va_calli (va_runS (As := [.long (z25 k_i.toNatClampNeg), .int z44]) (rest := []) ⟨hx, hb, hml, hown, hts⟩ (k_isOn l G H.size z44 (z25 k_i.toNatClampNeg) ⟨by omega, by omega⟩) (va_cwS 2 hts gS_X11_115 rfl rfl rfl hs_X11_isOn ⟨Nat.le_of_ble_eq_true rfl, Nat.le_of_ble_eq_true rfl⟩) (g5_preS hPc hK hDc hN hT hS hFc) rfl rfl hl.1 rfl (lv_room (Nat.le_of_ble_eq_true rfl)) dX11_wander_158 ⟨Nat.le_of_ble_eq_true rfl, Nat.le_of_ble_eq_true rfl⟩) hS (fun q _ h => hFc q h) hFc (fun r u t H1 locs ht hvm hw hB hz1 hk1 hS => ?_)
                        obtain ⟨hP1, hD1⟩ := hB
                        rw [ht] at hP1
                        rcases hw with ⟨i_56, rfl, rfl⟩ | ⟨i_57, rfl, rfl⟩
                        ·
                          have i_56 : onB (z25 k_i.toNatClampNeg) z44.toInt = false := i_56
                          have hP := g5_same hP hk1
                          generalize H1 = H at hP hS ⊢
                          refine lv_if_eq (tgt := 167) hx hb dX11_wander_161 (by decide) (fun c_58 => ?_) (fun c_58 => ?_)
                          ·
                            refine lv_iinc (v := (k_i + 1)) (lv' := [(7, .int (k_i + 1)), (5, .int z44), (8, .int z44), (3, .long (((k_d * 1103) + 12345) - ((k_d * 1103) + 12345) / 1000003 * 1000003)), (6, .int k_n), (0, .ref a_o), (1, .int p_s), (2, .int p_c)]) hx hb dX11_wander_167 hl (k := 4) rfl rfl (by decide) rfl (fun ls hl => ?_)
                            have t_59 : (k_i + 1).toInt = k_i.toInt + 1 := g5_iadd (a := k_i.toInt) (b := 1) rfl (by decide) (by omega) (by omega)
                            refine lv_goto (tgt := 68) hx hb dX11_wander_170 (by decide) ?_
                            exact ih_68_31 ((((k_d * 1103) + 12345) - ((k_d * 1103) + 12345) / 1000003 * 1000003), z44, k_n, (k_i + 1), (upd k_wd k_i.toNatClampNeg z44)) ls H locs (show Int.toNat (24 - (k_i + 1).toInt) < Int.toNat (24 - k_i.toInt) from g_up (show k_i.toInt < (k_i + 1).toInt by omega) (show k_i.toInt < 24 by omega)) ⟨lv_sub hl [3, 1, 4, 0, 5, 6, 7] rfl, hP, hD, hS, ⟨by omega, by omega⟩, ⟨by omega, by omega⟩, by rw [show (k_i + 1).toInt.toNat - 1 = (k_i.toInt.toNat - 1) + 1 by omega, wdS_S, ← i_28]; rfl, by rw [show (k_i + 1).toInt.toNat - 1 = (k_i.toInt.toNat - 1) + 1 by omega]; exact (by rw [wdC_S (wdk_of i_28 hy_41), ← i_29, ws_y (by rw [← i_42]; exact n_46) (by rw [← i_42]; exact wl_n e_hh (by omega) (Or.inr i_53)), ← i_42]), by rw [show (k_i + 1).toInt.toNat = k_i.toInt.toNat + 1 by omega]; exact wdR_S i_30 rfl (by rw [show k_i.toInt.toNat = (k_i.toInt.toNat - 1) + 1 by omega]; exact (by rw [wdC_S (wdk_of i_28 hy_41), ← i_29, ws_y (by rw [← i_42]; exact n_46) (by rw [← i_42]; exact wl_n e_hh (by omega) (Or.inr i_53)), ← i_42]))⟩
                          ·
                            exact absurd c_58 (by decide)
                        ·
                          have i_57 : onB (z25 k_i.toNatClampNeg) z44.toInt = true := i_57
                          have hP := g5_same hP hk1
                          generalize H1 = H at hP hS ⊢
                          refine lv_if_eq (tgt := 167) hx hb dX11_wander_161 (by decide) (fun c_60 => ?_) (fun c_60 => ?_)
                          ·
                            exact absurd c_60 (by decide)
                          ·
                            refine lv_iinc (v := (k_n + 1)) (lv' := [(6, .int (k_n + 1)), (5, .int z44), (8, .int z44), (3, .long (((k_d * 1103) + 12345) - ((k_d * 1103) + 12345) / 1000003 * 1000003)), (7, .int k_i), (0, .ref a_o), (1, .int p_s), (2, .int p_c)]) hx hb dX11_wander_164 hl (k := 3) rfl rfl (by decide) rfl (fun ls hl => ?_)
                            refine lv_iinc (v := (k_i + 1)) (lv' := [(7, .int (k_i + 1)), (6, .int (k_n + 1)), (5, .int z44), (8, .int z44), (3, .long (((k_d * 1103) + 12345) - ((k_d * 1103) + 12345) / 1000003 * 1000003)), (0, .ref a_o), (1, .int p_s), (2, .int p_c)]) hx hb dX11_wander_167 hl (k := 4) rfl rfl (by decide) rfl (fun ls hl => ?_)
                            have t_61 : (k_i + 1).toInt = k_i.toInt + 1 := g5_iadd (a := k_i.toInt) (b := 1) rfl (by decide) (by omega) (by omega)
                            refine lv_goto (tgt := 68) hx hb dX11_wander_170 (by decide) ?_
                            exact ih_68_31 ((((k_d * 1103) + 12345) - ((k_d * 1103) + 12345) / 1000003 * 1000003), z44, (k_n + 1), (k_i + 1), (upd k_wd k_i.toNatClampNeg z44)) ls H locs (show Int.toNat (24 - (k_i + 1).toInt) < Int.toNat (24 - k_i.toInt) from g_up (show k_i.toInt < (k_i + 1).toInt by omega) (show k_i.toInt < 24 by omega)) ⟨lv_sub hl [4, 2, 1, 0, 5, 6, 7] rfl, hP, hD, hS, ⟨by omega, by omega⟩, ⟨by omega, by omega⟩, by rw [show (k_i + 1).toInt.toNat - 1 = (k_i.toInt.toNat - 1) + 1 by omega, wdS_S, ← i_28]; rfl, by rw [show (k_i + 1).toInt.toNat - 1 = (k_i.toInt.toNat - 1) + 1 by omega]; exact (by rw [wdC_S (wdk_of i_28 hy_41), ← i_29, ws_y (by rw [← i_42]; exact n_46) (by rw [← i_42]; exact wl_n e_hh (by omega) (Or.inr i_53)), ← i_42]), by rw [show (k_i + 1).toInt.toNat = k_i.toInt.toNat + 1 by omega]; exact wdR_S i_30 rfl (by rw [show k_i.toInt.toNat = (k_i.toInt.toNat - 1) + 1 by omega]; exact (by rw [wdC_S (wdk_of i_28 hy_41), ← i_29, ws_y (by rw [← i_42]; exact n_46) (by rw [← i_42]; exact wl_n e_hh (by omega) (Or.inr i_53)), ← i_42]))⟩
                      ·
                        exact absurd c_55 (by decide)
                    ·
                      have i_54 : onB e_wa z44.toInt = true := i_54
                      have hP := g5_same hP hk1
                      generalize H1 = H at hP hS ⊢
                      refine lv_if_eq (tgt := 133) hx hb dX11_wander_125 (by decide) (fun c_62 => ?_) (fun c_62 => ?_)
                      ·
                        exact absurd c_62 (by decide)
                      ·
                        refine lv_iload hx hb dX11_wander_128 (lv_at hl 2 rfl) ?_
                        refine lv_goto (tgt := 135) hx hb dX11_wander_130 (by decide) ?_
                        refine lv_istore (lv' := [(5, .int k_a), (8, .int z44), (3, .long (((k_d * 1103) + 12345) - ((k_d * 1103) + 12345) / 1000003 * 1000003)), (6, .int k_n), (7, .int k_i), (0, .ref a_o), (1, .int p_s), (2, .int p_c)]) hx hb dX11_wander_135 hl (by decide) rfl (fun ls hl => ?_)
                        refine lv_aload_n hx hb dX11_wander_137 rfl (lv_at hl 5 rfl) ?_
                        refine va_get (D := G.1) (ci := 11) (v := .ref a_wd) (C := RX11) (T := TX11) (N := 17) hx hb hts inG_X11 hown hK hP 0 rfl rfl 13 (by decide) (hts _ fl_X11_84) (fun _ h9 => h9) rfl dX11_wander_138 ?_
                        refine lv_iload hx hb dX11_wander_141 (lv_at hl 4 rfl) ?_
                        refine lv_iload hx hb dX11_wander_143 (lv_at hl 0 rfl) ?_
                        refine va_iast hx hb hK hP hD hS 2 0 rfl rfl (i := k_i) (x := k_a) (vp_in_iff.mpr ⟨by omega, by omega⟩) dX11_wander_145 (fun H locs hP hD hS => ?_)
                        refine g5_rs [(a_o, (oc11 a_h a_im a_ke a_k a_wa a_th a_ha a_wk a_r a_x e_tl e_fd e_fpl a_wd 1 a_rf e_lr)), (a_rf, (arI G 5 f_rf)), (a_wd, (arI G 24 (upd k_wd k_i.toNatClampNeg k_a))), (a_k, (oc5 a_h a_j a_pt z12 z13 z14 z15 z16 z17 z18 z19 z20 z21)), (a_h, (oc1 e_wa e_le e_st e_fo e_lc a_l a_g a_b a_s a_p a_w e_gb a_bb)), (a_g, (oc6 6 5 a_gn e_g)), (a_gn, (arI G 30 f_g)), (a_b, (oc6 5 24 a_bn e_b)), (a_bn, (arI G 120 f_b)), (a_p, (oc6 8 5 a_pn e_p)), (a_pn, (arI G 40 f_p)), (a_bb, (arJ G 24 f_bb)), (a_j, (oc2 a_as a_sk)), (a_as, (arI G 8 z23)), (a_sk, (arJ G 50 z24)), (a_l, (arW G 6 f_l)), (a_lo, (oc3 e_cl a_hd a_sr a_cd)), (a_sr, (arI G n_sr f_sr)), (a_cd, (arI G n_cd f_cd)), (a_hd, (arI G n_hd f_hd)), (a_pt, (arI G 200 z22)), (a_wa, (oc10 a_h a_k a_bo)), (a_bo, (arJ G 24 z25))] hP hD (fun hP hD => ?_)
                        refine lv_aload_n hx hb dX11_wander_146 rfl (lv_at hl 5 rfl) ?_
                        refine va_get (D := G.1) (ci := 11) (v := .ref a_wa) (C := RX11) (T := TX11) (N := 17) hx hb hts inG_X11 hown hK hP 0 rfl rfl 4 (by decide) (hts _ fl_X11_38) (fun _ h9 => h9) rfl dX11_wander_147 ?_
                        refine va_get (D := G.1) (ci := 10) (v := .ref a_bo) (C := RX10) (T := TX10) (N := 3) hx hb hts inG_X10 hown hK hP 21 rfl rfl 2 (by decide) (hts _ fl_X11_257) (fun _ h9 => h9) rfl dX11_wander_150 ?_
                        refine lv_iload hx hb dX11_wander_153 (lv_at hl 4 rfl) ?_
                        refine va_lald hx hb hK hP 22 1 rfl rfl (i := k_i) (vp_in_iff.mpr ⟨by omega, by omega⟩) dX11_wander_155 ?_
                        refine lv_iload hx hb dX11_wander_156 (lv_at hl 0 rfl) ?_
                        obtain ⟨hPc, hDc, hFc⟩ := g5_sub3 (wc := []) hP hD hS hA [] (by decide) rfl
                        refine va_calli (va_runS (As := [.long (z25 k_i.toNatClampNeg), .int k_a]) (rest := []) ⟨hx, hb, hml, hown, hts⟩ (k_isOn l G H.size k_a (z25 k_i.toNatClampNeg) i_26) (va_cwS 2 hts gS_X11_115 rfl rfl rfl hs_X11_isOn ⟨Nat.le_of_ble_eq_true rfl, Nat.le_of_ble_eq_true rfl⟩) (g5_preS hPc hK hDc hN hT hS hFc) rfl rfl hl.1 rfl (lv_room (Nat.le_of_ble_eq_true rfl)) dX11_wander_158 ⟨Nat.le_of_ble_eq_true rfl, Nat.le_of_ble_eq_true rfl⟩) hS (fun q _ h => hFc q h) hFc (fun r u t H1 locs ht hvm hw hB hz1 hk1 hS => ?_)
                        obtain ⟨hP1, hD1⟩ := hB
                        rw [ht] at hP1
                        rcases hw with ⟨i_63, rfl, rfl⟩ | ⟨i_64, rfl, rfl⟩
                        ·
                          have i_63 : onB (z25 k_i.toNatClampNeg) k_a.toInt = false := i_63
                          have hP := g5_same hP hk1
                          generalize H1 = H at hP hS ⊢
                          refine lv_if_eq (tgt := 167) hx hb dX11_wander_161 (by decide) (fun c_65 => ?_) (fun c_65 => ?_)
                          ·
                            refine lv_iinc (v := (k_i + 1)) (lv' := [(7, .int (k_i + 1)), (5, .int k_a), (8, .int z44), (3, .long (((k_d * 1103) + 12345) - ((k_d * 1103) + 12345) / 1000003 * 1000003)), (6, .int k_n), (0, .ref a_o), (1, .int p_s), (2, .int p_c)]) hx hb dX11_wander_167 hl (k := 4) rfl rfl (by decide) rfl (fun ls hl => ?_)
                            have t_66 : (k_i + 1).toInt = k_i.toInt + 1 := g5_iadd (a := k_i.toInt) (b := 1) rfl (by decide) (by omega) (by omega)
                            refine lv_goto (tgt := 68) hx hb dX11_wander_170 (by decide) ?_
                            exact ih_68_31 ((((k_d * 1103) + 12345) - ((k_d * 1103) + 12345) / 1000003 * 1000003), k_a, k_n, (k_i + 1), (upd k_wd k_i.toNatClampNeg k_a)) ls H locs (show Int.toNat (24 - (k_i + 1).toInt) < Int.toNat (24 - k_i.toInt) from g_up (show k_i.toInt < (k_i + 1).toInt by omega) (show k_i.toInt < 24 by omega)) ⟨lv_sub hl [3, 1, 4, 0, 5, 6, 7] rfl, hP, hD, hS, i_26, ⟨by omega, by omega⟩, by rw [show (k_i + 1).toInt.toNat - 1 = (k_i.toInt.toNat - 1) + 1 by omega, wdS_S, ← i_28]; rfl, by rw [show (k_i + 1).toInt.toNat - 1 = (k_i.toInt.toNat - 1) + 1 by omega]; exact (by rw [wdC_S (wdk_of i_28 hy_41), ← i_29, ws_w (by rw [← i_42]; exact wl_y e_hh (by omega) ⟨by omega, i_54⟩)]), by rw [show (k_i + 1).toInt.toNat = k_i.toInt.toNat + 1 by omega]; exact wdR_S i_30 rfl (by rw [show k_i.toInt.toNat = (k_i.toInt.toNat - 1) + 1 by omega]; exact (by rw [wdC_S (wdk_of i_28 hy_41), ← i_29, ws_w (by rw [← i_42]; exact wl_y e_hh (by omega) ⟨by omega, i_54⟩)]))⟩
                          ·
                            exact absurd c_65 (by decide)
                        ·
                          have i_64 : onB (z25 k_i.toNatClampNeg) k_a.toInt = true := i_64
                          have hP := g5_same hP hk1
                          generalize H1 = H at hP hS ⊢
                          refine lv_if_eq (tgt := 167) hx hb dX11_wander_161 (by decide) (fun c_67 => ?_) (fun c_67 => ?_)
                          ·
                            exact absurd c_67 (by decide)
                          ·
                            refine lv_iinc (v := (k_n + 1)) (lv' := [(6, .int (k_n + 1)), (5, .int k_a), (8, .int z44), (3, .long (((k_d * 1103) + 12345) - ((k_d * 1103) + 12345) / 1000003 * 1000003)), (7, .int k_i), (0, .ref a_o), (1, .int p_s), (2, .int p_c)]) hx hb dX11_wander_164 hl (k := 3) rfl rfl (by decide) rfl (fun ls hl => ?_)
                            refine lv_iinc (v := (k_i + 1)) (lv' := [(7, .int (k_i + 1)), (6, .int (k_n + 1)), (5, .int k_a), (8, .int z44), (3, .long (((k_d * 1103) + 12345) - ((k_d * 1103) + 12345) / 1000003 * 1000003)), (0, .ref a_o), (1, .int p_s), (2, .int p_c)]) hx hb dX11_wander_167 hl (k := 4) rfl rfl (by decide) rfl (fun ls hl => ?_)
                            have t_68 : (k_i + 1).toInt = k_i.toInt + 1 := g5_iadd (a := k_i.toInt) (b := 1) rfl (by decide) (by omega) (by omega)
                            refine lv_goto (tgt := 68) hx hb dX11_wander_170 (by decide) ?_
                            exact ih_68_31 ((((k_d * 1103) + 12345) - ((k_d * 1103) + 12345) / 1000003 * 1000003), k_a, (k_n + 1), (k_i + 1), (upd k_wd k_i.toNatClampNeg k_a)) ls H locs (show Int.toNat (24 - (k_i + 1).toInt) < Int.toNat (24 - k_i.toInt) from g_up (show k_i.toInt < (k_i + 1).toInt by omega) (show k_i.toInt < 24 by omega)) ⟨lv_sub hl [4, 2, 1, 0, 5, 6, 7] rfl, hP, hD, hS, i_26, ⟨by omega, by omega⟩, by rw [show (k_i + 1).toInt.toNat - 1 = (k_i.toInt.toNat - 1) + 1 by omega, wdS_S, ← i_28]; rfl, by rw [show (k_i + 1).toInt.toNat - 1 = (k_i.toInt.toNat - 1) + 1 by omega]; exact (by rw [wdC_S (wdk_of i_28 hy_41), ← i_29, ws_w (by rw [← i_42]; exact wl_y e_hh (by omega) ⟨by omega, i_54⟩)]), by rw [show (k_i + 1).toInt.toNat = k_i.toInt.toNat + 1 by omega]; exact wdR_S i_30 rfl (by rw [show k_i.toInt.toNat = (k_i.toInt.toNat - 1) + 1 by omega]; exact (by rw [wdC_S (wdk_of i_28 hy_41), ← i_29, ws_w (by rw [← i_42]; exact wl_y e_hh (by omega) ⟨by omega, i_54⟩)]))⟩
            ·
              exact absurd c_10 (by decide)
          ·
            have i_9 : onB e_wa p_c.toInt = true := i_9
            have hP := g5_same hP hk1
            generalize H1 = H at hP hS ⊢
            refine lv_if_eq (tgt := 44) hx hb dX11_wander_34 (by decide) (fun c_69 => ?_) (fun c_69 => ?_)
            ·
              exact absurd c_69 (by decide)
            ·
              refine lv_aload_n hx hb dX11_wander_37 rfl (lv_at hl 0 rfl) ?_
              refine lv_bipush (v := (-3)) hx hb dX11_wander_38 (by decide) ?_
              obtain ⟨hPc, hDc, hFc⟩ := g5_sub3 (wc := [(a_o, (oc11 a_h a_im a_ke a_k a_wa a_th a_ha a_wk a_r a_x e_tl e_fd e_fpl a_wd e_wn a_rf e_lr)), (a_rf, (arI G 5 f_rf))]) hP hD hS hA [0, 1] (by decide) rfl
              refine va_calli (va_runV (As := [.int (-3)]) (rest := []) ⟨hx, hb, hml, hown, hts⟩ (x_refuse3 l G a_o a_rf a_h a_im a_ke a_k a_wa a_th a_ha a_wk a_r a_x a_wd H.size e_tl e_fd e_fpl e_wn e_lr f_rf h_e_tl h_e_wn) (cwV 1 hts gV_X11_104 rfl rfl rfl hv_X11_refuse ⟨Nat.le_of_ble_eq_true rfl, Nat.le_of_ble_eq_true rfl⟩) (g5_preV hPc hK hDc hN hT hS hFc (ci := 11) (q0 := 0) rfl rfl) rfl rfl hl.1 rfl (lv_room (Nat.le_of_ble_eq_true rfl)) dX11_wander_40 ⟨Nat.le_of_ble_eq_true rfl, Nat.le_of_ble_eq_true rfl⟩) hS (fun q _ h => hFc q h) hFc (fun r u t H1 locs ht hvm hw hB hz1 hk1 hS => ?_)
              obtain ⟨hP1, hD1⟩ := hB
              rw [ht] at hP1
              obtain ⟨z70, rfl, rfl⟩ := hw
              obtain ⟨hP, hD⟩ := va_join (wr := [(a_k, (oc5 a_h a_j a_pt e_ln e_se e_lh e_br e_we e_me e_ce e_wy e_ho e_ov)), (a_h, (oc1 e_wa e_le e_st e_fo e_lc a_l a_g a_b a_s a_p a_w e_gb a_bb)), (a_g, (oc6 6 5 a_gn e_g)), (a_gn, (arI G 30 f_g)), (a_b, (oc6 5 24 a_bn e_b)), (a_bn, (arI G 120 f_b)), (a_p, (oc6 8 5 a_pn e_p)), (a_pn, (arI G 40 f_p)), (a_bb, (arJ G 24 f_bb)), (a_j, (oc2 a_as a_sk)), (a_as, (arI G 8 f_as)), (a_sk, (arJ G 50 f_sk)), (a_l, (arW G 6 f_l)), (a_lo, (oc3 e_cl a_hd a_sr a_cd)), (a_sr, (arI G n_sr f_sr)), (a_cd, (arI G n_cd f_cd)), (a_hd, (arI G n_hd f_hd)), (a_pt, (arI G 200 f_pt)), (a_wa, (oc10 a_h a_k a_bo)), (a_bo, (arJ G 24 f_bo)), (a_wd, (arI G 24 f_wd))]) hP hD [0, 1] [2, 3, 4, 5, 6, 7, 8, 9, 10, 11, 12, 13, 14, 15, 16, 17, 18, 19, 20, 21, 22] rfl rfl (by decide) (by decide) hk1 hFc hP1 hD1
              generalize H1 = H at hP hS ⊢
              refine g5_rs [(a_k, (oc5 a_h a_j a_pt e_ln e_se e_lh e_br e_we e_me e_ce e_wy e_ho e_ov)), (a_h, (oc1 e_wa e_le e_st e_fo e_lc a_l a_g a_b a_s a_p a_w e_gb a_bb)), (a_g, (oc6 6 5 a_gn e_g)), (a_gn, (arI G 30 f_g)), (a_b, (oc6 5 24 a_bn e_b)), (a_bn, (arI G 120 f_b)), (a_p, (oc6 8 5 a_pn e_p)), (a_pn, (arI G 40 f_p)), (a_bb, (arJ G 24 f_bb)), (a_j, (oc2 a_as a_sk)), (a_as, (arI G 8 f_as)), (a_sk, (arJ G 50 f_sk)), (a_l, (arW G 6 f_l)), (a_lo, (oc3 e_cl a_hd a_sr a_cd)), (a_sr, (arI G n_sr f_sr)), (a_cd, (arI G n_cd f_cd)), (a_hd, (arI G n_hd f_hd)), (a_pt, (arI G 200 f_pt)), (a_wa, (oc10 a_h a_k a_bo)), (a_bo, (arJ G 24 f_bo)), (a_wd, (arI G 24 f_wd)), (a_o, (oc11 a_h a_im a_ke a_k a_wa a_th a_ha a_wk a_r a_x e_tl e_fd e_fpl a_wd e_wn a_rf (-3))), (a_rf, (arI G 5 z70))] hP hD (fun hP hD => ?_)
              exact W.iret (v := (-3)) hx hb hr (fun t ht hW => ⟨⟨(-3), [(a_o, (oc11 a_h a_im a_ke a_k a_wa a_th a_ha a_wk a_r a_x e_tl e_fd e_fpl a_wd e_wn a_rf (-3))), (a_rf, (arI G 5 z70)), (a_k, (oc5 a_h a_j a_pt e_ln e_se e_lh e_br e_we e_me e_ce e_wy e_ho e_ov)), (a_h, (oc1 e_wa e_le e_st e_fo e_lc a_l a_g a_b a_s a_p a_w e_gb a_bb)), (a_g, (oc6 6 5 a_gn e_g)), (a_gn, (arI G 30 f_g)), (a_b, (oc6 5 24 a_bn e_b)), (a_bn, (arI G 120 f_b)), (a_p, (oc6 8 5 a_pn e_p)), (a_pn, (arI G 40 f_p)), (a_bb, (arJ G 24 f_bb)), (a_j, (oc2 a_as a_sk)), (a_as, (arI G 8 f_as)), (a_sk, (arJ G 50 f_sk)), (a_l, (arW G 6 f_l)), (a_lo, (oc3 e_cl a_hd a_sr a_cd)), (a_sr, (arI G n_sr f_sr)), (a_cd, (arI G n_cd f_cd)), (a_hd, (arI G n_hd f_hd)), (a_pt, (arI G 200 f_pt)), (a_wa, (oc10 a_h a_k a_bo)), (a_bo, (arJ G 24 f_bo)), (a_wd, (arI G 24 f_wd))], rfl, ⟨(-3), (-3), z70, e_wn, e_ln, e_se, e_lh, e_br, e_we, e_me, e_ce, e_wy, e_ho, e_ov, f_pt, f_as, f_sk, f_bo, f_wd, h_e_ov, h_e_wn, (wand_3 (f := f_ro) (g := f_wd) (n := e_wn) (s := p_s) (c := p_c) (wl_y e_hh (by omega) ⟨by omega, i_9⟩)).1.symm, (wand_3 (f := f_ro) (g := f_wd) (n := e_wn) (s := p_s) (c := p_c) (wl_y e_hh (by omega) ⟨by omega, i_9⟩)).2.symm, rfl, rfl⟩, by rw [ht]; exact hP.sub [21, 22, 0, 1, 2, 3, 4, 5, 6, 7, 8, 9, 10, 11, 12, 13, 14, 15, 16, 17, 18, 19, 20] rfl, hD.sub [21, 22, 0, 1, 2, 3, 4, 5, 6, 7, 8, 9, 10, 11, 12, 13, 14, 15, 16, 17, 18, 19, 20] (by decide) rfl⟩, hS.F ht⟩) hS.2.2 dX11_wander_43
        ·
          exact absurd c_7 (by decide)
      ·
        have i_6 : p_c.toInt < 0 ∨ 63 < p_c.toInt := i_6
        have hP := g5_same hP hk1
        generalize H1 = H at hP hS ⊢
        refine lv_if_ne (tgt := 23) hx hb dX11_wander_14 (by decide) (fun c_71 => ?_) (fun c_71 => ?_)
        ·
          exact absurd c_71 (by decide)
        ·
          refine lv_aload_n hx hb dX11_wander_17 rfl (lv_at hl 0 rfl) ?_
          refine lv_iconst (v := (-1)) hx hb dX11_wander_18 (by decide) ?_
          obtain ⟨hPc, hDc, hFc⟩ := g5_sub3 (wc := [(a_o, (oc11 a_h a_im a_ke a_k a_wa a_th a_ha a_wk a_r a_x e_tl e_fd e_fpl a_wd e_wn a_rf e_lr)), (a_rf, (arI G 5 f_rf))]) hP hD hS hA [0, 1] (by decide) rfl
          refine va_calli (va_runV (As := [.int (-1)]) (rest := []) ⟨hx, hb, hml, hown, hts⟩ (x_refuse1 l G a_o a_rf a_h a_im a_ke a_k a_wa a_th a_ha a_wk a_r a_x a_wd H.size e_tl e_fd e_fpl e_wn e_lr f_rf h_e_tl h_e_wn) (cwV 1 hts gV_X11_104 rfl rfl rfl hv_X11_refuse ⟨Nat.le_of_ble_eq_true rfl, Nat.le_of_ble_eq_true rfl⟩) (g5_preV hPc hK hDc hN hT hS hFc (ci := 11) (q0 := 0) rfl rfl) rfl rfl hl.1 rfl (lv_room (Nat.le_of_ble_eq_true rfl)) dX11_wander_19 ⟨Nat.le_of_ble_eq_true rfl, Nat.le_of_ble_eq_true rfl⟩) hS (fun q _ h => hFc q h) hFc (fun r u t H1 locs ht hvm hw hB hz1 hk1 hS => ?_)
          obtain ⟨hP1, hD1⟩ := hB
          rw [ht] at hP1
          obtain ⟨z72, rfl, rfl⟩ := hw
          obtain ⟨hP, hD⟩ := va_join (wr := [(a_k, (oc5 a_h a_j a_pt e_ln e_se e_lh e_br e_we e_me e_ce e_wy e_ho e_ov)), (a_h, (oc1 e_wa e_le e_st e_fo e_lc a_l a_g a_b a_s a_p a_w e_gb a_bb)), (a_g, (oc6 6 5 a_gn e_g)), (a_gn, (arI G 30 f_g)), (a_b, (oc6 5 24 a_bn e_b)), (a_bn, (arI G 120 f_b)), (a_p, (oc6 8 5 a_pn e_p)), (a_pn, (arI G 40 f_p)), (a_bb, (arJ G 24 f_bb)), (a_j, (oc2 a_as a_sk)), (a_as, (arI G 8 f_as)), (a_sk, (arJ G 50 f_sk)), (a_l, (arW G 6 f_l)), (a_lo, (oc3 e_cl a_hd a_sr a_cd)), (a_sr, (arI G n_sr f_sr)), (a_cd, (arI G n_cd f_cd)), (a_hd, (arI G n_hd f_hd)), (a_pt, (arI G 200 f_pt)), (a_wa, (oc10 a_h a_k a_bo)), (a_bo, (arJ G 24 f_bo)), (a_wd, (arI G 24 f_wd))]) hP hD [0, 1] [2, 3, 4, 5, 6, 7, 8, 9, 10, 11, 12, 13, 14, 15, 16, 17, 18, 19, 20, 21, 22] rfl rfl (by decide) (by decide) hk1 hFc hP1 hD1
          generalize H1 = H at hP hS ⊢
          refine g5_rs [(a_k, (oc5 a_h a_j a_pt e_ln e_se e_lh e_br e_we e_me e_ce e_wy e_ho e_ov)), (a_h, (oc1 e_wa e_le e_st e_fo e_lc a_l a_g a_b a_s a_p a_w e_gb a_bb)), (a_g, (oc6 6 5 a_gn e_g)), (a_gn, (arI G 30 f_g)), (a_b, (oc6 5 24 a_bn e_b)), (a_bn, (arI G 120 f_b)), (a_p, (oc6 8 5 a_pn e_p)), (a_pn, (arI G 40 f_p)), (a_bb, (arJ G 24 f_bb)), (a_j, (oc2 a_as a_sk)), (a_as, (arI G 8 f_as)), (a_sk, (arJ G 50 f_sk)), (a_l, (arW G 6 f_l)), (a_lo, (oc3 e_cl a_hd a_sr a_cd)), (a_sr, (arI G n_sr f_sr)), (a_cd, (arI G n_cd f_cd)), (a_hd, (arI G n_hd f_hd)), (a_pt, (arI G 200 f_pt)), (a_wa, (oc10 a_h a_k a_bo)), (a_bo, (arJ G 24 f_bo)), (a_wd, (arI G 24 f_wd)), (a_o, (oc11 a_h a_im a_ke a_k a_wa a_th a_ha a_wk a_r a_x e_tl e_fd e_fpl a_wd e_wn a_rf (-1))), (a_rf, (arI G 5 z72))] hP hD (fun hP hD => ?_)
          exact W.iret (v := (-1)) hx hb hr (fun t ht hW => ⟨⟨(-1), [(a_o, (oc11 a_h a_im a_ke a_k a_wa a_th a_ha a_wk a_r a_x e_tl e_fd e_fpl a_wd e_wn a_rf (-1))), (a_rf, (arI G 5 z72)), (a_k, (oc5 a_h a_j a_pt e_ln e_se e_lh e_br e_we e_me e_ce e_wy e_ho e_ov)), (a_h, (oc1 e_wa e_le e_st e_fo e_lc a_l a_g a_b a_s a_p a_w e_gb a_bb)), (a_g, (oc6 6 5 a_gn e_g)), (a_gn, (arI G 30 f_g)), (a_b, (oc6 5 24 a_bn e_b)), (a_bn, (arI G 120 f_b)), (a_p, (oc6 8 5 a_pn e_p)), (a_pn, (arI G 40 f_p)), (a_bb, (arJ G 24 f_bb)), (a_j, (oc2 a_as a_sk)), (a_as, (arI G 8 f_as)), (a_sk, (arJ G 50 f_sk)), (a_l, (arW G 6 f_l)), (a_lo, (oc3 e_cl a_hd a_sr a_cd)), (a_sr, (arI G n_sr f_sr)), (a_cd, (arI G n_cd f_cd)), (a_hd, (arI G n_hd f_hd)), (a_pt, (arI G 200 f_pt)), (a_wa, (oc10 a_h a_k a_bo)), (a_bo, (arJ G 24 f_bo)), (a_wd, (arI G 24 f_wd))], rfl, ⟨(-1), (-1), z72, e_wn, e_ln, e_se, e_lh, e_br, e_we, e_me, e_ce, e_wy, e_ho, e_ov, f_pt, f_as, f_sk, f_bo, f_wd, h_e_ov, h_e_wn, (wand_1 (f := f_ro) (g := f_wd) (n := e_wn) (s := p_s) (c := p_c) (fun q => by unfold okD at q; omega)).1.symm, (wand_1 (f := f_ro) (g := f_wd) (n := e_wn) (s := p_s) (c := p_c) (fun q => by unfold okD at q; omega)).2.symm, rfl, rfl⟩, by rw [ht]; exact hP.sub [21, 22, 0, 1, 2, 3, 4, 5, 6, 7, 8, 9, 10, 11, 12, 13, 14, 15, 16, 17, 18, 19, 20] rfl, hD.sub [21, 22, 0, 1, 2, 3, 4, 5, 6, 7, 8, 9, 10, 11, 12, 13, 14, 15, 16, 17, 18, 19, 20] (by decide) rfl⟩, hS.F ht⟩) hS.2.2 dX11_wander_22
set_option maxHeartbeats 4000000 in
set_option maxRecDepth 100000 in
theorem x_drawnX (l : Launch) (G : g5_G) (a_o a_wd a_h a_im a_ke a_k a_wa a_th a_ha a_wk a_r a_x a_rf : Nat) (sz : Nat) (e_tl : Int32) (e_fd : Int32) (e_fpl : Int32) (e_wn : Int32) (e_lr : Int32) (p_h : Int32) (f_wd : Nat → Int32) (h_e_tl : 0 ≤ e_tl.toInt ∧ e_tl.toInt ≤ 400) (h_e_wn : 0 ≤ e_wn.toInt ∧ e_wn.toInt ≤ 1) : Met l yX11_drawn (wsG yX11_drawn cX11_drawn 2 (some .int)) ({ frames := 1, cells := 0, slots := 0, locals := 20 }) (va_Pc [.ref a_o, .int p_h] (g5_P G [(a_o, (oc11 a_h a_im a_ke a_k a_wa a_th a_ha a_wk a_r a_x e_tl e_fd e_fpl a_wd e_wn a_rf e_lr)), (a_wd, (arI G 24 f_wd))] sz)) (va_Qi (fun (r : Int32) (u : va_W) => (∃ (o_r : Int32), (o_r = adrawn f_wd e_wn p_h) ∧ (r = o_r) ∧ (u = [(a_o, (oc11 a_h a_im a_ke a_k a_wa a_th a_ha a_wk a_r a_x e_tl e_fd e_fpl a_wd e_wn a_rf e_lr)), (a_wd, (arI G 24 f_wd))]))) (g5_B G (va_A [(a_o, (oc11 a_h a_im a_ke a_k a_wa a_th a_ha a_wk a_r a_x e_tl e_fd e_fpl a_wd e_wn a_rf e_lr)), (a_wd, (arI G 24 f_wd))] sz)) (va_A [(a_o, (oc11 a_h a_im a_ke a_k a_wa a_th a_ha a_wk a_r a_x e_tl e_fd e_fpl a_wd e_wn a_rf e_lr)), (a_wd, (arI G 24 f_wd))] sz)) 0 0 (va_A [(a_o, (oc11 a_h a_im a_ke a_k a_wa a_th a_ha a_wk a_r a_x e_tl e_fd e_fpl a_wd e_wn a_rf e_lr)), (a_wd, (arI G 24 f_wd))] sz) := by
  refine Met.ofW (cc := cX11_drawn) (maxL := 2) (ret := (some .int)) (by decide) rfl ?_
  intro p e s m args below meth c s₁ B hml hv
  obtain ⟨rfl, hsz, hP, hK, hD0, hN, hT⟩ := hv
  have hx := B.exec
  have hb := B.bytes
  have hr := B.returns
  have hts : ∀ w ∈ tblG, w.before _ s = true := fun w h => atoms_spec (ws := (wsG yX11_drawn cX11_drawn 2 (some .int))) B.pre w (List.mem_cons_of_mem _ h)
  have hown : s.vm.findClass RX11 = some m.cls := findClass_of_methodNamed B.named
  have hlocks := B.notSynchronized
  subst hsz
  have hD := hD0.self (sz := s.heap.size)
  generalize hAe : va_A [(a_o, (oc11 a_h a_im a_ke a_k a_wa a_th a_ha a_wk a_r a_x e_tl e_fd e_fpl a_wd e_wn a_rf e_lr)), (a_wd, (arI G 24 f_wd))] s.heap.size = A at hD hT ⊢
  have hA : ∀ q : Nat, s.heap.size ≤ q → A q := fun q h => by rw [← hAe]; exact Or.inr h
  have hS : va_S A s.heap s.heap [] := va_S.rf
  have hP : va_P G.1 vwCl [(a_o, (oc11 a_h a_im a_ke a_k a_wa a_th a_ha a_wk a_r a_x e_tl e_fd e_fpl a_wd e_wn a_rf e_lr)), (a_wd, (arI G 24 f_wd))] s.heap := hP
  have hl := lv_entry ([.ref a_o, .int p_h]) (n := 2) (Nat.le_of_ble_eq_true rfl)
  rw [lg_entry_eq]
  generalize (lg_sl ([.ref a_o, .int p_h]) ++ List.replicate (2 - (lg_sl ([.ref a_o, .int p_h])).length) Slot.unset).toArray = ls at hl ⊢
  have hl : lv_has ls 2 [(0, .ref a_o), (1, .int p_h)] := hl
  refine lv_aload_n hx hb dX11_drawn_0 rfl (lv_at hl 0 rfl) ?_
  refine va_get (D := G.1) (ci := 11) (v := .int e_wn) (C := RX11) (T := TX11) (N := 17) hx hb hts inG_X11 hown hK hP 0 rfl rfl 14 (by decide) (hts _ fl_X11_87) (fun _ h9 => h9) rfl dX11_drawn_1 ?_
  refine lv_if_eq (tgt := 23) hx hb dX11_drawn_4 (by decide) (fun c_1 => ?_) (fun c_1 => ?_)
  ·
    have i_1 : e_wn.toInt = 0 := by have z := g5_eq (a := e_wn.toInt) (b := 0) (by rfl) (by decide) c_1; omega
    refine lv_iconst (v := (-1)) hx hb dX11_drawn_23 (by decide) ?_
    exact W.iret (v := (-1)) hx hb hr (fun t ht hW => ⟨⟨(-1), [(a_o, (oc11 a_h a_im a_ke a_k a_wa a_th a_ha a_wk a_r a_x e_tl e_fd e_fpl a_wd e_wn a_rf e_lr)), (a_wd, (arI G 24 f_wd))], rfl, ⟨(-1), (cif_f (fun q => by have q1 := q.1; have q2 := q.2; omega)).symm, rfl, rfl⟩, by rw [ht]; exact hP.sub [0, 1] rfl, hD.sub [0, 1] (by decide) rfl⟩, hS.F ht⟩) hS.2.2 dX11_drawn_24
  ·
    have n_1 : gNe (e_wn.toInt) (0) := by have z := g5_eqN (a := e_wn.toInt) (b := 0) (by rfl) (by decide) c_1; unfold gNe; omega
    have i_1 : e_wn.toInt ≥ 1 := by have z := g5_eqN (a := e_wn.toInt) (b := 0) (by rfl) (by decide) c_1; omega
    refine lv_iload_n hx hb dX11_drawn_7 rfl (lv_at hl 1 rfl) ?_
    obtain ⟨hPc, hDc, hFc⟩ := g5_sub3 (wc := []) hP hD hS hA [] (by decide) rfl
    refine va_calli (va_runS (As := [.int p_h]) (rest := []) ⟨hx, hb, hml, hown, hts⟩ (x_isHourX l G s.heap.size p_h) (va_cwS 1 hts gS_X11_127 rfl rfl rfl hs_X11_isHour ⟨Nat.le_of_ble_eq_true rfl, Nat.le_of_ble_eq_true rfl⟩) (g5_preS hPc hK hDc hN hT hS hFc) rfl rfl hl.1 rfl (lv_room (Nat.le_of_ble_eq_true rfl)) dX11_drawn_8 ⟨Nat.le_of_ble_eq_true rfl, Nat.le_of_ble_eq_true rfl⟩) hS (fun q _ h => hFc q h) hFc (fun r u t H1 locs ht hvm hw hB hz1 hk1 hS => ?_)
    obtain ⟨hP1, hD1⟩ := hB
    rw [ht] at hP1
    rcases hw with ⟨i_2, rfl, rfl⟩ | ⟨i_3, rfl, rfl⟩
    ·
      have i_2 : 0 ≤ p_h.toInt ∧ p_h.toInt ≤ 23 := i_2
      have hP := g5_same hP hk1
      generalize H1 = H at hP hS ⊢
      refine lv_if_eq (tgt := 23) hx hb dX11_drawn_11 (by decide) (fun c_4 => ?_) (fun c_4 => ?_)
      ·
        exact absurd c_4 (by decide)
      ·
        refine lv_aload_n hx hb dX11_drawn_14 rfl (lv_at hl 0 rfl) ?_
        refine va_get (D := G.1) (ci := 11) (v := .ref a_wd) (C := RX11) (T := TX11) (N := 17) hx hb hts inG_X11 hown hK hP 0 rfl rfl 13 (by decide) (hts _ fl_X11_84) (fun _ h9 => h9) rfl dX11_drawn_15 ?_
        refine lv_iload_n hx hb dX11_drawn_18 rfl (lv_at hl 1 rfl) ?_
        refine va_iald hx hb hK hP 1 0 rfl rfl (i := p_h) (vp_in_iff.mpr ⟨by omega, by omega⟩) dX11_drawn_19 ?_
        refine lv_goto (tgt := 24) hx hb dX11_drawn_20 (by decide) ?_
        exact W.iret (v := (f_wd p_h.toNatClampNeg)) hx hb hr (fun t ht hW => ⟨⟨(f_wd p_h.toNatClampNeg), [(a_o, (oc11 a_h a_im a_ke a_k a_wa a_th a_ha a_wk a_r a_x e_tl e_fd e_fpl a_wd e_wn a_rf e_lr)), (a_wd, (arI G 24 f_wd))], rfl, ⟨(f_wd p_h.toNatClampNeg), (cif_t ⟨by omega, by omega, by omega⟩).symm, rfl, rfl⟩, by rw [ht]; exact hP.sub [0, 1] rfl, hD.sub [0, 1] (by decide) rfl⟩, hS.F ht⟩) hS.2.2 dX11_drawn_24
    ·
      have i_3 : p_h.toInt < 0 ∨ 23 < p_h.toInt := i_3
      have hP := g5_same hP hk1
      generalize H1 = H at hP hS ⊢
      refine lv_if_eq (tgt := 23) hx hb dX11_drawn_11 (by decide) (fun c_5 => ?_) (fun c_5 => ?_)
      ·
        refine lv_iconst (v := (-1)) hx hb dX11_drawn_23 (by decide) ?_
        exact W.iret (v := (-1)) hx hb hr (fun t ht hW => ⟨⟨(-1), [(a_o, (oc11 a_h a_im a_ke a_k a_wa a_th a_ha a_wk a_r a_x e_tl e_fd e_fpl a_wd e_wn a_rf e_lr)), (a_wd, (arI G 24 f_wd))], rfl, ⟨(-1), (cif_f (fun q => by have q1 := q.1; have q2 := q.2; omega)).symm, rfl, rfl⟩, by rw [ht]; exact hP.sub [0, 1] rfl, hD.sub [0, 1] (by decide) rfl⟩, hS.F ht⟩) hS.2.2 dX11_drawn_24
      ·
        exact absurd c_5 (by decide)
set_option maxHeartbeats 4000000 in
set_option maxRecDepth 100000 in
theorem n_besideE (l : Launch) (G : g5_G) (sz : Nat) (p_0 : Int32) (p_1 : Int32) (h_p_0 : 0 ≤ p_0.toInt ∧ p_0.toInt ≤ 63) (h_p_1 : 0 ≤ p_1.toInt ∧ p_1.toInt ≤ 3) : Met l yX12_beside (wsG yX12_beside cX12_beside 2 (some .int)) ({ frames := 0, cells := 0, slots := 0, locals := 0 }) (va_Pc [.int p_0, .int p_1] (g5_P G [] sz)) (va_Qi (fun (r : Int32) (u : va_W) => (∃ (o_r : Int32), (o_r.toInt = bs p_0.toInt p_1.toInt) ∧ (-1 ≤ o_r.toInt ∧ o_r.toInt ≤ 63) ∧ (r = o_r) ∧ (u = []))) (g5_B G (va_A [] sz)) (va_A [] sz)) 0 0 (va_A [] sz) := by
  refine Met.ofW (cc := cX12_beside) (maxL := 2) (ret := (some .int)) (by decide) rfl ?_
  intro p e s m args below meth c s₁ B hml hv
  obtain ⟨rfl, hsz, hP, hK, hD0, hN, hT⟩ := hv
  have hx := B.exec
  have hb := B.bytes
  have hr := B.returns
  have hts : ∀ w ∈ tblG, w.before _ s = true := fun w h => atoms_spec (ws := (wsG yX12_beside cX12_beside 2 (some .int))) B.pre w (List.mem_cons_of_mem _ h)
  have hown : s.vm.findClass RX12 = some m.cls := findClass_of_methodNamed B.named
  have hlocks := B.notSynchronized
  subst hsz
  have hD := hD0.self (sz := s.heap.size)
  generalize hAe : va_A [] s.heap.size = A at hD hT ⊢
  have hA : ∀ q : Nat, s.heap.size ≤ q → A q := fun q h => by rw [← hAe]; exact Or.inr h
  have hS : va_S A s.heap s.heap [] := va_S.rf
  have hP : va_P G.1 vwCl [] s.heap := hP
  have hl := lv_entry ([.int p_0, .int p_1]) (n := 2) (Nat.le_of_ble_eq_true rfl)
  rw [lg_entry_eq]
  generalize (lg_sl ([.int p_0, .int p_1]) ++ List.replicate (2 - (lg_sl ([.int p_0, .int p_1])).length) Slot.unset).toArray = ls at hl ⊢
  have hl : lv_has ls 2 [(0, .int p_0), (1, .int p_1)] := hl
  refine lv_iload_n hx hb dX12_beside_0 rfl (lv_at hl 1 rfl) ?_
  rcases (show p_1.toInt = 0 ∨ p_1.toInt = 1 ∨ p_1.toInt = 2 ∨ p_1.toInt > 2 by omega) with s_1 | s_1 | s_1 | s_1
  ·
    have i_1 : p_1.toInt = 0 := by omega
    refine lv_tableIn (tgt := 28) hx hb dX12_beside_1 (by omega) (by omega) (by rw [s_1]; rfl) (by decide) ?_
    refine lv_iload_n hx hb dX12_beside_28 rfl (lv_at hl 0 rfl) ?_
    refine lv_bipush (v := 8) hx hb dX12_beside_29 (by decide) ?_
    refine lv_icmp_lt (tgt := 41) hx hb dX12_beside_31 (by decide) (fun c_2 => ?_) (fun c_2 => ?_)
    ·
      have i_2 : p_0.toInt < 8 := by have z := g5_lt (a := p_0.toInt) (b := 8) (by rfl) (by decide) c_2; omega
      refine lv_iconst (v := (-1)) hx hb dX12_beside_41 (by decide) ?_
      exact W.iret (v := (-1)) hx hb hr (fun t ht hW => ⟨⟨(-1), [], rfl, ⟨(-1), by have zc_o_r : ((-1) : Int32).toInt = (-1) := (by decide); unfold bs; omega, ⟨by have zc_o_r : ((-1) : Int32).toInt = (-1) := (by decide); omega, by have zc_o_r : ((-1) : Int32).toInt = (-1) := (by decide); omega⟩, rfl, rfl⟩, by rw [ht]; exact hP.sub [] rfl, hD.sub [] (by decide) rfl⟩, hS.F ht⟩) hS.2.2 dX12_beside_42
    ·
      have i_2 : p_0.toInt ≥ 8 := by have z := g5_ltN (a := p_0.toInt) (b := 8) (by rfl) (by decide) c_2; omega
      refine lv_iload_n hx hb dX12_beside_34 rfl (lv_at hl 0 rfl) ?_
      refine lv_bipush (v := 8) hx hb dX12_beside_35 (by decide) ?_
      refine lv_isub hx hb dX12_beside_37 ?_
      have t_3 : (p_0 - 8).toInt = p_0.toInt - 8 := g5_isub (a := p_0.toInt) (b := 8) (by rfl) (by decide) (by omega) (by omega)
      refine lv_goto (tgt := 42) hx hb dX12_beside_38 (by decide) ?_
      exact W.iret (v := (p_0 - 8)) hx hb hr (fun t ht hW => ⟨⟨(p_0 - 8), [], rfl, ⟨(p_0 - 8), by unfold bs; omega, ⟨by omega, by omega⟩, rfl, rfl⟩, by rw [ht]; exact hP.sub [] rfl, hD.sub [] (by decide) rfl⟩, hS.F ht⟩) hS.2.2 dX12_beside_42
  ·
    have i_1 : p_1.toInt = 1 := by omega
    refine lv_tableIn (tgt := 43) hx hb dX12_beside_1 (by omega) (by omega) (by rw [s_1]; rfl) (by decide) ?_
    refine lv_iload_n hx hb dX12_beside_43 rfl (lv_at hl 0 rfl) ?_
    refine lv_bipush (v := 8) hx hb dX12_beside_44 (by decide) ?_
    refine lv_irem hx hb dX12_beside_46 (by decide) ?_
    have t_4 : (p_0 - p_0 / 8 * 8).toInt = p_0.toInt % 8 := g5_irem (a := p_0.toInt) (b := 8) rfl (by decide) (by omega) (by decide)
    refine lv_bipush (v := 7) hx hb dX12_beside_47 (by decide) ?_
    refine lv_icmp_ge (tgt := 58) hx hb dX12_beside_49 (by decide) (fun c_5 => ?_) (fun c_5 => ?_)
    ·
      have i_5 : (p_0.toInt % 8) ≥ 7 := by have z := g5_ge (a := (p_0 - p_0 / 8 * 8).toInt) (b := 7) (by rfl) (by decide) c_5; omega
      refine lv_iconst (v := (-1)) hx hb dX12_beside_58 (by decide) ?_
      exact W.iret (v := (-1)) hx hb hr (fun t ht hW => ⟨⟨(-1), [], rfl, ⟨(-1), by have zc_o_r : ((-1) : Int32).toInt = (-1) := (by decide); unfold bs; omega, ⟨by have zc_o_r : ((-1) : Int32).toInt = (-1) := (by decide); omega, by have zc_o_r : ((-1) : Int32).toInt = (-1) := (by decide); omega⟩, rfl, rfl⟩, by rw [ht]; exact hP.sub [] rfl, hD.sub [] (by decide) rfl⟩, hS.F ht⟩) hS.2.2 dX12_beside_59
    ·
      have i_5 : (p_0.toInt % 8) < 7 := by have z := g5_geN (a := (p_0 - p_0 / 8 * 8).toInt) (b := 7) (by rfl) (by decide) c_5; omega
      refine lv_iload_n hx hb dX12_beside_52 rfl (lv_at hl 0 rfl) ?_
      refine lv_iconst (v := 1) hx hb dX12_beside_53 (by decide) ?_
      refine lv_iadd hx hb dX12_beside_54 ?_
      have t_6 : (p_0 + 1).toInt = p_0.toInt + 1 := g5_iadd (a := p_0.toInt) (b := 1) (by rfl) (by decide) (by omega) (by omega)
      refine lv_goto (tgt := 59) hx hb dX12_beside_55 (by decide) ?_
      exact W.iret (v := (p_0 + 1)) hx hb hr (fun t ht hW => ⟨⟨(p_0 + 1), [], rfl, ⟨(p_0 + 1), by unfold bs; omega, ⟨by omega, by omega⟩, rfl, rfl⟩, by rw [ht]; exact hP.sub [] rfl, hD.sub [] (by decide) rfl⟩, hS.F ht⟩) hS.2.2 dX12_beside_59
  ·
    have i_1 : p_1.toInt = 2 := by omega
    refine lv_tableIn (tgt := 60) hx hb dX12_beside_1 (by omega) (by omega) (by rw [s_1]; rfl) (by decide) ?_
    refine lv_iload_n hx hb dX12_beside_60 rfl (lv_at hl 0 rfl) ?_
    refine lv_bipush (v := 56) hx hb dX12_beside_61 (by decide) ?_
    refine lv_icmp_ge (tgt := 73) hx hb dX12_beside_63 (by decide) (fun c_7 => ?_) (fun c_7 => ?_)
    ·
      have i_7 : p_0.toInt ≥ 56 := by have z := g5_ge (a := p_0.toInt) (b := 56) (by rfl) (by decide) c_7; omega
      refine lv_iconst (v := (-1)) hx hb dX12_beside_73 (by decide) ?_
      exact W.iret (v := (-1)) hx hb hr (fun t ht hW => ⟨⟨(-1), [], rfl, ⟨(-1), by have zc_o_r : ((-1) : Int32).toInt = (-1) := (by decide); unfold bs; omega, ⟨by have zc_o_r : ((-1) : Int32).toInt = (-1) := (by decide); omega, by have zc_o_r : ((-1) : Int32).toInt = (-1) := (by decide); omega⟩, rfl, rfl⟩, by rw [ht]; exact hP.sub [] rfl, hD.sub [] (by decide) rfl⟩, hS.F ht⟩) hS.2.2 dX12_beside_74
    ·
      have i_7 : p_0.toInt < 56 := by have z := g5_geN (a := p_0.toInt) (b := 56) (by rfl) (by decide) c_7; omega
      refine lv_iload_n hx hb dX12_beside_66 rfl (lv_at hl 0 rfl) ?_
      refine lv_bipush (v := 8) hx hb dX12_beside_67 (by decide) ?_
      refine lv_iadd hx hb dX12_beside_69 ?_
      have t_8 : (p_0 + 8).toInt = p_0.toInt + 8 := g5_iadd (a := p_0.toInt) (b := 8) (by rfl) (by decide) (by omega) (by omega)
      refine lv_goto (tgt := 74) hx hb dX12_beside_70 (by decide) ?_
      exact W.iret (v := (p_0 + 8)) hx hb hr (fun t ht hW => ⟨⟨(p_0 + 8), [], rfl, ⟨(p_0 + 8), by unfold bs; omega, ⟨by omega, by omega⟩, rfl, rfl⟩, by rw [ht]; exact hP.sub [] rfl, hD.sub [] (by decide) rfl⟩, hS.F ht⟩) hS.2.2 dX12_beside_74
  ·
    have i_1 : p_1.toInt > 2 := by omega
    refine lv_tableOut (tgt := 75) hx hb dX12_beside_1 (by omega) (by decide) ?_
    refine lv_iload_n hx hb dX12_beside_75 rfl (lv_at hl 0 rfl) ?_
    refine lv_bipush (v := 8) hx hb dX12_beside_76 (by decide) ?_
    refine lv_irem hx hb dX12_beside_78 (by decide) ?_
    have t_9 : (p_0 - p_0 / 8 * 8).toInt = p_0.toInt % 8 := g5_irem (a := p_0.toInt) (b := 8) rfl (by decide) (by omega) (by decide)
    refine lv_if_le (tgt := 88) hx hb dX12_beside_79 (by decide) (fun c_10 => ?_) (fun c_10 => ?_)
    ·
      have i_10 : (p_0.toInt % 8) ≤ 0 := by have z := g5_le (a := (p_0 - p_0 / 8 * 8).toInt) (b := 0) (by rfl) (by decide) c_10; omega
      refine lv_iconst (v := (-1)) hx hb dX12_beside_88 (by decide) ?_
      exact W.iret (v := (-1)) hx hb hr (fun t ht hW => ⟨⟨(-1), [], rfl, ⟨(-1), by have zc_o_r : ((-1) : Int32).toInt = (-1) := (by decide); unfold bs; omega, ⟨by have zc_o_r : ((-1) : Int32).toInt = (-1) := (by decide); omega, by have zc_o_r : ((-1) : Int32).toInt = (-1) := (by decide); omega⟩, rfl, rfl⟩, by rw [ht]; exact hP.sub [] rfl, hD.sub [] (by decide) rfl⟩, hS.F ht⟩) hS.2.2 dX12_beside_89
    ·
      have i_10 : (p_0.toInt % 8) > 0 := by have z := g5_leN (a := (p_0 - p_0 / 8 * 8).toInt) (b := 0) (by rfl) (by decide) c_10; omega
      refine lv_iload_n hx hb dX12_beside_82 rfl (lv_at hl 0 rfl) ?_
      refine lv_iconst (v := 1) hx hb dX12_beside_83 (by decide) ?_
      refine lv_isub hx hb dX12_beside_84 ?_
      have t_11 : (p_0 - 1).toInt = p_0.toInt - 1 := g5_isub (a := p_0.toInt) (b := 1) (by rfl) (by decide) (by omega) (by omega)
      refine lv_goto (tgt := 89) hx hb dX12_beside_85 (by decide) ?_
      exact W.iret (v := (p_0 - 1)) hx hb hr (fun t ht hW => ⟨⟨(p_0 - 1), [], rfl, ⟨(p_0 - 1), by unfold bs; omega, ⟨by omega, by omega⟩, rfl, rfl⟩, by rw [ht]; exact hP.sub [] rfl, hD.sub [] (by decide) rfl⟩, hS.F ht⟩) hS.2.2 dX12_beside_89
set_option maxHeartbeats 4000000 in
set_option maxRecDepth 100000 in
theorem n_wanderE (l : Launch) (G : g5_G) (b_o b_rf b_ro b_se b_re b_pt b_ip b_wn b_im b_ke b_tp b_nl b_op b_ar b_pi b_pa b_ws b_hw b_ah b_be b_me b_tr b_ld : Nat) (sz : Nat) (u_th : Int32) (u_sa : Int32) (u_fd : Int32) (u_td : Int32) (u_fr : Int32) (u_to : Int32) (u_so : Int32) (u_fa : Int32) (u_bd : Int32) (u_nc : Int32) (u_co : Int32) (u_le : Int32) (u_pd : Int32) (u_od : Int32) (u_la : Int32) (u_bk : Int32) (u_ce : Int32) (u_ho : Int32) (u_wy : Int32) (u_bt : Int32) (u_ps : Int32) (u_tg : Int32) (u_sn : Int32) (u_ic : Int32) (u_wd : Int32) (u_id : Int32) (p_1 : Int32) (p_2 : Int32) (u_wo : Int64) (u_va : Int64) (u_su : Int64) (u_st : Int64) (v_rf : Nat → Int32) (v_ro : Nat → Int32) (v_se : Nat → Int64) (v_re : Nat → Int64) (v_pt : Nat → Int32) (v_ip : Nat → Int32) (v_wn : Nat → Int32) (h_u_td : 0 ≤ u_td.toInt ∧ u_td.toInt ≤ 400) (h_u_fr : 0 ≤ u_fr.toInt ∧ u_fr.toInt ≤ 400) (h_u_to : 0 ≤ u_to.toInt ∧ u_to.toInt ≤ 400) (h_u_bd : 0 ≤ u_bd.toInt ∧ u_bd.toInt ≤ 1) (h_u_nc : 0 ≤ u_nc.toInt ∧ u_nc.toInt ≤ 12) (h_u_co : 0 ≤ u_co.toInt ∧ u_co.toInt ≤ 400) (h_u_pd : 0 ≤ u_pd.toInt ∧ u_pd.toInt ≤ 400) (h_u_la : 0 ≤ u_la.toInt ∧ u_la.toInt ≤ 4840) (h_u_bk : 0 ≤ u_bk.toInt ∧ u_bk.toInt ≤ 1) (h_u_ce : 0 ≤ u_ce.toInt ∧ u_ce.toInt ≤ 63) (h_u_ho : 0 ≤ u_ho.toInt ∧ u_ho.toInt ≤ 23) (h_u_wy : 0 ≤ u_wy.toInt ∧ u_wy.toInt ≤ 3) (h_u_bt : 0 ≤ u_bt.toInt ∧ u_bt.toInt ≤ 1000000) (h_u_ps : 0 ≤ u_ps.toInt ∧ u_ps.toInt ≤ 200) (h_u_ic : 0 ≤ u_ic.toInt ∧ u_ic.toInt ≤ 1) (h_u_id : 0 ≤ u_id.toInt ∧ u_id.toInt ≤ 1) (r_ro : MI v_ro) (r_pt : PTI v_pt) (r_wn : WNI v_wn) : Met l yX12_wander (wsG yX12_wander cX12_wander 7 (some .int)) ({ frames := 9, cells := 0, slots := 0, locals := 222 }) (va_Pc [.ref b_o, .int p_1, .int p_2] (g5_P G [(b_o, (oc12 u_th u_sa b_rf b_ro b_im b_ke u_fd b_tp u_td u_fr u_to u_so u_wo u_fa u_bd u_nc b_nl u_co b_op b_ar u_le b_pi b_pa u_pd u_od b_ws b_hw u_la b_se b_re u_bk u_va u_su u_ce u_ho u_wy u_bt u_ps b_pt u_tg u_sn b_ip u_ic b_ah b_be b_me u_wd b_tr b_ld u_st b_wn u_id)), (b_rf, (arI G 7 v_rf)), (b_ro, (arI G 5740 v_ro)), (b_se, (arJ G 13 v_se)), (b_re, (arJ G 400 v_re)), (b_pt, (arI G 200 v_pt)), (b_ip, (arZ G 1536 v_ip)), (b_wn, (arI G 24 v_wn))] sz)) (va_Qi (fun (r : Int32) (u : va_W) => (∃ (o_r : Int32) (o_th : Int32) (o_sa : Int32) (o_la : Int32) (o_bk : Int32) (o_va : Int64) (o_su : Int64) (o_ce : Int32) (o_ho : Int32) (o_wy : Int32) (o_bt : Int32) (o_ps : Int32) (o_tg : Int32) (o_sn : Int32) (o_ic : Int32) (o_st : Int64) (o_id : Int32) (o_rf : Nat → Int32) (o_se : Nat → Int64) (o_re : Nat → Int64) (o_pt : Nat → Int32) (o_ip : Nat → Int32) (o_wn : Nat → Int32), (0 ≤ o_la.toInt ∧ o_la.toInt ≤ 4840) ∧ (0 ≤ o_bk.toInt ∧ o_bk.toInt ≤ 1) ∧ (0 ≤ o_ce.toInt ∧ o_ce.toInt ≤ 63) ∧ (0 ≤ o_ho.toInt ∧ o_ho.toInt ≤ 23) ∧ (0 ≤ o_wy.toInt ∧ o_wy.toInt ≤ 3) ∧ (0 ≤ o_bt.toInt ∧ o_bt.toInt ≤ 1000000) ∧ (0 ≤ o_ps.toInt ∧ o_ps.toInt ≤ 200) ∧ (PTI o_pt) ∧ (0 ≤ o_ic.toInt ∧ o_ic.toInt ≤ 1) ∧ (WNI o_wn) ∧ (0 ≤ o_id.toInt ∧ o_id.toInt ≤ 1) ∧ (o_wn = swand v_ro v_wn p_1 p_2) ∧ (o_id = swanf v_ro u_id p_1 p_2) ∧ (r = o_r) ∧ (u = [(b_o, (oc12 o_th o_sa b_rf b_ro b_im b_ke u_fd b_tp u_td u_fr u_to u_so u_wo u_fa u_bd u_nc b_nl u_co b_op b_ar u_le b_pi b_pa u_pd u_od b_ws b_hw o_la b_se b_re o_bk o_va o_su o_ce o_ho o_wy o_bt o_ps b_pt o_tg o_sn b_ip o_ic b_ah b_be b_me u_wd b_tr b_ld o_st b_wn o_id)), (b_rf, (arI G 7 o_rf)), (b_ro, (arI G 5740 v_ro)), (b_se, (arJ G 13 o_se)), (b_re, (arJ G 400 o_re)), (b_pt, (arI G 200 o_pt)), (b_ip, (arZ G 1536 o_ip)), (b_wn, (arI G 24 o_wn))]))) (g5_B G (va_A [(b_o, (oc12 u_th u_sa b_rf b_ro b_im b_ke u_fd b_tp u_td u_fr u_to u_so u_wo u_fa u_bd u_nc b_nl u_co b_op b_ar u_le b_pi b_pa u_pd u_od b_ws b_hw u_la b_se b_re u_bk u_va u_su u_ce u_ho u_wy u_bt u_ps b_pt u_tg u_sn b_ip u_ic b_ah b_be b_me u_wd b_tr b_ld u_st b_wn u_id)), (b_rf, (arI G 7 v_rf)), (b_ro, (arI G 5740 v_ro)), (b_se, (arJ G 13 v_se)), (b_re, (arJ G 400 v_re)), (b_pt, (arI G 200 v_pt)), (b_ip, (arZ G 1536 v_ip)), (b_wn, (arI G 24 v_wn))] sz)) (va_A [(b_o, (oc12 u_th u_sa b_rf b_ro b_im b_ke u_fd b_tp u_td u_fr u_to u_so u_wo u_fa u_bd u_nc b_nl u_co b_op b_ar u_le b_pi b_pa u_pd u_od b_ws b_hw u_la b_se b_re u_bk u_va u_su u_ce u_ho u_wy u_bt u_ps b_pt u_tg u_sn b_ip u_ic b_ah b_be b_me u_wd b_tr b_ld u_st b_wn u_id)), (b_rf, (arI G 7 v_rf)), (b_ro, (arI G 5740 v_ro)), (b_se, (arJ G 13 v_se)), (b_re, (arJ G 400 v_re)), (b_pt, (arI G 200 v_pt)), (b_ip, (arZ G 1536 v_ip)), (b_wn, (arI G 24 v_wn))] sz)) 0 0 (va_A [(b_o, (oc12 u_th u_sa b_rf b_ro b_im b_ke u_fd b_tp u_td u_fr u_to u_so u_wo u_fa u_bd u_nc b_nl u_co b_op b_ar u_le b_pi b_pa u_pd u_od b_ws b_hw u_la b_se b_re u_bk u_va u_su u_ce u_ho u_wy u_bt u_ps b_pt u_tg u_sn b_ip u_ic b_ah b_be b_me u_wd b_tr b_ld u_st b_wn u_id)), (b_rf, (arI G 7 v_rf)), (b_ro, (arI G 5740 v_ro)), (b_se, (arJ G 13 v_se)), (b_re, (arJ G 400 v_re)), (b_pt, (arI G 200 v_pt)), (b_ip, (arZ G 1536 v_ip)), (b_wn, (arI G 24 v_wn))] sz) := by
  refine Met.ofW (cc := cX12_wander) (maxL := 7) (ret := (some .int)) (by decide) rfl ?_
  intro p e s m args below meth c s₁ B hml hv
  obtain ⟨rfl, hsz, hP, hK, hD0, hN, hT⟩ := hv
  have hx := B.exec
  have hb := B.bytes
  have hr := B.returns
  have hts : ∀ w ∈ tblG, w.before _ s = true := fun w h => atoms_spec (ws := (wsG yX12_wander cX12_wander 7 (some .int))) B.pre w (List.mem_cons_of_mem _ h)
  have hown : s.vm.findClass RX12 = some m.cls := findClass_of_methodNamed B.named
  have hlocks := B.notSynchronized
  subst hsz
  have hD := hD0.self (sz := s.heap.size)
  generalize hAe : va_A [(b_o, (oc12 u_th u_sa b_rf b_ro b_im b_ke u_fd b_tp u_td u_fr u_to u_so u_wo u_fa u_bd u_nc b_nl u_co b_op b_ar u_le b_pi b_pa u_pd u_od b_ws b_hw u_la b_se b_re u_bk u_va u_su u_ce u_ho u_wy u_bt u_ps b_pt u_tg u_sn b_ip u_ic b_ah b_be b_me u_wd b_tr b_ld u_st b_wn u_id)), (b_rf, (arI G 7 v_rf)), (b_ro, (arI G 5740 v_ro)), (b_se, (arJ G 13 v_se)), (b_re, (arJ G 400 v_re)), (b_pt, (arI G 200 v_pt)), (b_ip, (arZ G 1536 v_ip)), (b_wn, (arI G 24 v_wn))] s.heap.size = A at hD hT ⊢
  have hA : ∀ q : Nat, s.heap.size ≤ q → A q := fun q h => by rw [← hAe]; exact Or.inr h
  have hS : va_S A s.heap s.heap [] := va_S.rf
  have hP : va_P G.1 vwCl [(b_o, (oc12 u_th u_sa b_rf b_ro b_im b_ke u_fd b_tp u_td u_fr u_to u_so u_wo u_fa u_bd u_nc b_nl u_co b_op b_ar u_le b_pi b_pa u_pd u_od b_ws b_hw u_la b_se b_re u_bk u_va u_su u_ce u_ho u_wy u_bt u_ps b_pt u_tg u_sn b_ip u_ic b_ah b_be b_me u_wd b_tr b_ld u_st b_wn u_id)), (b_rf, (arI G 7 v_rf)), (b_ro, (arI G 5740 v_ro)), (b_se, (arJ G 13 v_se)), (b_re, (arJ G 400 v_re)), (b_pt, (arI G 200 v_pt)), (b_ip, (arZ G 1536 v_ip)), (b_wn, (arI G 24 v_wn))] s.heap := hP
  have hl := lv_entry ([.ref b_o, .int p_1, .int p_2]) (n := 7) (Nat.le_of_ble_eq_true rfl)
  rw [lg_entry_eq]
  generalize (lg_sl ([.ref b_o, .int p_1, .int p_2]) ++ List.replicate (7 - (lg_sl ([.ref b_o, .int p_1, .int p_2])).length) Slot.unset).toArray = ls at hl ⊢
  have hl : lv_has ls 7 [(0, .ref b_o), (1, .int p_1), (2, .int p_2)] := hl
  refine lv_aload_n hx hb dX12_wander_0 rfl (lv_at hl 0 rfl) ?_
  refine lv_iconst (v := 0) hx hb dX12_wander_1 (by decide) ?_
  refine va_put (D := G.1) (ci := 12) (v := .int 0) (ty := .int) (C := RX12) (T := TX12) (N := 52) hx hb hts inG_X12 tyX12 tyX12_ok nmX12 hown hK hP hD hS 0 rfl rfl 0 (by decide) (hts _ fl_X12_107) (fun _ h9 => h9) rfl (by decide +kernel) rfl rfl (Nat.le_of_ble_eq_true rfl) dX12_wander_2 (fun H locs hP hD hS => ?_)
  refine g5_rs [(b_o, (oc12 0 u_sa b_rf b_ro b_im b_ke u_fd b_tp u_td u_fr u_to u_so u_wo u_fa u_bd u_nc b_nl u_co b_op b_ar u_le b_pi b_pa u_pd u_od b_ws b_hw u_la b_se b_re u_bk u_va u_su u_ce u_ho u_wy u_bt u_ps b_pt u_tg u_sn b_ip u_ic b_ah b_be b_me u_wd b_tr b_ld u_st b_wn u_id)), (b_rf, (arI G 7 v_rf)), (b_ro, (arI G 5740 v_ro)), (b_se, (arJ G 13 v_se)), (b_re, (arJ G 400 v_re)), (b_pt, (arI G 200 v_pt)), (b_ip, (arZ G 1536 v_ip)), (b_wn, (arI G 24 v_wn))] hP hD (fun hP hD => ?_)
  refine lv_iload_n hx hb dX12_wander_5 rfl (lv_at hl 1 rfl) ?_
  refine lv_i2l (v := p_1.toInt64) hx hb dX12_wander_6 rfl ?_
  refine lv_lconst (v := 0) hx hb dX12_wander_7 (by decide) ?_
  refine lv_ldc2 (v := 1000000) hx hb hown (hts _ kl_X12_190) dX12_wander_8 ?_
  obtain ⟨hPc, hDc, hFc⟩ := g5_sub3 (wc := []) hP hD hS hA [] (by decide) rfl
  refine va_calli (va_runS (As := [.long p_1.toInt64, .long 0, .long 1000000]) (rest := []) ⟨hx, hb, hml, hown, hts⟩ (n_in_0_1000000 l G H.size p_1) (va_cwS 3 hts gS_X12_121 rfl rfl rfl hs_X12_in ⟨Nat.le_of_ble_eq_true rfl, Nat.le_of_ble_eq_true rfl⟩) (g5_preS hPc hK hDc hN hT hS hFc) rfl rfl hl.1 rfl (lv_room (Nat.le_of_ble_eq_true rfl)) dX12_wander_11 ⟨Nat.le_of_ble_eq_true rfl, Nat.le_of_ble_eq_true rfl⟩) hS (fun q _ h => hFc q h) hFc (fun r u t H1 locs ht hvm hw hB hz1 hk1 hS => ?_)
  obtain ⟨hP1, hD1⟩ := hB
  rw [ht] at hP1
  rcases hw with ⟨i_1, rfl, rfl⟩ | ⟨i_2, rfl, rfl⟩
  ·
    have i_1 : p_1.toInt < 0 ∨ 1000000 < p_1.toInt := i_1
    have hP := g5_same hP hk1
    generalize H1 = H at hP hS ⊢
    refine lv_if_eq (tgt := 24) hx hb dX12_wander_14 (by decide) (fun c_3 => ?_) (fun c_3 => ?_)
    ·
      refine lv_aload_n hx hb dX12_wander_24 rfl (lv_at hl 0 rfl) ?_
      refine lv_iconst (v := (-1)) hx hb dX12_wander_25 (by decide) ?_
      obtain ⟨hPc, hDc, hFc⟩ := g5_sub3 (wc := [(b_o, (oc12 0 u_sa b_rf b_ro b_im b_ke u_fd b_tp u_td u_fr u_to u_so u_wo u_fa u_bd u_nc b_nl u_co b_op b_ar u_le b_pi b_pa u_pd u_od b_ws b_hw u_la b_se b_re u_bk u_va u_su u_ce u_ho u_wy u_bt u_ps b_pt u_tg u_sn b_ip u_ic b_ah b_be b_me u_wd b_tr b_ld u_st b_wn u_id)), (b_rf, (arI G 7 v_rf))]) hP hD hS hA [0, 1] (by decide) rfl
      refine va_calli (va_runV (As := [.int (-1)]) (rest := []) ⟨hx, hb, hml, hown, hts⟩ (n_tell1 l G b_o b_rf b_ro b_im b_ke b_tp b_nl b_op b_ar b_pi b_pa b_ws b_hw b_se b_re b_pt b_ip b_ah b_be b_me b_tr b_ld b_wn H.size 0 u_sa u_fd u_td u_fr u_to u_so u_fa u_bd u_nc u_co u_le u_pd u_od u_la u_bk u_ce u_ho u_wy u_bt u_ps u_tg u_sn u_ic u_wd u_id u_wo u_va u_su u_st v_rf h_u_td h_u_fr h_u_to h_u_bd h_u_nc h_u_co h_u_pd h_u_la h_u_bk h_u_ce h_u_ho h_u_wy h_u_bt h_u_ps h_u_ic h_u_id) (cwV 1 hts gV_X12_125 rfl rfl rfl hv_X12_tell ⟨Nat.le_of_ble_eq_true rfl, Nat.le_of_ble_eq_true rfl⟩) (g5_preV hPc hK hDc hN hT hS hFc (ci := 12) (q0 := 0) rfl rfl) rfl rfl hl.1 rfl (lv_room (Nat.le_of_ble_eq_true rfl)) dX12_wander_26 ⟨Nat.le_of_ble_eq_true rfl, Nat.le_of_ble_eq_true rfl⟩) hS (fun q _ h => hFc q h) hFc (fun r u t H1 locs ht hvm hw hB hz1 hk1 hS => ?_)
      obtain ⟨hP1, hD1⟩ := hB
      rw [ht] at hP1
      obtain ⟨z5, z6, z7, i_4, rfl, rfl⟩ := hw
      have i_4 : 0 ≤ z6.toInt ∧ z6.toInt ≤ 1 := i_4
      obtain ⟨hP, hD⟩ := va_join (wr := [(b_ro, (arI G 5740 v_ro)), (b_se, (arJ G 13 v_se)), (b_re, (arJ G 400 v_re)), (b_pt, (arI G 200 v_pt)), (b_ip, (arZ G 1536 v_ip)), (b_wn, (arI G 24 v_wn))]) hP hD [0, 1] [2, 3, 4, 5, 6, 7] rfl rfl (by decide) (by decide) hk1 hFc hP1 hD1
      generalize H1 = H at hP hS ⊢
      refine g5_rs [(b_ro, (arI G 5740 v_ro)), (b_se, (arJ G 13 v_se)), (b_re, (arJ G 400 v_re)), (b_pt, (arI G 200 v_pt)), (b_ip, (arZ G 1536 v_ip)), (b_wn, (arI G 24 v_wn)), (b_o, (oc12 0 z5 b_rf b_ro b_im b_ke u_fd b_tp u_td u_fr u_to u_so u_wo u_fa u_bd u_nc b_nl u_co b_op b_ar u_le b_pi b_pa u_pd u_od b_ws b_hw u_la b_se b_re u_bk u_va u_su u_ce u_ho u_wy u_bt u_ps b_pt u_tg u_sn b_ip z6 b_ah b_be b_me u_wd b_tr b_ld u_st b_wn u_id)), (b_rf, (arI G 7 z7))] hP hD (fun hP hD => ?_)
      exact W.iret (v := (-1)) hx hb hr (fun t ht hW => ⟨⟨(-1), [(b_o, (oc12 0 z5 b_rf b_ro b_im b_ke u_fd b_tp u_td u_fr u_to u_so u_wo u_fa u_bd u_nc b_nl u_co b_op b_ar u_le b_pi b_pa u_pd u_od b_ws b_hw u_la b_se b_re u_bk u_va u_su u_ce u_ho u_wy u_bt u_ps b_pt u_tg u_sn b_ip z6 b_ah b_be b_me u_wd b_tr b_ld u_st b_wn u_id)), (b_rf, (arI G 7 z7)), (b_ro, (arI G 5740 v_ro)), (b_se, (arJ G 13 v_se)), (b_re, (arJ G 400 v_re)), (b_pt, (arI G 200 v_pt)), (b_ip, (arZ G 1536 v_ip)), (b_wn, (arI G 24 v_wn))], rfl, ⟨(-1), 0, z5, u_la, u_bk, u_va, u_su, u_ce, u_ho, u_wy, u_bt, u_ps, u_tg, u_sn, z6, u_st, u_id, z7, v_se, v_re, v_pt, v_ip, v_wn, h_u_la, h_u_bk, h_u_ce, h_u_ho, h_u_wy, h_u_bt, h_u_ps, r_pt, i_4, r_wn, h_u_id, (wand_1 (f := v_ro) (g := v_wn) (n := u_id) (s := p_1) (c := p_2) (fun q => by unfold okD at q; omega)).1.symm, (wand_1 (f := v_ro) (g := v_wn) (n := u_id) (s := p_1) (c := p_2) (fun q => by unfold okD at q; omega)).2.symm, rfl, rfl⟩, by rw [ht]; exact hP.sub [6, 7, 0, 1, 2, 3, 4, 5] rfl, hD.sub [6, 7, 0, 1, 2, 3, 4, 5] (by decide) rfl⟩, hS.F ht⟩) hS.2.2 dX12_wander_29
    ·
      exact absurd c_3 (by decide)
  ·
    have i_2 : 0 ≤ p_1.toInt ∧ p_1.toInt ≤ 1000000 := i_2
    have hP := g5_same hP hk1
    generalize H1 = H at hP hS ⊢
    refine lv_if_eq (tgt := 24) hx hb dX12_wander_14 (by decide) (fun c_8 => ?_) (fun c_8 => ?_)
    ·
      exact absurd c_8 (by decide)
    ·
      refine lv_iload_n hx hb dX12_wander_17 rfl (lv_at hl 2 rfl) ?_
      obtain ⟨hPc, hDc, hFc⟩ := g5_sub3 (wc := []) hP hD hS hA [] (by decide) rfl
      refine va_calli (va_runS (As := [.int p_2]) (rest := []) ⟨hx, hb, hml, hown, hts⟩ (n_isCellE l G H.size p_2) (va_cwS 1 hts gS_X12_138 rfl rfl rfl hs_X12_isCell ⟨Nat.le_of_ble_eq_true rfl, Nat.le_of_ble_eq_true rfl⟩) (g5_preS hPc hK hDc hN hT hS hFc) rfl rfl hl.1 rfl (lv_room (Nat.le_of_ble_eq_true rfl)) dX12_wander_18 ⟨Nat.le_of_ble_eq_true rfl, Nat.le_of_ble_eq_true rfl⟩) hS (fun q _ h => hFc q h) hFc (fun r u t H1 locs ht hvm hw hB hz1 hk1 hS => ?_)
      obtain ⟨hP1, hD1⟩ := hB
      rw [ht] at hP1
      rcases hw with ⟨i_9, rfl, rfl⟩ | ⟨i_10, rfl, rfl⟩
      ·
        have i_9 : 0 ≤ p_2.toInt ∧ p_2.toInt ≤ 63 := i_9
        have hP := g5_same hP hk1
        generalize H1 = H at hP hS ⊢
        refine lv_if_ne (tgt := 30) hx hb dX12_wander_21 (by decide) (fun c_11 => ?_) (fun c_11 => ?_)
        ·
          refine lv_aload_n hx hb dX12_wander_30 rfl (lv_at hl 0 rfl) ?_
          refine lv_iload_n hx hb dX12_wander_31 rfl (lv_at hl 2 rfl) ?_
          obtain ⟨hPc, hDc, hFc⟩ := g5_sub3 (wc := [(b_o, (oc12 0 u_sa b_rf b_ro b_im b_ke u_fd b_tp u_td u_fr u_to u_so u_wo u_fa u_bd u_nc b_nl u_co b_op b_ar u_le b_pi b_pa u_pd u_od b_ws b_hw u_la b_se b_re u_bk u_va u_su u_ce u_ho u_wy u_bt u_ps b_pt u_tg u_sn b_ip u_ic b_ah b_be b_me u_wd b_tr b_ld u_st b_wn u_id)), (b_ro, (arI G 5740 v_ro))]) hP hD hS hA [0, 2] (by decide) rfl
          refine va_calli (va_runV (As := [.int p_2]) (rest := []) ⟨hx, hb, hml, hown, hts⟩ (n_isWallE l G b_o b_ro b_rf b_im b_ke b_tp b_nl b_op b_ar b_pi b_pa b_ws b_hw b_se b_re b_pt b_ip b_ah b_be b_me b_tr b_ld b_wn H.size 0 u_sa u_fd u_td u_fr u_to u_so u_fa u_bd u_nc u_co u_le u_pd u_od u_la u_bk u_ce u_ho u_wy u_bt u_ps u_tg u_sn u_ic u_wd u_id p_2 u_wo u_va u_su u_st v_ro h_u_td h_u_fr h_u_to h_u_bd h_u_nc h_u_co h_u_pd h_u_la h_u_bk h_u_ce h_u_ho h_u_wy h_u_bt h_u_ps h_u_ic h_u_id i_9 (r_ro)) (cwV 1 hts gV_X12_160 rfl rfl rfl hv_X12_isWall ⟨Nat.le_of_ble_eq_true rfl, Nat.le_of_ble_eq_true rfl⟩) (g5_preV hPc hK hDc hN hT hS hFc (ci := 12) (q0 := 0) rfl rfl) rfl rfl hl.1 rfl (lv_room (Nat.le_of_ble_eq_true rfl)) dX12_wander_32 ⟨Nat.le_of_ble_eq_true rfl, Nat.le_of_ble_eq_true rfl⟩) hS (fun q _ h => hFc q h) hFc (fun r u t H1 locs ht hvm hw hB hz1 hk1 hS => ?_)
          obtain ⟨hP1, hD1⟩ := hB
          rw [ht] at hP1
          rcases hw with ⟨i_12, rfl, rfl⟩ | ⟨i_13, rfl, rfl⟩
          ·
            have i_12 : wallAt v_ro p_2.toInt := i_12
            obtain ⟨hP, hD⟩ := va_join (wr := [(b_rf, (arI G 7 v_rf)), (b_se, (arJ G 13 v_se)), (b_re, (arJ G 400 v_re)), (b_pt, (arI G 200 v_pt)), (b_ip, (arZ G 1536 v_ip)), (b_wn, (arI G 24 v_wn))]) hP hD [0, 2] [1, 3, 4, 5, 6, 7] rfl rfl (by decide) (by decide) hk1 hFc hP1 hD1
            generalize H1 = H at hP hS ⊢
            refine g5_rs [(b_rf, (arI G 7 v_rf)), (b_se, (arJ G 13 v_se)), (b_re, (arJ G 400 v_re)), (b_pt, (arI G 200 v_pt)), (b_ip, (arZ G 1536 v_ip)), (b_wn, (arI G 24 v_wn)), (b_o, (oc12 0 u_sa b_rf b_ro b_im b_ke u_fd b_tp u_td u_fr u_to u_so u_wo u_fa u_bd u_nc b_nl u_co b_op b_ar u_le b_pi b_pa u_pd u_od b_ws b_hw u_la b_se b_re u_bk u_va u_su u_ce u_ho u_wy u_bt u_ps b_pt u_tg u_sn b_ip u_ic b_ah b_be b_me u_wd b_tr b_ld u_st b_wn u_id)), (b_ro, (arI G 5740 v_ro))] hP hD (fun hP hD => ?_)
            refine lv_if_eq (tgt := 45) hx hb dX12_wander_35 (by decide) (fun c_14 => ?_) (fun c_14 => ?_)
            ·
              exact absurd c_14 (by decide)
            ·
              refine lv_aload_n hx hb dX12_wander_38 rfl (lv_at hl 0 rfl) ?_
              refine lv_bipush (v := (-3)) hx hb dX12_wander_39 (by decide) ?_
              obtain ⟨hPc, hDc, hFc⟩ := g5_sub3 (wc := [(b_o, (oc12 0 u_sa b_rf b_ro b_im b_ke u_fd b_tp u_td u_fr u_to u_so u_wo u_fa u_bd u_nc b_nl u_co b_op b_ar u_le b_pi b_pa u_pd u_od b_ws b_hw u_la b_se b_re u_bk u_va u_su u_ce u_ho u_wy u_bt u_ps b_pt u_tg u_sn b_ip u_ic b_ah b_be b_me u_wd b_tr b_ld u_st b_wn u_id)), (b_rf, (arI G 7 v_rf))]) hP hD hS hA [6, 0] (by decide) rfl
              refine va_calli (va_runV (As := [.int (-3)]) (rest := []) ⟨hx, hb, hml, hown, hts⟩ (n_tell3 l G b_o b_rf b_ro b_im b_ke b_tp b_nl b_op b_ar b_pi b_pa b_ws b_hw b_se b_re b_pt b_ip b_ah b_be b_me b_tr b_ld b_wn H.size 0 u_sa u_fd u_td u_fr u_to u_so u_fa u_bd u_nc u_co u_le u_pd u_od u_la u_bk u_ce u_ho u_wy u_bt u_ps u_tg u_sn u_ic u_wd u_id u_wo u_va u_su u_st v_rf h_u_td h_u_fr h_u_to h_u_bd h_u_nc h_u_co h_u_pd h_u_la h_u_bk h_u_ce h_u_ho h_u_wy h_u_bt h_u_ps h_u_ic h_u_id) (cwV 1 hts gV_X12_125 rfl rfl rfl hv_X12_tell ⟨Nat.le_of_ble_eq_true rfl, Nat.le_of_ble_eq_true rfl⟩) (g5_preV hPc hK hDc hN hT hS hFc (ci := 12) (q0 := 0) rfl rfl) rfl rfl hl.1 rfl (lv_room (Nat.le_of_ble_eq_true rfl)) dX12_wander_41 ⟨Nat.le_of_ble_eq_true rfl, Nat.le_of_ble_eq_true rfl⟩) hS (fun q _ h => hFc q h) hFc (fun r u t H1 locs ht hvm hw hB hz1 hk1 hS => ?_)
              obtain ⟨hP1, hD1⟩ := hB
              rw [ht] at hP1
              obtain ⟨z16, z17, z18, i_15, rfl, rfl⟩ := hw
              have i_15 : 0 ≤ z17.toInt ∧ z17.toInt ≤ 1 := i_15
              obtain ⟨hP, hD⟩ := va_join (wr := [(b_se, (arJ G 13 v_se)), (b_re, (arJ G 400 v_re)), (b_pt, (arI G 200 v_pt)), (b_ip, (arZ G 1536 v_ip)), (b_wn, (arI G 24 v_wn)), (b_ro, (arI G 5740 v_ro))]) hP hD [6, 0] [1, 2, 3, 4, 5, 7] rfl rfl (by decide) (by decide) hk1 hFc hP1 hD1
              generalize H1 = H at hP hS ⊢
              refine g5_rs [(b_se, (arJ G 13 v_se)), (b_re, (arJ G 400 v_re)), (b_pt, (arI G 200 v_pt)), (b_ip, (arZ G 1536 v_ip)), (b_wn, (arI G 24 v_wn)), (b_ro, (arI G 5740 v_ro)), (b_o, (oc12 0 z16 b_rf b_ro b_im b_ke u_fd b_tp u_td u_fr u_to u_so u_wo u_fa u_bd u_nc b_nl u_co b_op b_ar u_le b_pi b_pa u_pd u_od b_ws b_hw u_la b_se b_re u_bk u_va u_su u_ce u_ho u_wy u_bt u_ps b_pt u_tg u_sn b_ip z17 b_ah b_be b_me u_wd b_tr b_ld u_st b_wn u_id)), (b_rf, (arI G 7 z18))] hP hD (fun hP hD => ?_)
              exact W.iret (v := (-3)) hx hb hr (fun t ht hW => ⟨⟨(-3), [(b_o, (oc12 0 z16 b_rf b_ro b_im b_ke u_fd b_tp u_td u_fr u_to u_so u_wo u_fa u_bd u_nc b_nl u_co b_op b_ar u_le b_pi b_pa u_pd u_od b_ws b_hw u_la b_se b_re u_bk u_va u_su u_ce u_ho u_wy u_bt u_ps b_pt u_tg u_sn b_ip z17 b_ah b_be b_me u_wd b_tr b_ld u_st b_wn u_id)), (b_rf, (arI G 7 z18)), (b_ro, (arI G 5740 v_ro)), (b_se, (arJ G 13 v_se)), (b_re, (arJ G 400 v_re)), (b_pt, (arI G 200 v_pt)), (b_ip, (arZ G 1536 v_ip)), (b_wn, (arI G 24 v_wn))], rfl, ⟨(-3), 0, z16, u_la, u_bk, u_va, u_su, u_ce, u_ho, u_wy, u_bt, u_ps, u_tg, u_sn, z17, u_st, u_id, z18, v_se, v_re, v_pt, v_ip, v_wn, h_u_la, h_u_bk, h_u_ce, h_u_ho, h_u_wy, h_u_bt, h_u_ps, r_pt, i_15, r_wn, h_u_id, (wand_3 (f := v_ro) (g := v_wn) (n := u_id) (s := p_1) (c := p_2) i_12).1.symm, (wand_3 (f := v_ro) (g := v_wn) (n := u_id) (s := p_1) (c := p_2) i_12).2.symm, rfl, rfl⟩, by rw [ht]; exact hP.sub [6, 7, 5, 0, 1, 2, 3, 4] rfl, hD.sub [6, 7, 5, 0, 1, 2, 3, 4] (by decide) rfl⟩, hS.F ht⟩) hS.2.2 dX12_wander_44
          ·
            have i_13 : ¬ wallAt v_ro p_2.toInt := i_13
            obtain ⟨hP, hD⟩ := va_join (wr := [(b_rf, (arI G 7 v_rf)), (b_se, (arJ G 13 v_se)), (b_re, (arJ G 400 v_re)), (b_pt, (arI G 200 v_pt)), (b_ip, (arZ G 1536 v_ip)), (b_wn, (arI G 24 v_wn))]) hP hD [0, 2] [1, 3, 4, 5, 6, 7] rfl rfl (by decide) (by decide) hk1 hFc hP1 hD1
            generalize H1 = H at hP hS ⊢
            refine g5_rs [(b_rf, (arI G 7 v_rf)), (b_se, (arJ G 13 v_se)), (b_re, (arJ G 400 v_re)), (b_pt, (arI G 200 v_pt)), (b_ip, (arZ G 1536 v_ip)), (b_wn, (arI G 24 v_wn)), (b_o, (oc12 0 u_sa b_rf b_ro b_im b_ke u_fd b_tp u_td u_fr u_to u_so u_wo u_fa u_bd u_nc b_nl u_co b_op b_ar u_le b_pi b_pa u_pd u_od b_ws b_hw u_la b_se b_re u_bk u_va u_su u_ce u_ho u_wy u_bt u_ps b_pt u_tg u_sn b_ip u_ic b_ah b_be b_me u_wd b_tr b_ld u_st b_wn u_id)), (b_ro, (arI G 5740 v_ro))] hP hD (fun hP hD => ?_)
            refine lv_if_eq (tgt := 45) hx hb dX12_wander_35 (by decide) (fun c_19 => ?_) (fun c_19 => ?_)
            ·
              refine lv_aload_n hx hb dX12_wander_45 rfl (lv_at hl 0 rfl) ?_
              refine lv_iload_n hx hb dX12_wander_46 rfl (lv_at hl 1 rfl) ?_
              refine lv_i2l (v := p_1.toInt64) hx hb dX12_wander_47 rfl ?_
              refine va_put (D := G.1) (ci := 12) (v := .long p_1.toInt64) (ty := .long) (C := RX12) (T := TX12) (N := 52) hx hb hts inG_X12 tyX12 tyX12_ok nmX12 hown hK hP hD hS 6 rfl rfl 49 (by decide) (hts _ fl_X12_469) (fun _ h9 => h9) rfl (by decide +kernel) rfl rfl (Nat.le_of_ble_eq_true rfl) dX12_wander_48 (fun H locs hP hD hS => ?_)
              refine g5_rs [(b_rf, (arI G 7 v_rf)), (b_se, (arJ G 13 v_se)), (b_re, (arJ G 400 v_re)), (b_pt, (arI G 200 v_pt)), (b_ip, (arZ G 1536 v_ip)), (b_wn, (arI G 24 v_wn)), (b_o, (oc12 0 u_sa b_rf b_ro b_im b_ke u_fd b_tp u_td u_fr u_to u_so u_wo u_fa u_bd u_nc b_nl u_co b_op b_ar u_le b_pi b_pa u_pd u_od b_ws b_hw u_la b_se b_re u_bk u_va u_su u_ce u_ho u_wy u_bt u_ps b_pt u_tg u_sn b_ip u_ic b_ah b_be b_me u_wd b_tr b_ld p_1.toInt64 b_wn u_id)), (b_ro, (arI G 5740 v_ro))] hP hD (fun hP hD => ?_)
              refine lv_iload_n hx hb dX12_wander_51 rfl (lv_at hl 2 rfl) ?_
              refine lv_istore_n (lv' := [(3, .int p_2), (0, .ref b_o), (1, .int p_1), (2, .int p_2)]) hx hb dX12_wander_52 rfl hl (by decide) rfl (fun ls hl => ?_)
              refine lv_iconst (v := 0) hx hb dX12_wander_53 (by decide) ?_
              refine lv_istore (lv' := [(4, .int 0), (3, .int p_2), (0, .ref b_o), (1, .int p_1), (2, .int p_2)]) hx hb dX12_wander_54 hl (by decide) rfl (fun ls hl => ?_)
              refine g5_loop (α := (Int32) × (Int32) × (Int64) × (Nat → Int32)) (fun (q : (Int32) × (Int32) × (Int64) × (Nat → Int32)) (ls : Array Slot) (H : Heap) (locs : List Loc) => match q with | (k56_4, k56_3, k56_st, k56_wn) => lv_has ls 7 [(3, .int k56_3), (4, .int k56_4), (0, .ref b_o), (1, .int p_1), (2, .int p_2)] ∧ va_P G.1 vwCl [(b_rf, (arI G 7 v_rf)), (b_se, (arJ G 13 v_se)), (b_re, (arJ G 400 v_re)), (b_pt, (arI G 200 v_pt)), (b_ip, (arZ G 1536 v_ip)), (b_wn, (arI G 24 k56_wn)), (b_o, (oc12 0 u_sa b_rf b_ro b_im b_ke u_fd b_tp u_td u_fr u_to u_so u_wo u_fa u_bd u_nc b_nl u_co b_op b_ar u_le b_pi b_pa u_pd u_od b_ws b_hw u_la b_se b_re u_bk u_va u_su u_ce u_ho u_wy u_bt u_ps b_pt u_tg u_sn b_ip u_ic b_ah b_be b_me u_wd b_tr b_ld k56_st b_wn u_id)), (b_ro, (arI G 5740 v_ro))] H ∧ va_D A [(b_rf, (arI G 7 v_rf)), (b_se, (arJ G 13 v_se)), (b_re, (arJ G 400 v_re)), (b_pt, (arI G 200 v_pt)), (b_ip, (arZ G 1536 v_ip)), (b_wn, (arI G 24 k56_wn)), (b_o, (oc12 0 u_sa b_rf b_ro b_im b_ke u_fd b_tp u_td u_fr u_to u_so u_wo u_fa u_bd u_nc b_nl u_co b_op b_ar u_le b_pi b_pa u_pd u_od b_ws b_hw u_la b_se b_re u_bk u_va u_su u_ce u_ho u_wy u_bt u_ps b_pt u_tg u_sn b_ip u_ic b_ah b_be b_me u_wd b_tr b_ld k56_st b_wn u_id)), (b_ro, (arI G 5740 v_ro))] ∧ va_S A s.heap H locs ∧ (0 ≤ k56_4.toInt ∧ k56_4.toInt ≤ 24) ∧ (0 ≤ k56_3.toInt ∧ k56_3.toInt ≤ 63) ∧ (WNI k56_wn) ∧ (k56_st = wdS p_1.toInt64 (k56_4.toInt.toNat - 1)) ∧ (k56_3.toInt = wdC v_ro p_1.toInt64 p_2.toInt (k56_4.toInt.toNat - 1)) ∧ (k56_wn = wdR v_ro p_1.toInt64 p_2.toInt v_wn k56_4.toInt.toNat)) (fun (q : (Int32) × (Int32) × (Int64) × (Nat → Int32)) => match q with | (k56_4, k56_3, k56_st, k56_wn) => Int.toNat (24 - k56_4.toInt)) (0, p_2, p_1.toInt64, v_wn) ⟨lv_sub hl [1, 0, 2, 3, 4] rfl, hP, hD, hS, ⟨by decide, by decide⟩, i_9, r_wn, by rw [show (0 : Int32).toInt.toNat = 0 from by decide]; rfl, by rw [show (0 : Int32).toInt.toNat = 0 from by decide]; rfl, by rw [show (0 : Int32).toInt.toNat = 0 from by decide]; rfl⟩ ?_
              rintro ⟨k56_4, k56_3, k56_st, k56_wn⟩ ls H locs ⟨hl, hP, hD, hS, i_20, i_21, i_22, i_23, i_24, i_25⟩ ih_56_26
              have hl : lv_has ls 7 [(3, .int k56_3), (4, .int k56_4), (0, .ref b_o), (1, .int p_1), (2, .int p_2)] := hl
              have i_20 : 0 ≤ k56_4.toInt ∧ k56_4.toInt ≤ 24 := i_20
              have i_21 : 0 ≤ k56_3.toInt ∧ k56_3.toInt ≤ 63 := i_21
              have i_22 : WNI k56_wn := i_22
              have i_23 : k56_st = wdS p_1.toInt64 (k56_4.toInt.toNat - 1) := i_23
              have i_24 : k56_3.toInt = wdC v_ro p_1.toInt64 p_2.toInt (k56_4.toInt.toNat - 1) := i_24
              have i_25 : k56_wn = wdR v_ro p_1.toInt64 p_2.toInt v_wn k56_4.toInt.toNat := i_25
              refine g5_rs [(b_rf, (arI G 7 v_rf)), (b_se, (arJ G 13 v_se)), (b_re, (arJ G 400 v_re)), (b_pt, (arI G 200 v_pt)), (b_ip, (arZ G 1536 v_ip)), (b_wn, (arI G 24 k56_wn)), (b_o, (oc12 0 u_sa b_rf b_ro b_im b_ke u_fd b_tp u_td u_fr u_to u_so u_wo u_fa u_bd u_nc b_nl u_co b_op b_ar u_le b_pi b_pa u_pd u_od b_ws b_hw u_la b_se b_re u_bk u_va u_su u_ce u_ho u_wy u_bt u_ps b_pt u_tg u_sn b_ip u_ic b_ah b_be b_me u_wd b_tr b_ld k56_st b_wn u_id)), (b_ro, (arI G 5740 v_ro))] hP hD (fun hP hD => ?_)
              refine lv_iload hx hb dX12_wander_56 (lv_at hl 1 rfl) ?_
              refine lv_bipush (v := 24) hx hb dX12_wander_58 (by decide) ?_
              refine lv_icmp_ge (tgt := 162) hx hb dX12_wander_60 (by decide) (fun c_27 => ?_) (fun c_27 => ?_)
              ·
                have i_27 : k56_4.toInt ≥ 24 := by have z := g5_ge (a := k56_4.toInt) (b := 24) (by rfl) (by decide) c_27; omega
                refine lv_aload_n hx hb dX12_wander_162 rfl (lv_at hl 2 rfl) ?_
                refine lv_iconst (v := 1) hx hb dX12_wander_163 (by decide) ?_
                refine va_put (D := G.1) (ci := 12) (v := .int 1) (ty := .boolean) (C := RX12) (T := TX12) (N := 52) hx hb hts inG_X12 tyX12 tyX12_ok nmX12 hown hK hP hD hS 6 rfl rfl 51 (by decide) (hts _ fl_X12_478) (fun _ h9 => h9) rfl (by decide +kernel) rfl rfl (Nat.le_of_ble_eq_true rfl) dX12_wander_164 (fun H locs hP hD hS => ?_)
                refine g5_rs [(b_rf, (arI G 7 v_rf)), (b_se, (arJ G 13 v_se)), (b_re, (arJ G 400 v_re)), (b_pt, (arI G 200 v_pt)), (b_ip, (arZ G 1536 v_ip)), (b_wn, (arI G 24 k56_wn)), (b_o, (oc12 0 u_sa b_rf b_ro b_im b_ke u_fd b_tp u_td u_fr u_to u_so u_wo u_fa u_bd u_nc b_nl u_co b_op b_ar u_le b_pi b_pa u_pd u_od b_ws b_hw u_la b_se b_re u_bk u_va u_su u_ce u_ho u_wy u_bt u_ps b_pt u_tg u_sn b_ip u_ic b_ah b_be b_me u_wd b_tr b_ld k56_st b_wn 1)), (b_ro, (arI G 5740 v_ro))] hP hD (fun hP hD => ?_)
                refine lv_aload_n hx hb dX12_wander_167 rfl (lv_at hl 2 rfl) ?_
                obtain ⟨hPc, hDc, hFc⟩ := g5_sub3 (wc := [(b_o, (oc12 0 u_sa b_rf b_ro b_im b_ke u_fd b_tp u_td u_fr u_to u_so u_wo u_fa u_bd u_nc b_nl u_co b_op b_ar u_le b_pi b_pa u_pd u_od b_ws b_hw u_la b_se b_re u_bk u_va u_su u_ce u_ho u_wy u_bt u_ps b_pt u_tg u_sn b_ip u_ic b_ah b_be b_me u_wd b_tr b_ld k56_st b_wn 1)), (b_ro, (arI G 5740 v_ro)), (b_se, (arJ G 13 v_se)), (b_re, (arJ G 400 v_re)), (b_pt, (arI G 200 v_pt)), (b_ip, (arZ G 1536 v_ip))]) hP hD hS hA [6, 7, 1, 2, 3, 4] (by decide) rfl
                refine va_callv (va_runV (As := []) (rest := []) ⟨hx, hb, hml, hown, hts⟩ (n_markAll l G b_o b_ro b_se b_re b_pt b_ip b_rf b_im b_ke b_tp b_nl b_op b_ar b_pi b_pa b_ws b_hw b_ah b_be b_me b_tr b_ld b_wn H.size 0 u_sa u_fd u_td u_fr u_to u_so u_fa u_bd u_nc u_co u_le u_pd u_od u_la u_bk u_ce u_ho u_wy u_bt u_ps u_tg u_sn u_ic u_wd 1 u_wo u_va u_su k56_st v_ro v_se v_re v_pt v_ip h_u_td h_u_fr h_u_to h_u_bd h_u_nc h_u_co h_u_pd h_u_la h_u_bk h_u_ce h_u_ho h_u_wy h_u_bt h_u_ps h_u_ic ⟨by decide, by decide⟩ (r_ro) (r_pt)) (cwV 0 hts gV_X12_419 rfl rfl rfl hv_X12_markAll ⟨Nat.le_of_ble_eq_true rfl, Nat.le_of_ble_eq_true rfl⟩) (g5_preV hPc hK hDc hN hT hS hFc (ci := 12) (q0 := 0) rfl rfl) rfl rfl hl.1 rfl (lv_room (Nat.le_of_ble_eq_true rfl)) dX12_wander_168 ⟨Nat.le_of_ble_eq_true rfl, Nat.le_of_ble_eq_true rfl⟩) hS (fun q _ h => hFc q h) hFc (fun u t H1 locs ht hvm hw hB hz1 hk1 hS => ?_)
                obtain ⟨hP1, hD1⟩ := hB
                rw [ht] at hP1
                obtain ⟨z36, z37, z38, z39, z40, z41, z42, z43, z44, z45, z46, z47, z48, z49, z50, i_28, i_29, i_30, i_31, i_32, i_33, i_34, i_35, rfl⟩ := hw
                have i_28 : 0 ≤ z36.toInt ∧ z36.toInt ≤ 4840 := i_28
                have i_29 : 0 ≤ z37.toInt ∧ z37.toInt ≤ 1 := i_29
                have i_30 : 0 ≤ z40.toInt ∧ z40.toInt ≤ 63 := i_30
                have i_31 : 0 ≤ z41.toInt ∧ z41.toInt ≤ 23 := i_31
                have i_32 : 0 ≤ z42.toInt ∧ z42.toInt ≤ 3 := i_32
                have i_33 : 0 ≤ z43.toInt ∧ z43.toInt ≤ 1000000 := i_33
                have i_34 : 0 ≤ z44.toInt ∧ z44.toInt ≤ 200 := i_34
                have i_35 : PTI z49 := i_35
                obtain ⟨hP, hD⟩ := va_join (wr := [(b_rf, (arI G 7 v_rf)), (b_wn, (arI G 24 k56_wn))]) hP hD [6, 7, 1, 2, 3, 4] [0, 5] rfl rfl (by decide) (by decide) hk1 hFc hP1 hD1
                generalize H1 = H at hP hS ⊢
                refine g5_rs [(b_rf, (arI G 7 v_rf)), (b_wn, (arI G 24 k56_wn)), (b_o, (oc12 0 u_sa b_rf b_ro b_im b_ke u_fd b_tp u_td u_fr u_to u_so u_wo u_fa u_bd u_nc b_nl u_co b_op b_ar u_le b_pi b_pa u_pd u_od b_ws b_hw z36 b_se b_re z37 z38 z39 z40 z41 z42 z43 z44 b_pt z45 z46 b_ip u_ic b_ah b_be b_me u_wd b_tr b_ld k56_st b_wn 1)), (b_ro, (arI G 5740 v_ro)), (b_se, (arJ G 13 z47)), (b_re, (arJ G 400 z48)), (b_pt, (arI G 200 z49)), (b_ip, (arZ G 1536 z50))] hP hD (fun hP hD => ?_)
                refine lv_iconst (v := 0) hx hb dX12_wander_171 (by decide) ?_
                refine lv_istore (lv' := [(4, .int 0), (3, .int k56_3), (0, .ref b_o), (1, .int p_1), (2, .int p_2)]) hx hb dX12_wander_172 hl (by decide) rfl (fun ls hl => ?_)
                refine lv_iconst (v := 0) hx hb dX12_wander_174 (by decide) ?_
                refine lv_istore (lv' := [(5, .int 0), (4, .int 0), (3, .int k56_3), (0, .ref b_o), (1, .int p_1), (2, .int p_2)]) hx hb dX12_wander_175 hl (by decide) rfl (fun ls hl => ?_)
                refine g5_loop (α := (Int32) × (Int32)) (fun (q : (Int32) × (Int32)) (ls : Array Slot) (H : Heap) (locs : List Loc) => match q with | (k177_5, k177_4) => lv_has ls 7 [(4, .int k177_4), (5, .int k177_5), (3, .int k56_3), (0, .ref b_o), (1, .int p_1), (2, .int p_2)] ∧ va_P G.1 vwCl [(b_rf, (arI G 7 v_rf)), (b_wn, (arI G 24 k56_wn)), (b_o, (oc12 0 u_sa b_rf b_ro b_im b_ke u_fd b_tp u_td u_fr u_to u_so u_wo u_fa u_bd u_nc b_nl u_co b_op b_ar u_le b_pi b_pa u_pd u_od b_ws b_hw z36 b_se b_re z37 z38 z39 z40 z41 z42 z43 z44 b_pt z45 z46 b_ip u_ic b_ah b_be b_me u_wd b_tr b_ld k56_st b_wn 1)), (b_ro, (arI G 5740 v_ro)), (b_se, (arJ G 13 z47)), (b_re, (arJ G 400 z48)), (b_pt, (arI G 200 z49)), (b_ip, (arZ G 1536 z50))] H ∧ va_D A [(b_rf, (arI G 7 v_rf)), (b_wn, (arI G 24 k56_wn)), (b_o, (oc12 0 u_sa b_rf b_ro b_im b_ke u_fd b_tp u_td u_fr u_to u_so u_wo u_fa u_bd u_nc b_nl u_co b_op b_ar u_le b_pi b_pa u_pd u_od b_ws b_hw z36 b_se b_re z37 z38 z39 z40 z41 z42 z43 z44 b_pt z45 z46 b_ip u_ic b_ah b_be b_me u_wd b_tr b_ld k56_st b_wn 1)), (b_ro, (arI G 5740 v_ro)), (b_se, (arJ G 13 z47)), (b_re, (arJ G 400 z48)), (b_pt, (arI G 200 z49)), (b_ip, (arZ G 1536 z50))] ∧ va_S A s.heap H locs ∧ (0 ≤ k177_5.toInt ∧ k177_5.toInt ≤ 24) ∧ (0 ≤ k177_4.toInt ∧ k177_4.toInt ≤ 24) ∧ (k177_4.toInt ≤ k177_5.toInt)) (fun (q : (Int32) × (Int32)) => match q with | (k177_5, k177_4) => Int.toNat (24 - k177_5.toInt)) (0, 0) ⟨lv_sub hl [1, 0, 2, 3, 4, 5] rfl, hP, hD, hS, ⟨by decide, by decide⟩, ⟨by decide, by decide⟩, Int.le_refl _⟩ ?_
                rintro ⟨k177_5, k177_4⟩ ls H locs ⟨hl, hP, hD, hS, i_51, i_52, i_53⟩ ih_177_54
                have hl : lv_has ls 7 [(4, .int k177_4), (5, .int k177_5), (3, .int k56_3), (0, .ref b_o), (1, .int p_1), (2, .int p_2)] := hl
                have i_51 : 0 ≤ k177_5.toInt ∧ k177_5.toInt ≤ 24 := i_51
                have i_52 : 0 ≤ k177_4.toInt ∧ k177_4.toInt ≤ 24 := i_52
                have i_53 : k177_4.toInt ≤ k177_5.toInt := i_53
                refine g5_rs [(b_rf, (arI G 7 v_rf)), (b_wn, (arI G 24 k56_wn)), (b_o, (oc12 0 u_sa b_rf b_ro b_im b_ke u_fd b_tp u_td u_fr u_to u_so u_wo u_fa u_bd u_nc b_nl u_co b_op b_ar u_le b_pi b_pa u_pd u_od b_ws b_hw z36 b_se b_re z37 z38 z39 z40 z41 z42 z43 z44 b_pt z45 z46 b_ip u_ic b_ah b_be b_me u_wd b_tr b_ld k56_st b_wn 1)), (b_ro, (arI G 5740 v_ro)), (b_se, (arJ G 13 z47)), (b_re, (arJ G 400 z48)), (b_pt, (arI G 200 z49)), (b_ip, (arZ G 1536 z50))] hP hD (fun hP hD => ?_)
                refine lv_iload hx hb dX12_wander_177 (lv_at hl 1 rfl) ?_
                refine lv_bipush (v := 24) hx hb dX12_wander_179 (by decide) ?_
                refine lv_icmp_ge (tgt := 221) hx hb dX12_wander_181 (by decide) (fun c_55 => ?_) (fun c_55 => ?_)
                ·
                  have i_55 : k177_5.toInt ≥ 24 := by have z := g5_ge (a := k177_5.toInt) (b := 24) (by rfl) (by decide) c_55; omega
                  refine lv_aload_n hx hb dX12_wander_221 rfl (lv_at hl 3 rfl) ?_
                  refine lv_iload hx hb dX12_wander_222 (lv_at hl 0 rfl) ?_
                  obtain ⟨hPc, hDc, hFc⟩ := g5_sub3 (wc := [(b_o, (oc12 0 u_sa b_rf b_ro b_im b_ke u_fd b_tp u_td u_fr u_to u_so u_wo u_fa u_bd u_nc b_nl u_co b_op b_ar u_le b_pi b_pa u_pd u_od b_ws b_hw z36 b_se b_re z37 z38 z39 z40 z41 z42 z43 z44 b_pt z45 z46 b_ip u_ic b_ah b_be b_me u_wd b_tr b_ld k56_st b_wn 1)), (b_rf, (arI G 7 v_rf))]) hP hD hS hA [2, 0] (by decide) rfl
                  refine va_calli (va_runV (As := [.int k177_4]) (rest := []) ⟨hx, hb, hml, hown, hts⟩ (n_tell l G b_o b_rf b_ro b_im b_ke b_tp b_nl b_op b_ar b_pi b_pa b_ws b_hw b_se b_re b_pt b_ip b_ah b_be b_me b_tr b_ld b_wn H.size 0 u_sa u_fd u_td u_fr u_to u_so u_fa u_bd u_nc u_co u_le u_pd u_od z36 z37 z40 z41 z42 z43 z44 z45 z46 u_ic u_wd 1 k177_4 u_wo z38 z39 k56_st v_rf h_u_td h_u_fr h_u_to h_u_bd h_u_nc h_u_co h_u_pd i_28 i_29 i_30 i_31 i_32 i_33 i_34 h_u_ic ⟨by decide, by decide⟩ ⟨by omega, by omega⟩) (cwV 1 hts gV_X12_125 rfl rfl rfl hv_X12_tell ⟨Nat.le_of_ble_eq_true rfl, Nat.le_of_ble_eq_true rfl⟩) (g5_preV hPc hK hDc hN hT hS hFc (ci := 12) (q0 := 0) rfl rfl) rfl rfl hl.1 rfl (lv_room (Nat.le_of_ble_eq_true rfl)) dX12_wander_224 ⟨Nat.le_of_ble_eq_true rfl, Nat.le_of_ble_eq_true rfl⟩) hS (fun q _ h => hFc q h) hFc (fun r u t H1 locs ht hvm hw hB hz1 hk1 hS => ?_)
                  obtain ⟨hP1, hD1⟩ := hB
                  rw [ht] at hP1
                  obtain ⟨z57, z58, z59, i_56, y60, rfl⟩ := hw
                  have i_56 : 0 ≤ z58.toInt ∧ z58.toInt ≤ 1 := i_56
                  obtain ⟨hP, hD⟩ := va_join (wr := [(b_wn, (arI G 24 k56_wn)), (b_ro, (arI G 5740 v_ro)), (b_se, (arJ G 13 z47)), (b_re, (arJ G 400 z48)), (b_pt, (arI G 200 z49)), (b_ip, (arZ G 1536 z50))]) hP hD [2, 0] [1, 3, 4, 5, 6, 7] rfl rfl (by decide) (by decide) hk1 hFc hP1 hD1
                  generalize H1 = H at hP hS ⊢
                  refine g5_rs [(b_wn, (arI G 24 k56_wn)), (b_ro, (arI G 5740 v_ro)), (b_se, (arJ G 13 z47)), (b_re, (arJ G 400 z48)), (b_pt, (arI G 200 z49)), (b_ip, (arZ G 1536 z50)), (b_o, (oc12 0 z57 b_rf b_ro b_im b_ke u_fd b_tp u_td u_fr u_to u_so u_wo u_fa u_bd u_nc b_nl u_co b_op b_ar u_le b_pi b_pa u_pd u_od b_ws b_hw z36 b_se b_re z37 z38 z39 z40 z41 z42 z43 z44 b_pt z45 z46 b_ip z58 b_ah b_be b_me u_wd b_tr b_ld k56_st b_wn 1)), (b_rf, (arI G 7 z59))] hP hD (fun hP hD => ?_)
                  refine g5_ti (v := k177_4) y60 ?_
                  exact W.iret (v := k177_4) hx hb hr (fun t ht hW => ⟨⟨k177_4, [(b_o, (oc12 0 z57 b_rf b_ro b_im b_ke u_fd b_tp u_td u_fr u_to u_so u_wo u_fa u_bd u_nc b_nl u_co b_op b_ar u_le b_pi b_pa u_pd u_od b_ws b_hw z36 b_se b_re z37 z38 z39 z40 z41 z42 z43 z44 b_pt z45 z46 b_ip z58 b_ah b_be b_me u_wd b_tr b_ld k56_st b_wn 1)), (b_rf, (arI G 7 z59)), (b_ro, (arI G 5740 v_ro)), (b_se, (arJ G 13 z47)), (b_re, (arJ G 400 z48)), (b_pt, (arI G 200 z49)), (b_ip, (arZ G 1536 z50)), (b_wn, (arI G 24 k56_wn))], rfl, ⟨k177_4, 0, z57, z36, z37, z38, z39, z40, z41, z42, z43, z44, z45, z46, z58, k56_st, 1, z59, z47, z48, z49, z50, k56_wn, i_28, i_29, i_30, i_31, i_32, i_33, i_34, i_35, i_56, i_22, ⟨by have zc_o_id : (1 : Int32).toInt = 1 := (by decide); omega, by have zc_o_id : (1 : Int32).toInt = 1 := (by decide); omega⟩, by rw [(wand_0 (f := v_ro) (g := v_wn) (n := u_id) (s := p_1) (c := p_2) (by unfold okD; omega) i_13).1, i_25, show k56_4.toInt.toNat = 24 by omega], (wand_0 (f := v_ro) (g := v_wn) (n := u_id) (s := p_1) (c := p_2) (by unfold okD; omega) i_13).2.symm, rfl, rfl⟩, by rw [ht]; exact hP.sub [6, 7, 1, 2, 3, 4, 5, 0] rfl, hD.sub [6, 7, 1, 2, 3, 4, 5, 0] (by decide) rfl⟩, hS.F ht⟩) hS.2.2 dX12_wander_227
                ·
                  have i_55 : k177_5.toInt < 24 := by have z := g5_geN (a := k177_5.toInt) (b := 24) (by rfl) (by decide) c_55; omega
                  refine lv_iload hx hb dX12_wander_184 (lv_at hl 0 rfl) ?_
                  refine lv_aload_n hx hb dX12_wander_186 rfl (lv_at hl 3 rfl) ?_
                  refine va_get (D := G.1) (ci := 12) (v := .ref b_ip) (C := RX12) (T := TX12) (N := 52) hx hb hts inG_X12 hown hK hP 2 rfl rfl 41 (by decide) (hts _ fl_X12_85) (fun _ h9 => h9) rfl dX12_wander_187 ?_
                  refine lv_bipush (v := 64) hx hb dX12_wander_190 (by decide) ?_
                  refine lv_iload hx hb dX12_wander_192 (lv_at hl 1 rfl) ?_
                  refine lv_imul hx hb dX12_wander_194 ?_
                  have t_61 : (64 * k177_5).toInt = 64 * k177_5.toInt := g5_imul (a := 64) (b := k177_5.toInt) (by decide) (by rfl) (by omega) (by omega)
                  refine lv_aload_n hx hb dX12_wander_195 rfl (lv_at hl 3 rfl) ?_
                  refine va_get (D := G.1) (ci := 12) (v := .ref b_wn) (C := RX12) (T := TX12) (N := 52) hx hb hts inG_X12 hown hK hP 2 rfl rfl 50 (by decide) (hts _ fl_X12_104) (fun _ h9 => h9) rfl dX12_wander_196 ?_
                  refine lv_iload hx hb dX12_wander_199 (lv_at hl 1 rfl) ?_
                  refine va_iald hx hb hK hP 1 0 rfl rfl (i := k177_5) (vp_in_iff.mpr ⟨by omega, by omega⟩) dX12_wander_201 ?_
                  have hr_62 : 0 ≤ (k56_wn k177_5.toNatClampNeg).toInt ∧ (k56_wn k177_5.toNatClampNeg).toInt ≤ 63 := i_22 (k177_5.toNatClampNeg)
                  refine lv_iadd hx hb dX12_wander_202 ?_
                  have t_63 : ((64 * k177_5) + (k56_wn k177_5.toNatClampNeg)).toInt = (64 * k177_5).toInt + (k56_wn k177_5.toNatClampNeg).toInt := g5_iadd (a := (64 * k177_5).toInt) (b := (k56_wn k177_5.toNatClampNeg).toInt) (by rfl) (by rfl) (by omega) (by omega)
                  refine va_zald hx hb hK hP 7 2 rfl rfl (i := ((64 * k177_5) + (k56_wn k177_5.toNatClampNeg))) (vp_in_iff.mpr ⟨by omega, by omega⟩) dX12_wander_203 ?_
                  refine lv_if_eq (tgt := 211) hx hb dX12_wander_204 (by decide) (fun c_64 => ?_) (fun c_64 => ?_)
                  ·
                    have i_64 : (z50 ((64 * k177_5) + (k56_wn k177_5.toNatClampNeg)).toNatClampNeg).toInt = 0 := by have z := g5_eq (a := (z50 ((64 * k177_5) + (k56_wn k177_5.toNatClampNeg)).toNatClampNeg).toInt) (b := 0) (by rfl) (by decide) c_64; omega
                    refine lv_iconst (v := 0) hx hb dX12_wander_211 (by decide) ?_
                    refine lv_iadd hx hb dX12_wander_212 ?_
                    refine g5_ti (v := k177_4) (by simp) ?_
                    refine lv_istore (lv' := [(4, .int k177_4), (5, .int k177_5), (3, .int k56_3), (0, .ref b_o), (1, .int p_1), (2, .int p_2)]) hx hb dX12_wander_213 hl (by decide) rfl (fun ls hl => ?_)
                    refine lv_iinc (v := (k177_5 + 1)) (lv' := [(5, .int (k177_5 + 1)), (4, .int k177_4), (3, .int k56_3), (0, .ref b_o), (1, .int p_1), (2, .int p_2)]) hx hb dX12_wander_215 hl (k := 1) rfl rfl (by decide) rfl (fun ls hl => ?_)
                    have t_65 : (k177_5 + 1).toInt = k177_5.toInt + 1 := g5_iadd (a := k177_5.toInt) (b := 1) rfl (by decide) (by omega) (by omega)
                    refine lv_goto (tgt := 177) hx hb dX12_wander_218 (by decide) ?_
                    exact ih_177_54 ((k177_5 + 1), k177_4) ls H locs (show Int.toNat (24 - (k177_5 + 1).toInt) < Int.toNat (24 - k177_5.toInt) from g_up (show k177_5.toInt < (k177_5 + 1).toInt by omega) (show k177_5.toInt < 24 by omega)) ⟨lv_sub hl [1, 0, 2, 3, 4, 5] rfl, hP, hD, hS, ⟨by omega, by omega⟩, i_52, by omega⟩
                  ·
                    have n_64 : gNe ((z50 ((64 * k177_5) + (k56_wn k177_5.toNatClampNeg)).toNatClampNeg).toInt) (0) := by have z := g5_eqN (a := (z50 ((64 * k177_5) + (k56_wn k177_5.toNatClampNeg)).toNatClampNeg).toInt) (b := 0) (by rfl) (by decide) c_64; unfold gNe; omega
                    refine lv_iconst (v := 1) hx hb dX12_wander_207 (by decide) ?_
                    refine lv_goto (tgt := 212) hx hb dX12_wander_208 (by decide) ?_
                    refine lv_iadd hx hb dX12_wander_212 ?_
                    have t_66 : (k177_4 + 1).toInt = k177_4.toInt + 1 := g5_iadd (a := k177_4.toInt) (b := 1) (by rfl) (by decide) (by omega) (by omega)
                    refine lv_istore (lv' := [(4, .int (k177_4 + 1)), (5, .int k177_5), (3, .int k56_3), (0, .ref b_o), (1, .int p_1), (2, .int p_2)]) hx hb dX12_wander_213 hl (by decide) rfl (fun ls hl => ?_)
                    refine lv_iinc (v := (k177_5 + 1)) (lv' := [(5, .int (k177_5 + 1)), (4, .int (k177_4 + 1)), (3, .int k56_3), (0, .ref b_o), (1, .int p_1), (2, .int p_2)]) hx hb dX12_wander_215 hl (k := 1) rfl rfl (by decide) rfl (fun ls hl => ?_)
                    have t_67 : (k177_5 + 1).toInt = k177_5.toInt + 1 := g5_iadd (a := k177_5.toInt) (b := 1) rfl (by decide) (by omega) (by omega)
                    refine lv_goto (tgt := 177) hx hb dX12_wander_218 (by decide) ?_
                    exact ih_177_54 ((k177_5 + 1), (k177_4 + 1)) ls H locs (show Int.toNat (24 - (k177_5 + 1).toInt) < Int.toNat (24 - k177_5.toInt) from g_up (show k177_5.toInt < (k177_5 + 1).toInt by omega) (show k177_5.toInt < 24 by omega)) ⟨lv_sub hl [1, 0, 2, 3, 4, 5] rfl, hP, hD, hS, ⟨by omega, by omega⟩, ⟨by omega, by omega⟩, by omega⟩
              ·
                have i_27 : k56_4.toInt < 24 := by have z := g5_geN (a := k56_4.toInt) (b := 24) (by rfl) (by decide) c_27; omega
                refine lv_iload hx hb dX12_wander_63 (lv_at hl 1 rfl) ?_
                refine lv_if_le (tgt := 148) hx hb dX12_wander_65 (by decide) (fun c_68 => ?_) (fun c_68 => ?_)
                ·
                  have i_68 : k56_4.toInt ≤ 0 := by have z := g5_le (a := k56_4.toInt) (b := 0) (by rfl) (by decide) c_68; omega
                  refine lv_aload_n hx hb dX12_wander_148 rfl (lv_at hl 2 rfl) ?_
                  refine va_get (D := G.1) (ci := 12) (v := .ref b_wn) (C := RX12) (T := TX12) (N := 52) hx hb hts inG_X12 hown hK hP 6 rfl rfl 50 (by decide) (hts _ fl_X12_104) (fun _ h9 => h9) rfl dX12_wander_149 ?_
                  refine lv_iload hx hb dX12_wander_152 (lv_at hl 1 rfl) ?_
                  refine lv_iload_n hx hb dX12_wander_154 rfl (lv_at hl 0 rfl) ?_
                  refine va_iast hx hb hK hP hD hS 5 0 rfl rfl (i := k56_4) (x := k56_3) (vp_in_iff.mpr ⟨by omega, by omega⟩) dX12_wander_155 (fun H locs hP hD hS => ?_)
                  refine g5_rs [(b_rf, (arI G 7 v_rf)), (b_se, (arJ G 13 v_se)), (b_re, (arJ G 400 v_re)), (b_pt, (arI G 200 v_pt)), (b_ip, (arZ G 1536 v_ip)), (b_wn, (arI G 24 (upd k56_wn k56_4.toNatClampNeg k56_3))), (b_o, (oc12 0 u_sa b_rf b_ro b_im b_ke u_fd b_tp u_td u_fr u_to u_so u_wo u_fa u_bd u_nc b_nl u_co b_op b_ar u_le b_pi b_pa u_pd u_od b_ws b_hw u_la b_se b_re u_bk u_va u_su u_ce u_ho u_wy u_bt u_ps b_pt u_tg u_sn b_ip u_ic b_ah b_be b_me u_wd b_tr b_ld k56_st b_wn u_id)), (b_ro, (arI G 5740 v_ro))] hP hD (fun hP hD => ?_)
                  refine lv_iinc (v := (k56_4 + 1)) (lv' := [(4, .int (k56_4 + 1)), (3, .int k56_3), (0, .ref b_o), (1, .int p_1), (2, .int p_2)]) hx hb dX12_wander_156 hl (k := 1) rfl rfl (by decide) rfl (fun ls hl => ?_)
                  have t_69 : (k56_4 + 1).toInt = k56_4.toInt + 1 := g5_iadd (a := k56_4.toInt) (b := 1) rfl (by decide) (by omega) (by omega)
                  refine lv_goto (tgt := 56) hx hb dX12_wander_159 (by decide) ?_
                  exact ih_56_26 ((k56_4 + 1), k56_3, k56_st, (upd k56_wn k56_4.toNatClampNeg k56_3)) ls H locs (show Int.toNat (24 - (k56_4 + 1).toInt) < Int.toNat (24 - k56_4.toInt) from g_up (show k56_4.toInt < (k56_4 + 1).toInt by omega) (show k56_4.toInt < 24 by omega)) ⟨lv_sub hl [1, 0, 2, 3, 4] rfl, hP, hD, hS, ⟨by omega, by omega⟩, i_21, wn_upd i_22 (by omega), by rw [show (k56_4 + 1).toInt.toNat - 1 = k56_4.toInt.toNat - 1 by omega]; exact i_23, by rw [show (k56_4 + 1).toInt.toNat - 1 = k56_4.toInt.toNat - 1 by omega]; exact i_24, by rw [show (k56_4 + 1).toInt.toNat = k56_4.toInt.toNat + 1 by omega]; exact wdR_S i_25 rfl (by rw [show k56_4.toInt.toNat = k56_4.toInt.toNat - 1 by omega]; exact i_24)⟩
                ·
                  have i_68 : k56_4.toInt > 0 := by have z := g5_leN (a := k56_4.toInt) (b := 0) (by rfl) (by decide) c_68; omega
                  refine lv_aload_n hx hb dX12_wander_68 rfl (lv_at hl 2 rfl) ?_
                  refine lv_aload_n hx hb dX12_wander_69 rfl (lv_at hl 2 rfl) ?_
                  refine va_get (D := G.1) (ci := 12) (v := .long k56_st) (C := RX12) (T := TX12) (N := 52) hx hb hts inG_X12 hown hK hP 6 rfl rfl 49 (by decide) (hts _ fl_X12_469) (fun _ h9 => h9) rfl dX12_wander_70 ?_
                  refine lv_ldc2 (v := 1103) hx hb hown (hts _ kl_X12_472) dX12_wander_73 ?_
                  refine lv_lmul hx hb dX12_wander_76 ?_
                  refine lv_ldc2 (v := 12345) hx hb hown (hts _ kl_X12_474) dX12_wander_77 ?_
                  refine lv_ladd hx hb dX12_wander_80 ?_
                  refine lv_ldc2 (v := 1000003) hx hb hown (hts _ kl_X12_476) dX12_wander_81 ?_
                  refine lv_lrem hx hb dX12_wander_84 (by decide) ?_
                  refine va_put (D := G.1) (ci := 12) (v := .long (((k56_st * 1103) + 12345) - ((k56_st * 1103) + 12345) / 1000003 * 1000003)) (ty := .long) (C := RX12) (T := TX12) (N := 52) hx hb hts inG_X12 tyX12 tyX12_ok nmX12 hown hK hP hD hS 6 rfl rfl 49 (by decide) (hts _ fl_X12_469) (fun _ h9 => h9) rfl (by decide +kernel) rfl rfl (Nat.le_of_ble_eq_true rfl) dX12_wander_85 (fun H locs hP hD hS => ?_)
                  refine g5_rs [(b_rf, (arI G 7 v_rf)), (b_se, (arJ G 13 v_se)), (b_re, (arJ G 400 v_re)), (b_pt, (arI G 200 v_pt)), (b_ip, (arZ G 1536 v_ip)), (b_wn, (arI G 24 k56_wn)), (b_o, (oc12 0 u_sa b_rf b_ro b_im b_ke u_fd b_tp u_td u_fr u_to u_so u_wo u_fa u_bd u_nc b_nl u_co b_op b_ar u_le b_pi b_pa u_pd u_od b_ws b_hw u_la b_se b_re u_bk u_va u_su u_ce u_ho u_wy u_bt u_ps b_pt u_tg u_sn b_ip u_ic b_ah b_be b_me u_wd b_tr b_ld (((k56_st * 1103) + 12345) - ((k56_st * 1103) + 12345) / 1000003 * 1000003) b_wn u_id)), (b_ro, (arI G 5740 v_ro))] hP hD (fun hP hD => ?_)
                  refine lv_aload_n hx hb dX12_wander_88 rfl (lv_at hl 2 rfl) ?_
                  refine va_get (D := G.1) (ci := 12) (v := .long (((k56_st * 1103) + 12345) - ((k56_st * 1103) + 12345) / 1000003 * 1000003)) (C := RX12) (T := TX12) (N := 52) hx hb hts inG_X12 hown hK hP 6 rfl rfl 49 (by decide) (hts _ fl_X12_469) (fun _ h9 => h9) rfl dX12_wander_89 ?_
                  refine lv_ldc2 (v := 5) hx hb hown (hts _ kl_X12_154) dX12_wander_92 ?_
                  refine lv_lrem hx hb dX12_wander_95 (by decide) ?_
                  refine lv_l2i (v := ((((k56_st * 1103) + 12345) - ((k56_st * 1103) + 12345) / 1000003 * 1000003) - (((k56_st * 1103) + 12345) - ((k56_st * 1103) + 12345) / 1000003 * 1000003) / 5 * 5).toInt32) hx hb dX12_wander_96 rfl ?_
                  obtain ⟨y70, hy_70⟩ : ∃ y : Int32, ((((k56_st * 1103) + 12345) - ((k56_st * 1103) + 12345) / 1000003 * 1000003) - (((k56_st * 1103) + 12345) - ((k56_st * 1103) + 12345) / 1000003 * 1000003) / 5 * 5).toInt32 = y := ⟨_, rfl⟩
                  refine g5_ti (v := y70) hy_70 ?_
                  have hk_70 : wdK p_1.toInt64 ((k56_4.toInt.toNat - 1) + 1) = y70 := wdk_of i_23 hy_70
                  have hg_70 : 0 ≤ y70.toInt ∧ y70.toInt ≤ 4 := by rw [← hk_70]; exact wdK_rg (by rw [Int32.toInt_toInt64]; omega) (by rw [Int32.toInt_toInt64]; omega) _
                  refine lv_istore (lv' := [(5, .int y70), (3, .int k56_3), (4, .int k56_4), (0, .ref b_o), (1, .int p_1), (2, .int p_2)]) hx hb dX12_wander_97 hl (by decide) rfl (fun ls hl => ?_)
                  refine lv_iload hx hb dX12_wander_99 (lv_at hl 0 rfl) ?_
                  refine lv_iconst (v := 4) hx hb dX12_wander_101 (by decide) ?_
                  refine lv_icmp_ne (tgt := 109) hx hb dX12_wander_102 (by decide) (fun c_71 => ?_) (fun c_71 => ?_)
                  ·
                    have n_71 : gNe (y70.toInt) (4) := by have z := g5_ne (a := y70.toInt) (b := 4) (by rfl) (by decide) c_71; unfold gNe; omega
                    have i_71 : y70.toInt ≤ 3 := by have z := g5_ne (a := y70.toInt) (b := 4) (by rfl) (by decide) c_71; omega
                    refine lv_iload_n hx hb dX12_wander_109 rfl (lv_at hl 1 rfl) ?_
                    refine lv_iload hx hb dX12_wander_110 (lv_at hl 0 rfl) ?_
                    obtain ⟨hPc, hDc, hFc⟩ := g5_sub3 (wc := []) hP hD hS hA [] (by decide) rfl
                    refine va_calli (va_runS (As := [.int k56_3, .int y70]) (rest := []) ⟨hx, hb, hml, hown, hts⟩ (n_besideE l G H.size k56_3 y70 i_21 ⟨by omega, by omega⟩) (va_cwS 2 hts gS_X12_374 rfl rfl rfl hs_X12_beside ⟨Nat.le_of_ble_eq_true rfl, Nat.le_of_ble_eq_true rfl⟩) (g5_preS hPc hK hDc hN hT hS hFc) rfl rfl hl.1 rfl (lv_room (Nat.le_of_ble_eq_true rfl)) dX12_wander_112 ⟨Nat.le_of_ble_eq_true rfl, Nat.le_of_ble_eq_true rfl⟩) hS (fun q _ h => hFc q h) hFc (fun r u t H1 locs ht hvm hw hB hz1 hk1 hS => ?_)
                    obtain ⟨hP1, hD1⟩ := hB
                    rw [ht] at hP1
                    obtain ⟨z74, i_72, i_73, y75, rfl⟩ := hw
                    have i_72 : z74.toInt = bs k56_3.toInt y70.toInt := i_72
                    have i_73 : -1 ≤ z74.toInt ∧ z74.toInt ≤ 63 := i_73
                    have hP := g5_same hP hk1
                    generalize H1 = H at hP hS ⊢
                    refine g5_ti (v := z74) y75 ?_
                    refine lv_istore (lv' := [(6, .int z74), (5, .int y70), (3, .int k56_3), (4, .int k56_4), (0, .ref b_o), (1, .int p_1), (2, .int p_2)]) hx hb dX12_wander_115 hl (by decide) rfl (fun ls hl => ?_)
                    refine lv_iload hx hb dX12_wander_117 (lv_at hl 0 rfl) ?_
                    refine lv_iconst (v := (-1)) hx hb dX12_wander_119 (by decide) ?_
                    refine lv_icmp_eq (tgt := 146) hx hb dX12_wander_120 (by decide) (fun c_76 => ?_) (fun c_76 => ?_)
                    ·
                      have i_76 : z74.toInt = (-1) := by have z := g5_eq (a := z74.toInt) (b := (-1)) (by rfl) (by decide) c_76; omega
                      refine lv_iload_n hx hb dX12_wander_146 rfl (lv_at hl 2 rfl) ?_
                      refine lv_istore_n (lv' := [(3, .int k56_3), (6, .int z74), (5, .int y70), (4, .int k56_4), (0, .ref b_o), (1, .int p_1), (2, .int p_2)]) hx hb dX12_wander_147 rfl hl (by decide) rfl (fun ls hl => ?_)
                      refine lv_aload_n hx hb dX12_wander_148 rfl (lv_at hl 4 rfl) ?_
                      refine va_get (D := G.1) (ci := 12) (v := .ref b_wn) (C := RX12) (T := TX12) (N := 52) hx hb hts inG_X12 hown hK hP 6 rfl rfl 50 (by decide) (hts _ fl_X12_104) (fun _ h9 => h9) rfl dX12_wander_149 ?_
                      refine lv_iload hx hb dX12_wander_152 (lv_at hl 3 rfl) ?_
                      refine lv_iload_n hx hb dX12_wander_154 rfl (lv_at hl 0 rfl) ?_
                      refine va_iast hx hb hK hP hD hS 5 0 rfl rfl (i := k56_4) (x := k56_3) (vp_in_iff.mpr ⟨by omega, by omega⟩) dX12_wander_155 (fun H locs hP hD hS => ?_)
                      refine g5_rs [(b_rf, (arI G 7 v_rf)), (b_se, (arJ G 13 v_se)), (b_re, (arJ G 400 v_re)), (b_pt, (arI G 200 v_pt)), (b_ip, (arZ G 1536 v_ip)), (b_wn, (arI G 24 (upd k56_wn k56_4.toNatClampNeg k56_3))), (b_o, (oc12 0 u_sa b_rf b_ro b_im b_ke u_fd b_tp u_td u_fr u_to u_so u_wo u_fa u_bd u_nc b_nl u_co b_op b_ar u_le b_pi b_pa u_pd u_od b_ws b_hw u_la b_se b_re u_bk u_va u_su u_ce u_ho u_wy u_bt u_ps b_pt u_tg u_sn b_ip u_ic b_ah b_be b_me u_wd b_tr b_ld (((k56_st * 1103) + 12345) - ((k56_st * 1103) + 12345) / 1000003 * 1000003) b_wn u_id)), (b_ro, (arI G 5740 v_ro))] hP hD (fun hP hD => ?_)
                      refine lv_iinc (v := (k56_4 + 1)) (lv' := [(4, .int (k56_4 + 1)), (3, .int k56_3), (6, .int z74), (5, .int y70), (0, .ref b_o), (1, .int p_1), (2, .int p_2)]) hx hb dX12_wander_156 hl (k := 3) rfl rfl (by decide) rfl (fun ls hl => ?_)
                      have t_77 : (k56_4 + 1).toInt = k56_4.toInt + 1 := g5_iadd (a := k56_4.toInt) (b := 1) rfl (by decide) (by omega) (by omega)
                      refine lv_goto (tgt := 56) hx hb dX12_wander_159 (by decide) ?_
                      exact ih_56_26 ((k56_4 + 1), k56_3, (((k56_st * 1103) + 12345) - ((k56_st * 1103) + 12345) / 1000003 * 1000003), (upd k56_wn k56_4.toNatClampNeg k56_3)) ls H locs (show Int.toNat (24 - (k56_4 + 1).toInt) < Int.toNat (24 - k56_4.toInt) from g_up (show k56_4.toInt < (k56_4 + 1).toInt by omega) (show k56_4.toInt < 24 by omega)) ⟨lv_sub hl [1, 0, 4, 5, 6] rfl, hP, hD, hS, ⟨by omega, by omega⟩, i_21, wn_upd i_22 (by omega), by rw [show (k56_4 + 1).toInt.toNat - 1 = (k56_4.toInt.toNat - 1) + 1 by omega, wdS_S, ← i_23]; rfl, by rw [show (k56_4 + 1).toInt.toNat - 1 = (k56_4.toInt.toNat - 1) + 1 by omega]; exact (by rw [wdC_S hk_70, ← i_24, ws_n (by rw [← i_72]; omega)]), by rw [show (k56_4 + 1).toInt.toNat = k56_4.toInt.toNat + 1 by omega]; exact wdR_S i_25 rfl (by rw [show k56_4.toInt.toNat = (k56_4.toInt.toNat - 1) + 1 by omega]; exact (by rw [wdC_S hk_70, ← i_24, ws_n (by rw [← i_72]; omega)]))⟩
                    ·
                      have n_76 : gNe (z74.toInt) ((-1)) := by have z := g5_eqN (a := z74.toInt) (b := (-1)) (by rfl) (by decide) c_76; unfold gNe; omega
                      have i_76 : z74.toInt ≥ 0 := by have z := g5_eqN (a := z74.toInt) (b := (-1)) (by rfl) (by decide) c_76; omega
                      refine lv_aload_n hx hb dX12_wander_123 rfl (lv_at hl 4 rfl) ?_
                      refine lv_iload hx hb dX12_wander_124 (lv_at hl 0 rfl) ?_
                      refine lv_if_ge (tgt := 133) hx hb dX12_wander_126 (by decide) (fun c_78 => ?_) (fun c_78 => ?_)
                      ·
                        have i_78 : z74.toInt ≥ 0 := by have z := g5_ge (a := z74.toInt) (b := 0) (by rfl) (by decide) c_78; omega
                        refine lv_iload hx hb dX12_wander_133 (lv_at hl 0 rfl) ?_
                        obtain ⟨hPc, hDc, hFc⟩ := g5_sub3 (wc := [(b_o, (oc12 0 u_sa b_rf b_ro b_im b_ke u_fd b_tp u_td u_fr u_to u_so u_wo u_fa u_bd u_nc b_nl u_co b_op b_ar u_le b_pi b_pa u_pd u_od b_ws b_hw u_la b_se b_re u_bk u_va u_su u_ce u_ho u_wy u_bt u_ps b_pt u_tg u_sn b_ip u_ic b_ah b_be b_me u_wd b_tr b_ld (((k56_st * 1103) + 12345) - ((k56_st * 1103) + 12345) / 1000003 * 1000003) b_wn u_id)), (b_ro, (arI G 5740 v_ro))]) hP hD hS hA [6, 7] (by decide) rfl
                        refine va_calli (va_runV (As := [.int z74]) (rest := []) ⟨hx, hb, hml, hown, hts⟩ (n_isWallE l G b_o b_ro b_rf b_im b_ke b_tp b_nl b_op b_ar b_pi b_pa b_ws b_hw b_se b_re b_pt b_ip b_ah b_be b_me b_tr b_ld b_wn H.size 0 u_sa u_fd u_td u_fr u_to u_so u_fa u_bd u_nc u_co u_le u_pd u_od u_la u_bk u_ce u_ho u_wy u_bt u_ps u_tg u_sn u_ic u_wd u_id z74 u_wo u_va u_su (((k56_st * 1103) + 12345) - ((k56_st * 1103) + 12345) / 1000003 * 1000003) v_ro h_u_td h_u_fr h_u_to h_u_bd h_u_nc h_u_co h_u_pd h_u_la h_u_bk h_u_ce h_u_ho h_u_wy h_u_bt h_u_ps h_u_ic h_u_id ⟨by omega, by omega⟩ (r_ro)) (cwV 1 hts gV_X12_160 rfl rfl rfl hv_X12_isWall ⟨Nat.le_of_ble_eq_true rfl, Nat.le_of_ble_eq_true rfl⟩) (g5_preV hPc hK hDc hN hT hS hFc (ci := 12) (q0 := 0) rfl rfl) rfl rfl hl.1 rfl (lv_room (Nat.le_of_ble_eq_true rfl)) dX12_wander_135 ⟨Nat.le_of_ble_eq_true rfl, Nat.le_of_ble_eq_true rfl⟩) hS (fun q _ h => hFc q h) hFc (fun r u t H1 locs ht hvm hw hB hz1 hk1 hS => ?_)
                        obtain ⟨hP1, hD1⟩ := hB
                        rw [ht] at hP1
                        rcases hw with ⟨i_79, rfl, rfl⟩ | ⟨i_80, rfl, rfl⟩
                        ·
                          have i_79 : wallAt v_ro z74.toInt := i_79
                          obtain ⟨hP, hD⟩ := va_join (wr := [(b_rf, (arI G 7 v_rf)), (b_se, (arJ G 13 v_se)), (b_re, (arJ G 400 v_re)), (b_pt, (arI G 200 v_pt)), (b_ip, (arZ G 1536 v_ip)), (b_wn, (arI G 24 k56_wn))]) hP hD [6, 7] [0, 1, 2, 3, 4, 5] rfl rfl (by decide) (by decide) hk1 hFc hP1 hD1
                          generalize H1 = H at hP hS ⊢
                          refine g5_rs [(b_rf, (arI G 7 v_rf)), (b_se, (arJ G 13 v_se)), (b_re, (arJ G 400 v_re)), (b_pt, (arI G 200 v_pt)), (b_ip, (arZ G 1536 v_ip)), (b_wn, (arI G 24 k56_wn)), (b_o, (oc12 0 u_sa b_rf b_ro b_im b_ke u_fd b_tp u_td u_fr u_to u_so u_wo u_fa u_bd u_nc b_nl u_co b_op b_ar u_le b_pi b_pa u_pd u_od b_ws b_hw u_la b_se b_re u_bk u_va u_su u_ce u_ho u_wy u_bt u_ps b_pt u_tg u_sn b_ip u_ic b_ah b_be b_me u_wd b_tr b_ld (((k56_st * 1103) + 12345) - ((k56_st * 1103) + 12345) / 1000003 * 1000003) b_wn u_id)), (b_ro, (arI G 5740 v_ro))] hP hD (fun hP hD => ?_)
                          refine lv_if_ne (tgt := 146) hx hb dX12_wander_138 (by decide) (fun c_81 => ?_) (fun c_81 => ?_)
                          ·
                            refine lv_iload_n hx hb dX12_wander_146 rfl (lv_at hl 2 rfl) ?_
                            refine lv_istore_n (lv' := [(3, .int k56_3), (6, .int z74), (5, .int y70), (4, .int k56_4), (0, .ref b_o), (1, .int p_1), (2, .int p_2)]) hx hb dX12_wander_147 rfl hl (by decide) rfl (fun ls hl => ?_)
                            refine lv_aload_n hx hb dX12_wander_148 rfl (lv_at hl 4 rfl) ?_
                            refine va_get (D := G.1) (ci := 12) (v := .ref b_wn) (C := RX12) (T := TX12) (N := 52) hx hb hts inG_X12 hown hK hP 6 rfl rfl 50 (by decide) (hts _ fl_X12_104) (fun _ h9 => h9) rfl dX12_wander_149 ?_
                            refine lv_iload hx hb dX12_wander_152 (lv_at hl 3 rfl) ?_
                            refine lv_iload_n hx hb dX12_wander_154 rfl (lv_at hl 0 rfl) ?_
                            refine va_iast hx hb hK hP hD hS 5 0 rfl rfl (i := k56_4) (x := k56_3) (vp_in_iff.mpr ⟨by omega, by omega⟩) dX12_wander_155 (fun H locs hP hD hS => ?_)
                            refine g5_rs [(b_rf, (arI G 7 v_rf)), (b_se, (arJ G 13 v_se)), (b_re, (arJ G 400 v_re)), (b_pt, (arI G 200 v_pt)), (b_ip, (arZ G 1536 v_ip)), (b_wn, (arI G 24 (upd k56_wn k56_4.toNatClampNeg k56_3))), (b_o, (oc12 0 u_sa b_rf b_ro b_im b_ke u_fd b_tp u_td u_fr u_to u_so u_wo u_fa u_bd u_nc b_nl u_co b_op b_ar u_le b_pi b_pa u_pd u_od b_ws b_hw u_la b_se b_re u_bk u_va u_su u_ce u_ho u_wy u_bt u_ps b_pt u_tg u_sn b_ip u_ic b_ah b_be b_me u_wd b_tr b_ld (((k56_st * 1103) + 12345) - ((k56_st * 1103) + 12345) / 1000003 * 1000003) b_wn u_id)), (b_ro, (arI G 5740 v_ro))] hP hD (fun hP hD => ?_)
                            refine lv_iinc (v := (k56_4 + 1)) (lv' := [(4, .int (k56_4 + 1)), (3, .int k56_3), (6, .int z74), (5, .int y70), (0, .ref b_o), (1, .int p_1), (2, .int p_2)]) hx hb dX12_wander_156 hl (k := 3) rfl rfl (by decide) rfl (fun ls hl => ?_)
                            have t_82 : (k56_4 + 1).toInt = k56_4.toInt + 1 := g5_iadd (a := k56_4.toInt) (b := 1) rfl (by decide) (by omega) (by omega)
                            refine lv_goto (tgt := 56) hx hb dX12_wander_159 (by decide) ?_
                            exact ih_56_26 ((k56_4 + 1), k56_3, (((k56_st * 1103) + 12345) - ((k56_st * 1103) + 12345) / 1000003 * 1000003), (upd k56_wn k56_4.toNatClampNeg k56_3)) ls H locs (show Int.toNat (24 - (k56_4 + 1).toInt) < Int.toNat (24 - k56_4.toInt) from g_up (show k56_4.toInt < (k56_4 + 1).toInt by omega) (show k56_4.toInt < 24 by omega)) ⟨lv_sub hl [1, 0, 4, 5, 6] rfl, hP, hD, hS, ⟨by omega, by omega⟩, i_21, wn_upd i_22 (by omega), by rw [show (k56_4 + 1).toInt.toNat - 1 = (k56_4.toInt.toNat - 1) + 1 by omega, wdS_S, ← i_23]; rfl, by rw [show (k56_4 + 1).toInt.toNat - 1 = (k56_4.toInt.toNat - 1) + 1 by omega]; exact (by rw [wdC_S hk_70, ← i_24, ws_w (by rw [← i_72]; exact i_79)]), by rw [show (k56_4 + 1).toInt.toNat = k56_4.toInt.toNat + 1 by omega]; exact wdR_S i_25 rfl (by rw [show k56_4.toInt.toNat = (k56_4.toInt.toNat - 1) + 1 by omega]; exact (by rw [wdC_S hk_70, ← i_24, ws_w (by rw [← i_72]; exact i_79)]))⟩
                          ·
                            exact absurd c_81 (by decide)
                        ·
                          have i_80 : ¬ wallAt v_ro z74.toInt := i_80
                          obtain ⟨hP, hD⟩ := va_join (wr := [(b_rf, (arI G 7 v_rf)), (b_se, (arJ G 13 v_se)), (b_re, (arJ G 400 v_re)), (b_pt, (arI G 200 v_pt)), (b_ip, (arZ G 1536 v_ip)), (b_wn, (arI G 24 k56_wn))]) hP hD [6, 7] [0, 1, 2, 3, 4, 5] rfl rfl (by decide) (by decide) hk1 hFc hP1 hD1
                          generalize H1 = H at hP hS ⊢
                          refine g5_rs [(b_rf, (arI G 7 v_rf)), (b_se, (arJ G 13 v_se)), (b_re, (arJ G 400 v_re)), (b_pt, (arI G 200 v_pt)), (b_ip, (arZ G 1536 v_ip)), (b_wn, (arI G 24 k56_wn)), (b_o, (oc12 0 u_sa b_rf b_ro b_im b_ke u_fd b_tp u_td u_fr u_to u_so u_wo u_fa u_bd u_nc b_nl u_co b_op b_ar u_le b_pi b_pa u_pd u_od b_ws b_hw u_la b_se b_re u_bk u_va u_su u_ce u_ho u_wy u_bt u_ps b_pt u_tg u_sn b_ip u_ic b_ah b_be b_me u_wd b_tr b_ld (((k56_st * 1103) + 12345) - ((k56_st * 1103) + 12345) / 1000003 * 1000003) b_wn u_id)), (b_ro, (arI G 5740 v_ro))] hP hD (fun hP hD => ?_)
                          refine lv_if_ne (tgt := 146) hx hb dX12_wander_138 (by decide) (fun c_83 => ?_) (fun c_83 => ?_)
                          ·
                            exact absurd c_83 (by decide)
                          ·
                            refine lv_iload hx hb dX12_wander_141 (lv_at hl 0 rfl) ?_
                            refine lv_goto (tgt := 147) hx hb dX12_wander_143 (by decide) ?_
                            refine lv_istore_n (lv' := [(3, .int z74), (6, .int z74), (5, .int y70), (4, .int k56_4), (0, .ref b_o), (1, .int p_1), (2, .int p_2)]) hx hb dX12_wander_147 rfl hl (by decide) rfl (fun ls hl => ?_)
                            refine lv_aload_n hx hb dX12_wander_148 rfl (lv_at hl 4 rfl) ?_
                            refine va_get (D := G.1) (ci := 12) (v := .ref b_wn) (C := RX12) (T := TX12) (N := 52) hx hb hts inG_X12 hown hK hP 6 rfl rfl 50 (by decide) (hts _ fl_X12_104) (fun _ h9 => h9) rfl dX12_wander_149 ?_
                            refine lv_iload hx hb dX12_wander_152 (lv_at hl 3 rfl) ?_
                            refine lv_iload_n hx hb dX12_wander_154 rfl (lv_at hl 0 rfl) ?_
                            refine va_iast hx hb hK hP hD hS 5 0 rfl rfl (i := k56_4) (x := z74) (vp_in_iff.mpr ⟨by omega, by omega⟩) dX12_wander_155 (fun H locs hP hD hS => ?_)
                            refine g5_rs [(b_rf, (arI G 7 v_rf)), (b_se, (arJ G 13 v_se)), (b_re, (arJ G 400 v_re)), (b_pt, (arI G 200 v_pt)), (b_ip, (arZ G 1536 v_ip)), (b_wn, (arI G 24 (upd k56_wn k56_4.toNatClampNeg z74))), (b_o, (oc12 0 u_sa b_rf b_ro b_im b_ke u_fd b_tp u_td u_fr u_to u_so u_wo u_fa u_bd u_nc b_nl u_co b_op b_ar u_le b_pi b_pa u_pd u_od b_ws b_hw u_la b_se b_re u_bk u_va u_su u_ce u_ho u_wy u_bt u_ps b_pt u_tg u_sn b_ip u_ic b_ah b_be b_me u_wd b_tr b_ld (((k56_st * 1103) + 12345) - ((k56_st * 1103) + 12345) / 1000003 * 1000003) b_wn u_id)), (b_ro, (arI G 5740 v_ro))] hP hD (fun hP hD => ?_)
                            refine lv_iinc (v := (k56_4 + 1)) (lv' := [(4, .int (k56_4 + 1)), (3, .int z74), (6, .int z74), (5, .int y70), (0, .ref b_o), (1, .int p_1), (2, .int p_2)]) hx hb dX12_wander_156 hl (k := 3) rfl rfl (by decide) rfl (fun ls hl => ?_)
                            have t_84 : (k56_4 + 1).toInt = k56_4.toInt + 1 := g5_iadd (a := k56_4.toInt) (b := 1) rfl (by decide) (by omega) (by omega)
                            refine lv_goto (tgt := 56) hx hb dX12_wander_159 (by decide) ?_
                            exact ih_56_26 ((k56_4 + 1), z74, (((k56_st * 1103) + 12345) - ((k56_st * 1103) + 12345) / 1000003 * 1000003), (upd k56_wn k56_4.toNatClampNeg z74)) ls H locs (show Int.toNat (24 - (k56_4 + 1).toInt) < Int.toNat (24 - k56_4.toInt) from g_up (show k56_4.toInt < (k56_4 + 1).toInt by omega) (show k56_4.toInt < 24 by omega)) ⟨lv_sub hl [1, 0, 4, 5, 6] rfl, hP, hD, hS, ⟨by omega, by omega⟩, ⟨by omega, by omega⟩, wn_upd i_22 (by omega), by rw [show (k56_4 + 1).toInt.toNat - 1 = (k56_4.toInt.toNat - 1) + 1 by omega, wdS_S, ← i_23]; rfl, by rw [show (k56_4 + 1).toInt.toNat - 1 = (k56_4.toInt.toNat - 1) + 1 by omega]; exact (by rw [wdC_S hk_70, ← i_24, ws_y (by rw [← i_72]; omega) (by rw [← i_72]; exact i_80), ← i_72]), by rw [show (k56_4 + 1).toInt.toNat = k56_4.toInt.toNat + 1 by omega]; exact wdR_S i_25 rfl (by rw [show k56_4.toInt.toNat = (k56_4.toInt.toNat - 1) + 1 by omega]; exact (by rw [wdC_S hk_70, ← i_24, ws_y (by rw [← i_72]; omega) (by rw [← i_72]; exact i_80), ← i_72]))⟩
                      ·
                        have i_78 : z74.toInt < 0 := by have z := g5_geN (a := z74.toInt) (b := 0) (by rfl) (by decide) c_78; omega
                        omega
                  ·
                    have i_71 : y70.toInt = 4 := by have z := g5_neN (a := y70.toInt) (b := 4) (by rfl) (by decide) c_71; omega
                    refine lv_iload_n hx hb dX12_wander_105 rfl (lv_at hl 1 rfl) ?_
                    refine lv_goto (tgt := 115) hx hb dX12_wander_106 (by decide) ?_
                    refine lv_istore (lv' := [(6, .int k56_3), (5, .int y70), (3, .int k56_3), (4, .int k56_4), (0, .ref b_o), (1, .int p_1), (2, .int p_2)]) hx hb dX12_wander_115 hl (by decide) rfl (fun ls hl => ?_)
                    refine lv_iload hx hb dX12_wander_117 (lv_at hl 0 rfl) ?_
                    refine lv_iconst (v := (-1)) hx hb dX12_wander_119 (by decide) ?_
                    refine lv_icmp_eq (tgt := 146) hx hb dX12_wander_120 (by decide) (fun c_85 => ?_) (fun c_85 => ?_)
                    ·
                      have i_85 : k56_3.toInt = (-1) := by have z := g5_eq (a := k56_3.toInt) (b := (-1)) (by rfl) (by decide) c_85; omega
                      omega
                    ·
                      have n_85 : gNe (k56_3.toInt) ((-1)) := by have z := g5_eqN (a := k56_3.toInt) (b := (-1)) (by rfl) (by decide) c_85; unfold gNe; omega
                      refine lv_aload_n hx hb dX12_wander_123 rfl (lv_at hl 4 rfl) ?_
                      refine lv_iload hx hb dX12_wander_124 (lv_at hl 0 rfl) ?_
                      refine lv_if_ge (tgt := 133) hx hb dX12_wander_126 (by decide) (fun c_86 => ?_) (fun c_86 => ?_)
                      ·
                        have i_86 : k56_3.toInt ≥ 0 := by have z := g5_ge (a := k56_3.toInt) (b := 0) (by rfl) (by decide) c_86; omega
                        refine lv_iload hx hb dX12_wander_133 (lv_at hl 0 rfl) ?_
                        obtain ⟨hPc, hDc, hFc⟩ := g5_sub3 (wc := [(b_o, (oc12 0 u_sa b_rf b_ro b_im b_ke u_fd b_tp u_td u_fr u_to u_so u_wo u_fa u_bd u_nc b_nl u_co b_op b_ar u_le b_pi b_pa u_pd u_od b_ws b_hw u_la b_se b_re u_bk u_va u_su u_ce u_ho u_wy u_bt u_ps b_pt u_tg u_sn b_ip u_ic b_ah b_be b_me u_wd b_tr b_ld (((k56_st * 1103) + 12345) - ((k56_st * 1103) + 12345) / 1000003 * 1000003) b_wn u_id)), (b_ro, (arI G 5740 v_ro))]) hP hD hS hA [6, 7] (by decide) rfl
                        refine va_calli (va_runV (As := [.int k56_3]) (rest := []) ⟨hx, hb, hml, hown, hts⟩ (n_isWallE l G b_o b_ro b_rf b_im b_ke b_tp b_nl b_op b_ar b_pi b_pa b_ws b_hw b_se b_re b_pt b_ip b_ah b_be b_me b_tr b_ld b_wn H.size 0 u_sa u_fd u_td u_fr u_to u_so u_fa u_bd u_nc u_co u_le u_pd u_od u_la u_bk u_ce u_ho u_wy u_bt u_ps u_tg u_sn u_ic u_wd u_id k56_3 u_wo u_va u_su (((k56_st * 1103) + 12345) - ((k56_st * 1103) + 12345) / 1000003 * 1000003) v_ro h_u_td h_u_fr h_u_to h_u_bd h_u_nc h_u_co h_u_pd h_u_la h_u_bk h_u_ce h_u_ho h_u_wy h_u_bt h_u_ps h_u_ic h_u_id i_21 (r_ro)) (cwV 1 hts gV_X12_160 rfl rfl rfl hv_X12_isWall ⟨Nat.le_of_ble_eq_true rfl, Nat.le_of_ble_eq_true rfl⟩) (g5_preV hPc hK hDc hN hT hS hFc (ci := 12) (q0 := 0) rfl rfl) rfl rfl hl.1 rfl (lv_room (Nat.le_of_ble_eq_true rfl)) dX12_wander_135 ⟨Nat.le_of_ble_eq_true rfl, Nat.le_of_ble_eq_true rfl⟩) hS (fun q _ h => hFc q h) hFc (fun r u t H1 locs ht hvm hw hB hz1 hk1 hS => ?_)
                        obtain ⟨hP1, hD1⟩ := hB
                        rw [ht] at hP1
                        rcases hw with ⟨i_87, rfl, rfl⟩ | ⟨i_88, rfl, rfl⟩
                        ·
                          have i_87 : wallAt v_ro k56_3.toInt := i_87
                          obtain ⟨hP, hD⟩ := va_join (wr := [(b_rf, (arI G 7 v_rf)), (b_se, (arJ G 13 v_se)), (b_re, (arJ G 400 v_re)), (b_pt, (arI G 200 v_pt)), (b_ip, (arZ G 1536 v_ip)), (b_wn, (arI G 24 k56_wn))]) hP hD [6, 7] [0, 1, 2, 3, 4, 5] rfl rfl (by decide) (by decide) hk1 hFc hP1 hD1
                          generalize H1 = H at hP hS ⊢
                          refine g5_rs [(b_rf, (arI G 7 v_rf)), (b_se, (arJ G 13 v_se)), (b_re, (arJ G 400 v_re)), (b_pt, (arI G 200 v_pt)), (b_ip, (arZ G 1536 v_ip)), (b_wn, (arI G 24 k56_wn)), (b_o, (oc12 0 u_sa b_rf b_ro b_im b_ke u_fd b_tp u_td u_fr u_to u_so u_wo u_fa u_bd u_nc b_nl u_co b_op b_ar u_le b_pi b_pa u_pd u_od b_ws b_hw u_la b_se b_re u_bk u_va u_su u_ce u_ho u_wy u_bt u_ps b_pt u_tg u_sn b_ip u_ic b_ah b_be b_me u_wd b_tr b_ld (((k56_st * 1103) + 12345) - ((k56_st * 1103) + 12345) / 1000003 * 1000003) b_wn u_id)), (b_ro, (arI G 5740 v_ro))] hP hD (fun hP hD => ?_)
                          refine lv_if_ne (tgt := 146) hx hb dX12_wander_138 (by decide) (fun c_89 => ?_) (fun c_89 => ?_)
                          ·
                            refine lv_iload_n hx hb dX12_wander_146 rfl (lv_at hl 2 rfl) ?_
                            refine lv_istore_n (lv' := [(3, .int k56_3), (6, .int k56_3), (5, .int y70), (4, .int k56_4), (0, .ref b_o), (1, .int p_1), (2, .int p_2)]) hx hb dX12_wander_147 rfl hl (by decide) rfl (fun ls hl => ?_)
                            refine lv_aload_n hx hb dX12_wander_148 rfl (lv_at hl 4 rfl) ?_
                            refine va_get (D := G.1) (ci := 12) (v := .ref b_wn) (C := RX12) (T := TX12) (N := 52) hx hb hts inG_X12 hown hK hP 6 rfl rfl 50 (by decide) (hts _ fl_X12_104) (fun _ h9 => h9) rfl dX12_wander_149 ?_
                            refine lv_iload hx hb dX12_wander_152 (lv_at hl 3 rfl) ?_
                            refine lv_iload_n hx hb dX12_wander_154 rfl (lv_at hl 0 rfl) ?_
                            refine va_iast hx hb hK hP hD hS 5 0 rfl rfl (i := k56_4) (x := k56_3) (vp_in_iff.mpr ⟨by omega, by omega⟩) dX12_wander_155 (fun H locs hP hD hS => ?_)
                            refine g5_rs [(b_rf, (arI G 7 v_rf)), (b_se, (arJ G 13 v_se)), (b_re, (arJ G 400 v_re)), (b_pt, (arI G 200 v_pt)), (b_ip, (arZ G 1536 v_ip)), (b_wn, (arI G 24 (upd k56_wn k56_4.toNatClampNeg k56_3))), (b_o, (oc12 0 u_sa b_rf b_ro b_im b_ke u_fd b_tp u_td u_fr u_to u_so u_wo u_fa u_bd u_nc b_nl u_co b_op b_ar u_le b_pi b_pa u_pd u_od b_ws b_hw u_la b_se b_re u_bk u_va u_su u_ce u_ho u_wy u_bt u_ps b_pt u_tg u_sn b_ip u_ic b_ah b_be b_me u_wd b_tr b_ld (((k56_st * 1103) + 12345) - ((k56_st * 1103) + 12345) / 1000003 * 1000003) b_wn u_id)), (b_ro, (arI G 5740 v_ro))] hP hD (fun hP hD => ?_)
                            refine lv_iinc (v := (k56_4 + 1)) (lv' := [(4, .int (k56_4 + 1)), (3, .int k56_3), (6, .int k56_3), (5, .int y70), (0, .ref b_o), (1, .int p_1), (2, .int p_2)]) hx hb dX12_wander_156 hl (k := 3) rfl rfl (by decide) rfl (fun ls hl => ?_)
                            have t_90 : (k56_4 + 1).toInt = k56_4.toInt + 1 := g5_iadd (a := k56_4.toInt) (b := 1) rfl (by decide) (by omega) (by omega)
                            refine lv_goto (tgt := 56) hx hb dX12_wander_159 (by decide) ?_
                            exact ih_56_26 ((k56_4 + 1), k56_3, (((k56_st * 1103) + 12345) - ((k56_st * 1103) + 12345) / 1000003 * 1000003), (upd k56_wn k56_4.toNatClampNeg k56_3)) ls H locs (show Int.toNat (24 - (k56_4 + 1).toInt) < Int.toNat (24 - k56_4.toInt) from g_up (show k56_4.toInt < (k56_4 + 1).toInt by omega) (show k56_4.toInt < 24 by omega)) ⟨lv_sub hl [1, 0, 4, 5, 6] rfl, hP, hD, hS, ⟨by omega, by omega⟩, i_21, wn_upd i_22 (by omega), by rw [show (k56_4 + 1).toInt.toNat - 1 = (k56_4.toInt.toNat - 1) + 1 by omega, wdS_S, ← i_23]; rfl, by rw [show (k56_4 + 1).toInt.toNat - 1 = (k56_4.toInt.toNat - 1) + 1 by omega]; exact (by rw [wdC_S hk_70, ← i_24, ws_4 (bs_4 (by omega))]), by rw [show (k56_4 + 1).toInt.toNat = k56_4.toInt.toNat + 1 by omega]; exact wdR_S i_25 rfl (by rw [show k56_4.toInt.toNat = (k56_4.toInt.toNat - 1) + 1 by omega]; exact (by rw [wdC_S hk_70, ← i_24, ws_4 (bs_4 (by omega))]))⟩
                          ·
                            exact absurd c_89 (by decide)
                        ·
                          have i_88 : ¬ wallAt v_ro k56_3.toInt := i_88
                          obtain ⟨hP, hD⟩ := va_join (wr := [(b_rf, (arI G 7 v_rf)), (b_se, (arJ G 13 v_se)), (b_re, (arJ G 400 v_re)), (b_pt, (arI G 200 v_pt)), (b_ip, (arZ G 1536 v_ip)), (b_wn, (arI G 24 k56_wn))]) hP hD [6, 7] [0, 1, 2, 3, 4, 5] rfl rfl (by decide) (by decide) hk1 hFc hP1 hD1
                          generalize H1 = H at hP hS ⊢
                          refine g5_rs [(b_rf, (arI G 7 v_rf)), (b_se, (arJ G 13 v_se)), (b_re, (arJ G 400 v_re)), (b_pt, (arI G 200 v_pt)), (b_ip, (arZ G 1536 v_ip)), (b_wn, (arI G 24 k56_wn)), (b_o, (oc12 0 u_sa b_rf b_ro b_im b_ke u_fd b_tp u_td u_fr u_to u_so u_wo u_fa u_bd u_nc b_nl u_co b_op b_ar u_le b_pi b_pa u_pd u_od b_ws b_hw u_la b_se b_re u_bk u_va u_su u_ce u_ho u_wy u_bt u_ps b_pt u_tg u_sn b_ip u_ic b_ah b_be b_me u_wd b_tr b_ld (((k56_st * 1103) + 12345) - ((k56_st * 1103) + 12345) / 1000003 * 1000003) b_wn u_id)), (b_ro, (arI G 5740 v_ro))] hP hD (fun hP hD => ?_)
                          refine lv_if_ne (tgt := 146) hx hb dX12_wander_138 (by decide) (fun c_91 => ?_) (fun c_91 => ?_)
                          ·
                            exact absurd c_91 (by decide)
                          ·
                            refine lv_iload hx hb dX12_wander_141 (lv_at hl 0 rfl) ?_
                            refine lv_goto (tgt := 147) hx hb dX12_wander_143 (by decide) ?_
                            refine lv_istore_n (lv' := [(3, .int k56_3), (6, .int k56_3), (5, .int y70), (4, .int k56_4), (0, .ref b_o), (1, .int p_1), (2, .int p_2)]) hx hb dX12_wander_147 rfl hl (by decide) rfl (fun ls hl => ?_)
                            refine lv_aload_n hx hb dX12_wander_148 rfl (lv_at hl 4 rfl) ?_
                            refine va_get (D := G.1) (ci := 12) (v := .ref b_wn) (C := RX12) (T := TX12) (N := 52) hx hb hts inG_X12 hown hK hP 6 rfl rfl 50 (by decide) (hts _ fl_X12_104) (fun _ h9 => h9) rfl dX12_wander_149 ?_
                            refine lv_iload hx hb dX12_wander_152 (lv_at hl 3 rfl) ?_
                            refine lv_iload_n hx hb dX12_wander_154 rfl (lv_at hl 0 rfl) ?_
                            refine va_iast hx hb hK hP hD hS 5 0 rfl rfl (i := k56_4) (x := k56_3) (vp_in_iff.mpr ⟨by omega, by omega⟩) dX12_wander_155 (fun H locs hP hD hS => ?_)
                            refine g5_rs [(b_rf, (arI G 7 v_rf)), (b_se, (arJ G 13 v_se)), (b_re, (arJ G 400 v_re)), (b_pt, (arI G 200 v_pt)), (b_ip, (arZ G 1536 v_ip)), (b_wn, (arI G 24 (upd k56_wn k56_4.toNatClampNeg k56_3))), (b_o, (oc12 0 u_sa b_rf b_ro b_im b_ke u_fd b_tp u_td u_fr u_to u_so u_wo u_fa u_bd u_nc b_nl u_co b_op b_ar u_le b_pi b_pa u_pd u_od b_ws b_hw u_la b_se b_re u_bk u_va u_su u_ce u_ho u_wy u_bt u_ps b_pt u_tg u_sn b_ip u_ic b_ah b_be b_me u_wd b_tr b_ld (((k56_st * 1103) + 12345) - ((k56_st * 1103) + 12345) / 1000003 * 1000003) b_wn u_id)), (b_ro, (arI G 5740 v_ro))] hP hD (fun hP hD => ?_)
                            refine lv_iinc (v := (k56_4 + 1)) (lv' := [(4, .int (k56_4 + 1)), (3, .int k56_3), (6, .int k56_3), (5, .int y70), (0, .ref b_o), (1, .int p_1), (2, .int p_2)]) hx hb dX12_wander_156 hl (k := 3) rfl rfl (by decide) rfl (fun ls hl => ?_)
                            have t_92 : (k56_4 + 1).toInt = k56_4.toInt + 1 := g5_iadd (a := k56_4.toInt) (b := 1) rfl (by decide) (by omega) (by omega)
                            refine lv_goto (tgt := 56) hx hb dX12_wander_159 (by decide) ?_
                            exact ih_56_26 ((k56_4 + 1), k56_3, (((k56_st * 1103) + 12345) - ((k56_st * 1103) + 12345) / 1000003 * 1000003), (upd k56_wn k56_4.toNatClampNeg k56_3)) ls H locs (show Int.toNat (24 - (k56_4 + 1).toInt) < Int.toNat (24 - k56_4.toInt) from g_up (show k56_4.toInt < (k56_4 + 1).toInt by omega) (show k56_4.toInt < 24 by omega)) ⟨lv_sub hl [1, 0, 4, 5, 6] rfl, hP, hD, hS, ⟨by omega, by omega⟩, i_21, wn_upd i_22 (by omega), by rw [show (k56_4 + 1).toInt.toNat - 1 = (k56_4.toInt.toNat - 1) + 1 by omega, wdS_S, ← i_23]; rfl, by rw [show (k56_4 + 1).toInt.toNat - 1 = (k56_4.toInt.toNat - 1) + 1 by omega]; exact (by rw [wdC_S hk_70, ← i_24, ws_4 (bs_4 (by omega))]), by rw [show (k56_4 + 1).toInt.toNat = k56_4.toInt.toNat + 1 by omega]; exact wdR_S i_25 rfl (by rw [show k56_4.toInt.toNat = (k56_4.toInt.toNat - 1) + 1 by omega]; exact (by rw [wdC_S hk_70, ← i_24, ws_4 (bs_4 (by omega))]))⟩
                      ·
                        have i_86 : k56_3.toInt < 0 := by have z := g5_geN (a := k56_3.toInt) (b := 0) (by rfl) (by decide) c_86; omega
                        omega
            ·
              exact absurd c_19 (by decide)
        ·
          exact absurd c_11 (by decide)
      ·
        have i_10 : p_2.toInt < 0 ∨ 63 < p_2.toInt := i_10
        have hP := g5_same hP hk1
        generalize H1 = H at hP hS ⊢
        refine lv_if_ne (tgt := 30) hx hb dX12_wander_21 (by decide) (fun c_93 => ?_) (fun c_93 => ?_)
        ·
          exact absurd c_93 (by decide)
        ·
          refine lv_aload_n hx hb dX12_wander_24 rfl (lv_at hl 0 rfl) ?_
          refine lv_iconst (v := (-1)) hx hb dX12_wander_25 (by decide) ?_
          obtain ⟨hPc, hDc, hFc⟩ := g5_sub3 (wc := [(b_o, (oc12 0 u_sa b_rf b_ro b_im b_ke u_fd b_tp u_td u_fr u_to u_so u_wo u_fa u_bd u_nc b_nl u_co b_op b_ar u_le b_pi b_pa u_pd u_od b_ws b_hw u_la b_se b_re u_bk u_va u_su u_ce u_ho u_wy u_bt u_ps b_pt u_tg u_sn b_ip u_ic b_ah b_be b_me u_wd b_tr b_ld u_st b_wn u_id)), (b_rf, (arI G 7 v_rf))]) hP hD hS hA [0, 1] (by decide) rfl
          refine va_calli (va_runV (As := [.int (-1)]) (rest := []) ⟨hx, hb, hml, hown, hts⟩ (n_tell1 l G b_o b_rf b_ro b_im b_ke b_tp b_nl b_op b_ar b_pi b_pa b_ws b_hw b_se b_re b_pt b_ip b_ah b_be b_me b_tr b_ld b_wn H.size 0 u_sa u_fd u_td u_fr u_to u_so u_fa u_bd u_nc u_co u_le u_pd u_od u_la u_bk u_ce u_ho u_wy u_bt u_ps u_tg u_sn u_ic u_wd u_id u_wo u_va u_su u_st v_rf h_u_td h_u_fr h_u_to h_u_bd h_u_nc h_u_co h_u_pd h_u_la h_u_bk h_u_ce h_u_ho h_u_wy h_u_bt h_u_ps h_u_ic h_u_id) (cwV 1 hts gV_X12_125 rfl rfl rfl hv_X12_tell ⟨Nat.le_of_ble_eq_true rfl, Nat.le_of_ble_eq_true rfl⟩) (g5_preV hPc hK hDc hN hT hS hFc (ci := 12) (q0 := 0) rfl rfl) rfl rfl hl.1 rfl (lv_room (Nat.le_of_ble_eq_true rfl)) dX12_wander_26 ⟨Nat.le_of_ble_eq_true rfl, Nat.le_of_ble_eq_true rfl⟩) hS (fun q _ h => hFc q h) hFc (fun r u t H1 locs ht hvm hw hB hz1 hk1 hS => ?_)
          obtain ⟨hP1, hD1⟩ := hB
          rw [ht] at hP1
          obtain ⟨z95, z96, z97, i_94, rfl, rfl⟩ := hw
          have i_94 : 0 ≤ z96.toInt ∧ z96.toInt ≤ 1 := i_94
          obtain ⟨hP, hD⟩ := va_join (wr := [(b_ro, (arI G 5740 v_ro)), (b_se, (arJ G 13 v_se)), (b_re, (arJ G 400 v_re)), (b_pt, (arI G 200 v_pt)), (b_ip, (arZ G 1536 v_ip)), (b_wn, (arI G 24 v_wn))]) hP hD [0, 1] [2, 3, 4, 5, 6, 7] rfl rfl (by decide) (by decide) hk1 hFc hP1 hD1
          generalize H1 = H at hP hS ⊢
          refine g5_rs [(b_ro, (arI G 5740 v_ro)), (b_se, (arJ G 13 v_se)), (b_re, (arJ G 400 v_re)), (b_pt, (arI G 200 v_pt)), (b_ip, (arZ G 1536 v_ip)), (b_wn, (arI G 24 v_wn)), (b_o, (oc12 0 z95 b_rf b_ro b_im b_ke u_fd b_tp u_td u_fr u_to u_so u_wo u_fa u_bd u_nc b_nl u_co b_op b_ar u_le b_pi b_pa u_pd u_od b_ws b_hw u_la b_se b_re u_bk u_va u_su u_ce u_ho u_wy u_bt u_ps b_pt u_tg u_sn b_ip z96 b_ah b_be b_me u_wd b_tr b_ld u_st b_wn u_id)), (b_rf, (arI G 7 z97))] hP hD (fun hP hD => ?_)
          exact W.iret (v := (-1)) hx hb hr (fun t ht hW => ⟨⟨(-1), [(b_o, (oc12 0 z95 b_rf b_ro b_im b_ke u_fd b_tp u_td u_fr u_to u_so u_wo u_fa u_bd u_nc b_nl u_co b_op b_ar u_le b_pi b_pa u_pd u_od b_ws b_hw u_la b_se b_re u_bk u_va u_su u_ce u_ho u_wy u_bt u_ps b_pt u_tg u_sn b_ip z96 b_ah b_be b_me u_wd b_tr b_ld u_st b_wn u_id)), (b_rf, (arI G 7 z97)), (b_ro, (arI G 5740 v_ro)), (b_se, (arJ G 13 v_se)), (b_re, (arJ G 400 v_re)), (b_pt, (arI G 200 v_pt)), (b_ip, (arZ G 1536 v_ip)), (b_wn, (arI G 24 v_wn))], rfl, ⟨(-1), 0, z95, u_la, u_bk, u_va, u_su, u_ce, u_ho, u_wy, u_bt, u_ps, u_tg, u_sn, z96, u_st, u_id, z97, v_se, v_re, v_pt, v_ip, v_wn, h_u_la, h_u_bk, h_u_ce, h_u_ho, h_u_wy, h_u_bt, h_u_ps, r_pt, i_94, r_wn, h_u_id, (wand_1 (f := v_ro) (g := v_wn) (n := u_id) (s := p_1) (c := p_2) (fun q => by unfold okD at q; omega)).1.symm, (wand_1 (f := v_ro) (g := v_wn) (n := u_id) (s := p_1) (c := p_2) (fun q => by unfold okD at q; omega)).2.symm, rfl, rfl⟩, by rw [ht]; exact hP.sub [6, 7, 0, 1, 2, 3, 4, 5] rfl, hD.sub [6, 7, 0, 1, 2, 3, 4, 5] (by decide) rfl⟩, hS.F ht⟩) hS.2.2 dX12_wander_29
set_option maxHeartbeats 4000000 in
set_option maxRecDepth 100000 in
theorem n_drawnE (l : Launch) (G : g5_G) (b_o b_wn b_rf b_ro b_im b_ke b_tp b_nl b_op b_ar b_pi b_pa b_ws b_hw b_se b_re b_pt b_ip b_ah b_be b_me b_tr b_ld : Nat) (sz : Nat) (u_th : Int32) (u_sa : Int32) (u_fd : Int32) (u_td : Int32) (u_fr : Int32) (u_to : Int32) (u_so : Int32) (u_fa : Int32) (u_bd : Int32) (u_nc : Int32) (u_co : Int32) (u_le : Int32) (u_pd : Int32) (u_od : Int32) (u_la : Int32) (u_bk : Int32) (u_ce : Int32) (u_ho : Int32) (u_wy : Int32) (u_bt : Int32) (u_ps : Int32) (u_tg : Int32) (u_sn : Int32) (u_ic : Int32) (u_wd : Int32) (u_id : Int32) (p_1 : Int32) (u_wo : Int64) (u_va : Int64) (u_su : Int64) (u_st : Int64) (v_wn : Nat → Int32) (h_u_td : 0 ≤ u_td.toInt ∧ u_td.toInt ≤ 400) (h_u_fr : 0 ≤ u_fr.toInt ∧ u_fr.toInt ≤ 400) (h_u_to : 0 ≤ u_to.toInt ∧ u_to.toInt ≤ 400) (h_u_bd : 0 ≤ u_bd.toInt ∧ u_bd.toInt ≤ 1) (h_u_nc : 0 ≤ u_nc.toInt ∧ u_nc.toInt ≤ 12) (h_u_co : 0 ≤ u_co.toInt ∧ u_co.toInt ≤ 400) (h_u_pd : 0 ≤ u_pd.toInt ∧ u_pd.toInt ≤ 400) (h_u_la : 0 ≤ u_la.toInt ∧ u_la.toInt ≤ 4840) (h_u_bk : 0 ≤ u_bk.toInt ∧ u_bk.toInt ≤ 1) (h_u_ce : 0 ≤ u_ce.toInt ∧ u_ce.toInt ≤ 63) (h_u_ho : 0 ≤ u_ho.toInt ∧ u_ho.toInt ≤ 23) (h_u_wy : 0 ≤ u_wy.toInt ∧ u_wy.toInt ≤ 3) (h_u_bt : 0 ≤ u_bt.toInt ∧ u_bt.toInt ≤ 1000000) (h_u_ps : 0 ≤ u_ps.toInt ∧ u_ps.toInt ≤ 200) (h_u_ic : 0 ≤ u_ic.toInt ∧ u_ic.toInt ≤ 1) (h_u_id : 0 ≤ u_id.toInt ∧ u_id.toInt ≤ 1) (r_wn : WNI v_wn) : Met l yX12_drawn (wsG yX12_drawn cX12_drawn 2 (some .int)) ({ frames := 2, cells := 0, slots := 0, locals := 45 }) (va_Pc [.ref b_o, .int p_1] (g5_P G [(b_o, (oc12 u_th u_sa b_rf b_ro b_im b_ke u_fd b_tp u_td u_fr u_to u_so u_wo u_fa u_bd u_nc b_nl u_co b_op b_ar u_le b_pi b_pa u_pd u_od b_ws b_hw u_la b_se b_re u_bk u_va u_su u_ce u_ho u_wy u_bt u_ps b_pt u_tg u_sn b_ip u_ic b_ah b_be b_me u_wd b_tr b_ld u_st b_wn u_id)), (b_wn, (arI G 24 v_wn))] sz)) (va_Qi (fun (r : Int32) (u : va_W) => (∃ (o_r : Int32) (o_th : Int32), (o_r = adrawn v_wn u_id p_1) ∧ (r = o_r) ∧ (u = [(b_o, (oc12 o_th u_sa b_rf b_ro b_im b_ke u_fd b_tp u_td u_fr u_to u_so u_wo u_fa u_bd u_nc b_nl u_co b_op b_ar u_le b_pi b_pa u_pd u_od b_ws b_hw u_la b_se b_re u_bk u_va u_su u_ce u_ho u_wy u_bt u_ps b_pt u_tg u_sn b_ip u_ic b_ah b_be b_me u_wd b_tr b_ld u_st b_wn u_id)), (b_wn, (arI G 24 v_wn))]))) (g5_B G (va_A [(b_o, (oc12 u_th u_sa b_rf b_ro b_im b_ke u_fd b_tp u_td u_fr u_to u_so u_wo u_fa u_bd u_nc b_nl u_co b_op b_ar u_le b_pi b_pa u_pd u_od b_ws b_hw u_la b_se b_re u_bk u_va u_su u_ce u_ho u_wy u_bt u_ps b_pt u_tg u_sn b_ip u_ic b_ah b_be b_me u_wd b_tr b_ld u_st b_wn u_id)), (b_wn, (arI G 24 v_wn))] sz)) (va_A [(b_o, (oc12 u_th u_sa b_rf b_ro b_im b_ke u_fd b_tp u_td u_fr u_to u_so u_wo u_fa u_bd u_nc b_nl u_co b_op b_ar u_le b_pi b_pa u_pd u_od b_ws b_hw u_la b_se b_re u_bk u_va u_su u_ce u_ho u_wy u_bt u_ps b_pt u_tg u_sn b_ip u_ic b_ah b_be b_me u_wd b_tr b_ld u_st b_wn u_id)), (b_wn, (arI G 24 v_wn))] sz)) 0 0 (va_A [(b_o, (oc12 u_th u_sa b_rf b_ro b_im b_ke u_fd b_tp u_td u_fr u_to u_so u_wo u_fa u_bd u_nc b_nl u_co b_op b_ar u_le b_pi b_pa u_pd u_od b_ws b_hw u_la b_se b_re u_bk u_va u_su u_ce u_ho u_wy u_bt u_ps b_pt u_tg u_sn b_ip u_ic b_ah b_be b_me u_wd b_tr b_ld u_st b_wn u_id)), (b_wn, (arI G 24 v_wn))] sz) := by
  refine Met.ofW (cc := cX12_drawn) (maxL := 2) (ret := (some .int)) (by decide) rfl ?_
  intro p e s m args below meth c s₁ B hml hv
  obtain ⟨rfl, hsz, hP, hK, hD0, hN, hT⟩ := hv
  have hx := B.exec
  have hb := B.bytes
  have hr := B.returns
  have hts : ∀ w ∈ tblG, w.before _ s = true := fun w h => atoms_spec (ws := (wsG yX12_drawn cX12_drawn 2 (some .int))) B.pre w (List.mem_cons_of_mem _ h)
  have hown : s.vm.findClass RX12 = some m.cls := findClass_of_methodNamed B.named
  have hlocks := B.notSynchronized
  subst hsz
  have hD := hD0.self (sz := s.heap.size)
  generalize hAe : va_A [(b_o, (oc12 u_th u_sa b_rf b_ro b_im b_ke u_fd b_tp u_td u_fr u_to u_so u_wo u_fa u_bd u_nc b_nl u_co b_op b_ar u_le b_pi b_pa u_pd u_od b_ws b_hw u_la b_se b_re u_bk u_va u_su u_ce u_ho u_wy u_bt u_ps b_pt u_tg u_sn b_ip u_ic b_ah b_be b_me u_wd b_tr b_ld u_st b_wn u_id)), (b_wn, (arI G 24 v_wn))] s.heap.size = A at hD hT ⊢
  have hA : ∀ q : Nat, s.heap.size ≤ q → A q := fun q h => by rw [← hAe]; exact Or.inr h
  have hS : va_S A s.heap s.heap [] := va_S.rf
  have hP : va_P G.1 vwCl [(b_o, (oc12 u_th u_sa b_rf b_ro b_im b_ke u_fd b_tp u_td u_fr u_to u_so u_wo u_fa u_bd u_nc b_nl u_co b_op b_ar u_le b_pi b_pa u_pd u_od b_ws b_hw u_la b_se b_re u_bk u_va u_su u_ce u_ho u_wy u_bt u_ps b_pt u_tg u_sn b_ip u_ic b_ah b_be b_me u_wd b_tr b_ld u_st b_wn u_id)), (b_wn, (arI G 24 v_wn))] s.heap := hP
  have hl := lv_entry ([.ref b_o, .int p_1]) (n := 2) (Nat.le_of_ble_eq_true rfl)
  rw [lg_entry_eq]
  generalize (lg_sl ([.ref b_o, .int p_1]) ++ List.replicate (2 - (lg_sl ([.ref b_o, .int p_1])).length) Slot.unset).toArray = ls at hl ⊢
  have hl : lv_has ls 2 [(0, .ref b_o), (1, .int p_1)] := hl
  refine lv_aload_n hx hb dX12_drawn_0 rfl (lv_at hl 0 rfl) ?_
  refine lv_iconst (v := 0) hx hb dX12_drawn_1 (by decide) ?_
  refine va_put (D := G.1) (ci := 12) (v := .int 0) (ty := .int) (C := RX12) (T := TX12) (N := 52) hx hb hts inG_X12 tyX12 tyX12_ok nmX12 hown hK hP hD hS 0 rfl rfl 0 (by decide) (hts _ fl_X12_107) (fun _ h9 => h9) rfl (by decide +kernel) rfl rfl (Nat.le_of_ble_eq_true rfl) dX12_drawn_2 (fun H locs hP hD hS => ?_)
  refine g5_rs [(b_o, (oc12 0 u_sa b_rf b_ro b_im b_ke u_fd b_tp u_td u_fr u_to u_so u_wo u_fa u_bd u_nc b_nl u_co b_op b_ar u_le b_pi b_pa u_pd u_od b_ws b_hw u_la b_se b_re u_bk u_va u_su u_ce u_ho u_wy u_bt u_ps b_pt u_tg u_sn b_ip u_ic b_ah b_be b_me u_wd b_tr b_ld u_st b_wn u_id)), (b_wn, (arI G 24 v_wn))] hP hD (fun hP hD => ?_)
  refine lv_aload_n hx hb dX12_drawn_5 rfl (lv_at hl 0 rfl) ?_
  refine va_get (D := G.1) (ci := 12) (v := .int u_id) (C := RX12) (T := TX12) (N := 52) hx hb hts inG_X12 hown hK hP 0 rfl rfl 51 (by decide) (hts _ fl_X12_478) (fun _ h9 => h9) rfl dX12_drawn_6 ?_
  refine lv_if_eq (tgt := 28) hx hb dX12_drawn_9 (by decide) (fun c_1 => ?_) (fun c_1 => ?_)
  ·
    have i_1 : u_id.toInt = 0 := by have z := g5_eq (a := u_id.toInt) (b := 0) (by rfl) (by decide) c_1; omega
    refine lv_iconst (v := (-1)) hx hb dX12_drawn_28 (by decide) ?_
    exact W.iret (v := (-1)) hx hb hr (fun t ht hW => ⟨⟨(-1), [(b_o, (oc12 0 u_sa b_rf b_ro b_im b_ke u_fd b_tp u_td u_fr u_to u_so u_wo u_fa u_bd u_nc b_nl u_co b_op b_ar u_le b_pi b_pa u_pd u_od b_ws b_hw u_la b_se b_re u_bk u_va u_su u_ce u_ho u_wy u_bt u_ps b_pt u_tg u_sn b_ip u_ic b_ah b_be b_me u_wd b_tr b_ld u_st b_wn u_id)), (b_wn, (arI G 24 v_wn))], rfl, ⟨(-1), 0, (cif_f (fun q => by have q1 := q.1; have q2 := q.2; omega)).symm, rfl, rfl⟩, by rw [ht]; exact hP.sub [0, 1] rfl, hD.sub [0, 1] (by decide) rfl⟩, hS.F ht⟩) hS.2.2 dX12_drawn_29
  ·
    have n_1 : gNe (u_id.toInt) (0) := by have z := g5_eqN (a := u_id.toInt) (b := 0) (by rfl) (by decide) c_1; unfold gNe; omega
    have i_1 : u_id.toInt ≥ 1 := by have z := g5_eqN (a := u_id.toInt) (b := 0) (by rfl) (by decide) c_1; omega
    refine lv_iload_n hx hb dX12_drawn_12 rfl (lv_at hl 1 rfl) ?_
    obtain ⟨hPc, hDc, hFc⟩ := g5_sub3 (wc := []) hP hD hS hA [] (by decide) rfl
    refine va_calli (va_runS (As := [.int p_1]) (rest := []) ⟨hx, hb, hml, hown, hts⟩ (n_isHourE l G H.size p_1) (va_cwS 1 hts gS_X12_175 rfl rfl rfl hs_X12_isHour ⟨Nat.le_of_ble_eq_true rfl, Nat.le_of_ble_eq_true rfl⟩) (g5_preS hPc hK hDc hN hT hS hFc) rfl rfl hl.1 rfl (lv_room (Nat.le_of_ble_eq_true rfl)) dX12_drawn_13 ⟨Nat.le_of_ble_eq_true rfl, Nat.le_of_ble_eq_true rfl⟩) hS (fun q _ h => hFc q h) hFc (fun r u t H1 locs ht hvm hw hB hz1 hk1 hS => ?_)
    obtain ⟨hP1, hD1⟩ := hB
    rw [ht] at hP1
    rcases hw with ⟨i_2, rfl, rfl⟩ | ⟨i_3, rfl, rfl⟩
    ·
      have i_2 : 0 ≤ p_1.toInt ∧ p_1.toInt ≤ 23 := i_2
      have hP := g5_same hP hk1
      generalize H1 = H at hP hS ⊢
      refine lv_if_eq (tgt := 28) hx hb dX12_drawn_16 (by decide) (fun c_4 => ?_) (fun c_4 => ?_)
      ·
        exact absurd c_4 (by decide)
      ·
        refine lv_aload_n hx hb dX12_drawn_19 rfl (lv_at hl 0 rfl) ?_
        refine va_get (D := G.1) (ci := 12) (v := .ref b_wn) (C := RX12) (T := TX12) (N := 52) hx hb hts inG_X12 hown hK hP 0 rfl rfl 50 (by decide) (hts _ fl_X12_104) (fun _ h9 => h9) rfl dX12_drawn_20 ?_
        refine lv_iload_n hx hb dX12_drawn_23 rfl (lv_at hl 1 rfl) ?_
        refine va_iald hx hb hK hP 1 0 rfl rfl (i := p_1) (vp_in_iff.mpr ⟨by omega, by omega⟩) dX12_drawn_24 ?_
        have hr_5 : 0 ≤ (v_wn p_1.toNatClampNeg).toInt ∧ (v_wn p_1.toNatClampNeg).toInt ≤ 63 := r_wn (p_1.toNatClampNeg)
        refine lv_goto (tgt := 29) hx hb dX12_drawn_25 (by decide) ?_
        exact W.iret (v := (v_wn p_1.toNatClampNeg)) hx hb hr (fun t ht hW => ⟨⟨(v_wn p_1.toNatClampNeg), [(b_o, (oc12 0 u_sa b_rf b_ro b_im b_ke u_fd b_tp u_td u_fr u_to u_so u_wo u_fa u_bd u_nc b_nl u_co b_op b_ar u_le b_pi b_pa u_pd u_od b_ws b_hw u_la b_se b_re u_bk u_va u_su u_ce u_ho u_wy u_bt u_ps b_pt u_tg u_sn b_ip u_ic b_ah b_be b_me u_wd b_tr b_ld u_st b_wn u_id)), (b_wn, (arI G 24 v_wn))], rfl, ⟨(v_wn p_1.toNatClampNeg), 0, (cif_t ⟨by omega, by omega, by omega⟩).symm, rfl, rfl⟩, by rw [ht]; exact hP.sub [0, 1] rfl, hD.sub [0, 1] (by decide) rfl⟩, hS.F ht⟩) hS.2.2 dX12_drawn_29
    ·
      have i_3 : p_1.toInt < 0 ∨ 23 < p_1.toInt := i_3
      have hP := g5_same hP hk1
      generalize H1 = H at hP hS ⊢
      refine lv_if_eq (tgt := 28) hx hb dX12_drawn_16 (by decide) (fun c_6 => ?_) (fun c_6 => ?_)
      ·
        refine lv_iconst (v := (-1)) hx hb dX12_drawn_28 (by decide) ?_
        exact W.iret (v := (-1)) hx hb hr (fun t ht hW => ⟨⟨(-1), [(b_o, (oc12 0 u_sa b_rf b_ro b_im b_ke u_fd b_tp u_td u_fr u_to u_so u_wo u_fa u_bd u_nc b_nl u_co b_op b_ar u_le b_pi b_pa u_pd u_od b_ws b_hw u_la b_se b_re u_bk u_va u_su u_ce u_ho u_wy u_bt u_ps b_pt u_tg u_sn b_ip u_ic b_ah b_be b_me u_wd b_tr b_ld u_st b_wn u_id)), (b_wn, (arI G 24 v_wn))], rfl, ⟨(-1), 0, (cif_f (fun q => by have q1 := q.1; have q2 := q.2; omega)).symm, rfl, rfl⟩, by rw [ht]; exact hP.sub [0, 1] rfl, hD.sub [0, 1] (by decide) rfl⟩, hS.F ht⟩) hS.2.2 dX12_drawn_29
      ·
        exact absurd c_6 (by decide)
/-! worlds in any order; laws in a pool -/
theorem va_P.perm {D : va_G} {cl : List vw_C} {ws ws' : va_W} {H : Heap} (h : va_P D cl ws H) (p : ws.Perm ws') : va_P D cl ws' H := by
  intro k q hk
  obtain ⟨i, hi⟩ := List.getElem?_of_mem (p.mem_iff.mpr (List.mem_of_getElem? hk))
  exact h i q hi
theorem va_D.nd {A : Nat → Prop} {ws : va_W} (h : va_D A ws) : (ws.map Prod.fst).Nodup := by
  rw [List.nodup_iff_pairwise_ne, List.pairwise_iff_getElem]
  intro i j hi hj hij e
  rw [List.length_map] at hi hj
  rw [List.getElem_map, List.getElem_map] at e
  have z := h.1 i j ws[i] ws[j] (List.getElem?_eq_getElem hi) (List.getElem?_eq_getElem hj) e
  omega
theorem va_D.ofNd {A : Nat → Prop} {ws : va_W} (h1 : (ws.map Prod.fst).Nodup) (h2 : ∀ q ∈ ws, A q.1) : va_D A ws := by
  refine ⟨fun i j p q hi hj e => ?_, fun k q hk => h2 q (List.mem_of_getElem? hk)⟩
  rw [List.nodup_iff_pairwise_ne, List.pairwise_iff_getElem] at h1
  obtain ⟨li, ei⟩ := List.getElem?_eq_some_iff.mp hi
  obtain ⟨lj, ej⟩ := List.getElem?_eq_some_iff.mp hj
  have li2 : i < (ws.map Prod.fst).length := by rw [List.length_map]; exact li
  have lj2 : j < (ws.map Prod.fst).length := by rw [List.length_map]; exact lj
  have e2 : (ws.map Prod.fst)[i] = (ws.map Prod.fst)[j] := by rw [List.getElem_map, List.getElem_map, ei, ej]; exact e
  rcases Nat.lt_trichotomy i j with z | z | z
  · exact absurd e2 (h1 i j li2 lj2 z)
  · exact z
  · exact absurd e2.symm (h1 j i lj2 li2 z)
theorem va_D.perm {A : Nat → Prop} {ws ws' : va_W} (h : va_D A ws) (p : ws.Perm ws') : va_D A ws' :=
  va_D.ofNd ((p.map Prod.fst).nodup h.nd) (fun q hq => by
    obtain ⟨i, hi⟩ := List.getElem?_of_mem (p.mem_iff.mpr hq)
    exact h.2 i q hi)
theorem va_P.fst {D : va_G} {cl : List vw_C} {a b : va_W} {H : Heap} (h : va_P D cl (a ++ b) H) : va_P D cl a H :=
  fun k q hk => h k q (by rw [List.getElem?_append_left (List.getElem?_eq_some_iff.mp hk).1]; exact hk)
theorem va_D.fst {A : Nat → Prop} {a b : va_W} (h : va_D A (a ++ b)) : va_D A a :=
  ⟨fun i j p q hi hj e => h.1 i j p q (by rw [List.getElem?_append_left (List.getElem?_eq_some_iff.mp hi).1]; exact hi) (by rw [List.getElem?_append_left (List.getElem?_eq_some_iff.mp hj).1]; exact hj) e, fun k q hk => h.2 k q (by rw [List.getElem?_append_left (List.getElem?_eq_some_iff.mp hk).1]; exact hk)⟩
/-- a law: its addresses, its numbers, its rows -/
abbrev LR : Type := (Nat × Nat × Nat × Nat) × (Int32 × Nat × Nat × Nat) × ((Nat → Int32) × (Nat → Int32) × (Nat → Int32))
def lcell (G : g5_G) (r : LR) : va_W := [(r.1.1, .inr (3, [.int r.2.1.1, .ref r.1.2.1, .ref r.1.2.2.1, .ref r.1.2.2.2])), (r.1.2.2.1, .inl (G.2 0, r.2.1.2.2.1, .inl r.2.2.2.1)), (r.1.2.2.2, .inl (G.2 0, r.2.1.2.2.2, .inl r.2.2.2.2)), (r.1.2.1, .inl (G.2 0, r.2.1.2.1, .inl r.2.2.1))]
def lok (r : LR) : Prop := (0 ≤ r.2.1.1.toInt ∧ r.2.1.1.toInt ≤ 12) ∧ r.2.1.2.2.2 ≤ 400 ∧ (∀ j : Nat, j < r.2.1.2.2.1 → 0 ≤ (r.2.2.2.1 j).toInt ∧ (r.2.2.2.1 j).toInt ≤ (r.2.1.2.2.2 : Int)) ∧ (∀ j : Nat, j < r.2.1.2.2.2 → (r.2.2.2.2 j >>> (12 &&& 31)).toInt = 1 → (r.2.2.2.2 j &&& 4095).toInt < 8) ∧ ((r.2.1.1.toInt : Int) ≤ (r.2.1.2.1 : Int) ∧ (r.2.1.1.toInt + 1 : Int) ≤ (r.2.1.2.2.1 : Int))
def pflat (G : g5_G) (L : List LR) : va_W := L.flatMap (lcell G)
def LOK (L : List LR) : Prop := ∀ r ∈ L, lok r
theorem pool_take {G : g5_G} {a pl : va_W} {pre post : List LR} {r : LR} : (a ++ (pl ++ pflat G (pre ++ r :: post))).Perm ((a ++ lcell G r) ++ (pl ++ (pflat G pre ++ pflat G post))) := by
  have e : pflat G (pre ++ r :: post) = pflat G pre ++ (lcell G r ++ pflat G post) := by
    unfold pflat; rw [List.flatMap_append, List.flatMap_cons]
  rw [e, List.append_assoc]
  refine List.Perm.append_left a ?_
  exact (List.Perm.append_left pl (List.perm_append_comm_assoc (pflat G pre) (lcell G r) (pflat G post))).trans (List.perm_append_comm_assoc pl (lcell G r) (pflat G pre ++ pflat G post))
theorem pool_put {G : g5_G} {a pl : va_W} {L : List LR} {r : LR} : ((a ++ lcell G r) ++ (pl ++ pflat G L)).Perm (a ++ (pl ++ pflat G (r :: L))) := by
  have e : pflat G (r :: L) = lcell G r ++ pflat G L := by
    unfold pflat; rw [List.flatMap_cons]
  rw [e, List.append_assoc]
  exact List.Perm.append_left a (List.perm_append_comm_assoc (lcell G r) pl (pflat G L))
/-- what a house's row of laws refers to -/
def LWS (L : List LR) (f : Nat → Option Nat) (lc fo : Int32) : Prop := (0 ≤ lc.toInt ∧ lc.toInt ≤ 6) ∧ (-1 ≤ fo.toInt ∧ fo.toInt < lc.toInt) ∧ (∀ j v : Nat, j < 6 → f j = some v → ∃ r ∈ L, r.1.1 = v) ∧ (∀ j : Nat, (j : Int) < lc.toInt → ∃ v : Nat, f j = some v)
theorem lws_for {L : List LR} {f : Nat → Option Nat} {lc fo : Int32} (h : LWS L f lc fo) (h0 : 0 ≤ fo.toInt) : ∃ r ∈ L, f fo.toNatClampNeg = some r.1.1 := by
  obtain ⟨a, b, c, d⟩ := h
  have z := g5_clamp fo
  obtain ⟨v, hv⟩ := d fo.toNatClampNeg (by omega)
  obtain ⟨r, hr, e⟩ := c fo.toNatClampNeg v (by omega) hv
  exact ⟨r, hr, by rw [e]; exact hv⟩
theorem lws_force {L : List LR} {f : Nat → Option Nat} {lc fo fo' : Int32} (h : LWS L f lc fo) (e : -1 ≤ fo'.toInt ∧ fo'.toInt < lc.toInt) : LWS L f lc fo' := ⟨h.1, e, h.2.2.1, h.2.2.2⟩
theorem lws_copy {L : List LR} {f g : Nat → Option Nat} {lc fo : Int32} (h : LWS L f lc fo) (e : ∀ j : Nat, j < 6 → g j = f j) : LWS L g lc fo := by
  obtain ⟨a, b, c, d⟩ := h
  exact ⟨a, b, fun j v hj hv => c j v hj (by rw [← e j hj]; exact hv), fun j hj => by rw [e j (by omega)]; exact d j hj⟩
theorem lws_up {L : List LR} {f : Nat → Option Nat} {lc fo : Int32} {r : LR} (h : LWS L f lc fo) : LWS (r :: L) f lc fo := by
  obtain ⟨a, b, c, d⟩ := h
  exact ⟨a, b, fun j v hj hv => by obtain ⟨q, hq, e⟩ := c j v hj hv; exact ⟨q, List.mem_cons_of_mem _ hq, e⟩, d⟩
theorem lws_new {L : List LR} {f : Nat → Option Nat} {lc lc' fo : Int32} {r : LR} (h : LWS L f lc fo) (e : 0 ≤ lc.toInt ∧ lc'.toInt = lc.toInt + 1 ∧ lc'.toInt ≤ 6) : LWS (r :: L) (va_up f lc.toNatClampNeg (some r.1.1)) lc' fo := by
  obtain ⟨a, b, c, d⟩ := lws_up (r := r) h
  have z := g5_clamp lc
  refine ⟨by omega, by omega, fun j v hj hv => ?_, fun j hj => ?_⟩
  · unfold va_up at hv
    by_cases q : j = lc.toNatClampNeg
    · rw [if_pos q] at hv
      exact ⟨r, List.mem_cons_self, by cases hv; rfl⟩
    · rw [if_neg q] at hv
      exact c j v hj hv
  · unfold va_up
    by_cases q : j = lc.toNatClampNeg
    · rw [if_pos q]; exact ⟨_, rfl⟩
    · rw [if_neg q]; exact d j (by omega)
theorem lws_0 {L : List LR} {f : Nat → Option Nat} {lc fo : Int32} (hl : lc.toInt = 0) (hf : fo.toInt = -1) (e : ∀ j : Nat, j < 6 → f j = none) : LWS L f lc fo :=
  ⟨by omega, by omega, fun j v hj hv => (by rw [e j hj] at hv; cases hv), fun j hj => absurd hj (by omega)⟩
/-- a law of the pool, seen by a call that has none of its cells -/
theorem pflat_at {G : g5_G} {L : List LR} {r : LR} (h : r ∈ L) : (r.1.1, (.inr (3, [.int r.2.1.1, .ref r.1.2.1, .ref r.1.2.2.1, .ref r.1.2.2.2]) : va_E)) ∈ pflat G L := by
  unfold pflat
  refine List.mem_flatMap.mpr ⟨r, h, ?_⟩
  unfold lcell
  exact List.mem_cons_self
theorem law_out {G : g5_G} {s : State} {A : Nat → Prop} {X wc pl : va_W} {L : List LR} {r : LR} {H : Heap} (hK : va_K G.1 vwCl (T5 G) s) (hP : va_P G.1 vwCl (X ++ (pl ++ pflat G L)) H) (hD : va_D A (X ++ (pl ++ pflat G L))) (isC : List Nat) (hC : isC.map (fun i => X[i]?) = wc.map some) (hr : r ∈ L) : ∃ cell : Cell, H[r.1.1]? = some cell ∧ cell.vm.isStatics = false ∧ s.vm.findClass "LateGlass$Law" = some cell.cls ∧ ¬ va_A wc H.size r.1.1 := by
  have hm := pflat_at (G := G) hr
  obtain ⟨k0, hk0⟩ := List.getElem?_of_mem (List.mem_append_right X (List.mem_append_right pl hm))
  obtain ⟨k1, hk1⟩ := List.getElem?_of_mem (List.mem_append_right pl hm)
  have hk2 : (X ++ (pl ++ pflat G L))[X.length + k1]? = some (r.1.1, (.inr (3, [.int r.2.1.1, .ref r.1.2.1, .ref r.1.2.2.1, .ref r.1.2.2.2]) : va_E)) := by
    rw [List.getElem?_append_right (by omega), show X.length + k1 - X.length = k1 by omega]; exact hk1
  obtain ⟨cell, h1, h2, h3⟩ := va_recv hK hP (show vwCl[3]? = some (RX3, TX3, 4) from rfl) hk2
  refine ⟨cell, h1, h2, h3, fun h => ?_⟩
  rcases h with ⟨k, e, h⟩ | h
  · obtain ⟨i, h5, h6⟩ := va_in_of isC hC h
    have hi : i < X.length := (List.getElem?_eq_some_iff.mp h6).1
    have h7 : (X ++ (pl ++ pflat G L))[i]? = some (r.1.1, e) := by rw [List.getElem?_append_left hi]; exact h6
    have z := hD.1 _ _ _ _ h7 hk2 rfl
    omega
  · have z := (Array.getElem?_eq_some_iff.mp h1).1
    omega
theorem g5_preVP {G : g5_G} {f : Nat → Option Nat} {s : State} {H : Heap} {locs : List Loc} {A : Nat → Prop} {wc X pl : va_W} {L : List LR} {lc fo : Int32} {b : Nat} {As : List Value} {C : String} {T : u_T} {N ci q0 : Nat} {fs : List Value} (hP : va_P G.1 vwCl wc H) (hK : va_K G.1 vwCl (T5 G) s) (hD : va_D A wc) (hN : g5_N s) (hT : g5_S A s s.heap) (hS : va_S A s.heap H locs) (hF : ∀ q, va_A wc H.size q → A q) (hPX : va_P G.1 vwCl (X ++ (pl ++ pflat G L)) H) (hDX : va_D A (X ++ (pl ++ pflat G L))) (isC : List Nat) (hC : isC.map (fun i => X[i]?) = wc.map some) (hL : LWS L f lc fo) (he : wc[q0]? = some (b, .inr (ci, fs))) (hc : vwCl[ci]? = some (C, T, N)) : PreV s H C b (va_Pc (.ref b :: As) (g5_PL G f wc H.size)) As :=
  ⟨g5_blindL, va_recv hK hP hc he, fun U hU hW => ⟨rfl, ((g5_preV (As := As) hP hK hD hN hT hS hF he hc).2.2 U hU hW).2, fun j v hj e => by
    obtain ⟨r, hr, ev⟩ := hL.2.2.1 j v hj e
    obtain ⟨cell, h1, h2, h3, h4⟩ := law_out hK hPX hDX isC hC hr
    rw [ev] at h1 h4
    rw [hU]
    exact ⟨cell, h1, h2, by rw [hW.alike.findClass]; exact h3, h4⟩⟩⟩
/-! rows copied -/
theorem cpy_at {α : Type} {f g : Nat → α} {n j : Nat} (h : j < n) : va_cpy f g 0 0 n j = f j := by
  unfold va_cpy; rw [if_pos (by omega)]; congr 1; omega
theorem tget_cpy {f g : Nat → Int32} {N : Nat} {n w : Int} (hn : n * w ≤ (N : Int)) (hw : 0 ≤ w) (r c : Int) : tget (va_cpy f g 0 0 N) n w r c = tget f n w r c := by
  unfold tget
  by_cases q : 0 ≤ r ∧ r < n ∧ 0 ≤ c ∧ c < w
  · rw [if_pos q, if_pos q]
    refine cpy_at ?_
    have z : (r + 1) * w ≤ n * w := Int.mul_le_mul_of_nonneg_right (by omega) hw
    have y : (r + 1) * w = r * w + w := by rw [Int.add_mul, Int.one_mul]
    have x : 0 ≤ r * w := Int.mul_nonneg q.1 hw
    omega
  · rw [if_neg q, if_neg q]
theorem gOK_cpy {f g : Nat → Int32} {N : Nat} {n : Int} (h : gOK f n) (hn : n * 5 ≤ (N : Int)) : gOK (va_cpy f g 0 0 N) n := by
  intro r h0 h1
  have z := h r h0 h1
  rw [tget_cpy hn (by omega), tget_cpy hn (by omega), tget_cpy hn (by omega), tget_cpy hn (by omega)]
  exact z
theorem inT_cpy {x : Int64} {f g : Nat → Int32} {N : Nat} {n : Int} (h : inT x f n) (hn : n * 5 ≤ (N : Int)) : inT x (va_cpy f g 0 0 N) n := by
  intro c h0 h1 h2
  obtain ⟨r, a, b, e⟩ := h c h0 h1 h2
  exact ⟨r, a, b, by rw [tget_cpy hn (by omega)]; exact e⟩
theorem s01_cpy {f g : Nat → Int32} {N : Nat} {n : Int} (h : ∀ r : Int, 0 ≤ r → r < n → 0 ≤ (tget f n 4 r (3 : Int32).toInt).toInt ∧ (tget f n 4 r (3 : Int32).toInt).toInt ≤ 1) (hn : n * 4 ≤ (N : Int)) : ∀ r : Int, 0 ≤ r → r < n → 0 ≤ (tget (va_cpy f g 0 0 N) n 4 r (3 : Int32).toInt).toInt ∧ (tget (va_cpy f g 0 0 N) n 4 r (3 : Int32).toInt).toInt ≤ 1 := by
  intro r h0 h1
  rw [tget_cpy hn (by omega)]; exact h r h0 h1
theorem s5_cpy {f g : Nat → Int32} {N : Nat} {n : Int} (h : snS f n n.toNat ≤ 5) (hn : n * 4 ≤ (N : Int)) : snS (va_cpy f g 0 0 N) n n.toNat ≤ 5 := by
  rw [sg_sn (g := va_cpy f g 0 0 N) (f := f) (m := n) (n := n) n.toNat (fun j hj => tget_cpy hn (by omega) _ _)]; exact h

theorem g5_a63 (x : Int32) : 0 ≤ (x &&& 63).toInt ∧ (x &&& 63).toInt ≤ 63 := by
  have h2 : (x &&& 63).toBitVec.toNat = x.toBitVec.toNat % 2 ^ 6 := by
    rw [Int32.toBitVec_and, BitVec.toNat_and, show (63 : Int32).toBitVec.toNat = 2 ^ 6 - 1 from by decide, Nat.and_two_pow_sub_one_eq_mod]
  have h3 : (x &&& 63).toInt = ((x &&& 63).toBitVec.toNat : Int) := by
    show (x &&& 63).toBitVec.toInt = _
    rw [BitVec.toInt_eq_toNat_cond, if_pos]
    rw [h2]; omega
  rw [h3, h2]; omega
theorem g5_len {n : Nat} (h : n ≤ 3584) : (Int32.ofNat n).toInt = (n : Int) := by
  rw [Int32.toInt_ofNat']; exact g5_bm (by omega) (by omega)
theorem gOK_0 {f : Nat → Int32} {n : Int} (h : n = 0) : gOK f n := fun r h0 h1 => absurd h1 (by omega)
theorem s01_0 {f : Nat → Int32} {n : Int} (h : n = 0) : ∀ r : Int, 0 ≤ r → r < n → 0 ≤ (tget f n 4 r (3 : Int32).toInt).toInt ∧ (tget f n 4 r (3 : Int32).toInt).toInt ≤ 1 := fun r h0 h1 => absurd h1 (by omega)
theorem s5_0 {f : Nat → Int32} {n : Int} (h : n = 0) : snS f n n.toNat ≤ 5 := by
  subst h; exact (by decide : (0 : Int) ≤ 5)
theorem toki_0 {nm : Nat → Int32} : TOKI (fun _ => 0) nm := fun j h => absurd (show (0 : Int32) = 300 from h) (by decide)
theorem mi_start : MI (upd (upd (upd (fun _ => 0) 3 (-1)) 4 1000) 6 (-1)) := by
  have z0 : (0 : Int32).toInt = 0 := by decide
  have z1 : (-1 : Int32).toInt = -1 := by decide
  have u : ∀ j : Nat, j ≠ 3 → j ≠ 4 → j ≠ 6 → upd (upd (upd (fun _ => (0 : Int32)) 3 (-1)) 4 1000) 6 (-1) j = 0 := fun j h3 h4 h6 => by rw [upd_ne h6, upd_ne h4, upd_ne h3]
  have u3 : upd (upd (upd (fun _ => (0 : Int32)) 3 (-1)) 4 1000) 6 (-1) 3 = -1 := by rw [upd_ne (by omega), upd_ne (by omega), upd_eq]
  have u6 : upd (upd (upd (fun _ => (0 : Int32)) 3 (-1)) 4 1000) 6 (-1) 6 = -1 := upd_eq
  refine ⟨fun j => ?_, ?_, ?_, fun l hl => ?_⟩
  · by_cases q4 : j = 4
    · subst q4
      unfold rOK
      refine ⟨?_, ?_, ?_, ?_, ?_, ?_, ?_, ?_, ?_, ?_, ?_, ?_, ?_, ?_, ?_, ?_, ?_, ?_, ?_, ?_, ?_, ?_, ?_⟩ <;> (intros; omega)
    · by_cases q3 : j = 3
      · subst q3
        rw [u3, z1]
        unfold rOK
        refine ⟨?_, ?_, ?_, ?_, ?_, ?_, ?_, ?_, ?_, ?_, ?_, ?_, ?_, ?_, ?_, ?_, ?_, ?_, ?_, ?_, ?_, ?_, ?_⟩ <;> (intros; omega)
      · by_cases q6 : j = 6
        · subst q6
          rw [u6, z1]
          unfold rOK
          refine ⟨?_, ?_, ?_, ?_, ?_, ?_, ?_, ?_, ?_, ?_, ?_, ?_, ?_, ?_, ?_, ?_, ?_, ?_, ?_, ?_, ?_, ?_, ?_⟩ <;> (intros; omega)
        · rw [u j q3 q4 q6, z0]
          unfold rOK
          refine ⟨?_, ?_, ?_, ?_, ?_, ?_, ?_, ?_, ?_, ?_, ?_, ?_, ?_, ?_, ?_, ?_, ?_, ?_, ?_, ?_, ?_, ?_, ?_⟩ <;> (intros; omega)
  · unfold mSN
    rw [u 5 (by omega) (by omega) (by omega)]
    exact (by decide : (0 : Int) ≤ 5)
  · rw [u3, u 2 (by omega) (by omega) (by omega)]; decide
  · rw [u 2 (by omega) (by omega) (by omega), z0] at hl
    exact absurd hl (by omega)
set_option maxHeartbeats 4000000 in
set_option maxRecDepth 100000 in
theorem x_forceX (l : Launch) (G : g5_G) (a_o a_rf a_h a_im a_ke a_k a_wa a_th a_ha a_wk a_r a_x a_wd a_l a_g a_b a_s a_p a_w a_bb : Nat) (sz : Nat) (e_tl : Int32) (e_fd : Int32) (e_fpl : Int32) (e_wn : Int32) (e_lr : Int32) (e_le : Int32) (e_st : Int32) (e_fo : Int32) (e_lc : Int32) (p_l : Int32) (e_wa : Int64) (e_gb : Int64) (f_rf : Nat → Int32) (h_e_tl : 0 ≤ e_tl.toInt ∧ e_tl.toInt ≤ 400) (h_e_wn : 0 ≤ e_wn.toInt ∧ e_wn.toInt ≤ 1) (e_fk : -1 ≤ e_fo.toInt ∧ e_fo.toInt < e_lc.toInt) : Met l yX11_force (wsG yX11_force cX11_force 3 (some .int)) ({ frames := 1, cells := 0, slots := 0, locals := 22 }) (va_Pc [.ref a_o, .int p_l] (g5_P G [(a_o, (oc11 a_h a_im a_ke a_k a_wa a_th a_ha a_wk a_r a_x e_tl e_fd e_fpl a_wd e_wn a_rf e_lr)), (a_rf, (arI G 5 f_rf)), (a_h, (oc1 e_wa e_le e_st e_fo e_lc a_l a_g a_b a_s a_p a_w e_gb a_bb))] sz)) (va_Qi (fun (r : Int32) (u : va_W) => (∃ (o_r : Int32) (o_lr : Int32) (o_rf : Nat → Int32) (o_fo : Int32), (-1 ≤ o_fo.toInt ∧ o_fo.toInt < e_lc.toInt) ∧ (r = o_r) ∧ (u = [(a_o, (oc11 a_h a_im a_ke a_k a_wa a_th a_ha a_wk a_r a_x e_tl e_fd e_fpl a_wd e_wn a_rf o_lr)), (a_rf, (arI G 5 o_rf)), (a_h, (oc1 e_wa e_le e_st o_fo e_lc a_l a_g a_b a_s a_p a_w e_gb a_bb))]))) (g5_B G (va_A [(a_o, (oc11 a_h a_im a_ke a_k a_wa a_th a_ha a_wk a_r a_x e_tl e_fd e_fpl a_wd e_wn a_rf e_lr)), (a_rf, (arI G 5 f_rf)), (a_h, (oc1 e_wa e_le e_st e_fo e_lc a_l a_g a_b a_s a_p a_w e_gb a_bb))] sz)) (va_A [(a_o, (oc11 a_h a_im a_ke a_k a_wa a_th a_ha a_wk a_r a_x e_tl e_fd e_fpl a_wd e_wn a_rf e_lr)), (a_rf, (arI G 5 f_rf)), (a_h, (oc1 e_wa e_le e_st e_fo e_lc a_l a_g a_b a_s a_p a_w e_gb a_bb))] sz)) 0 0 (va_A [(a_o, (oc11 a_h a_im a_ke a_k a_wa a_th a_ha a_wk a_r a_x e_tl e_fd e_fpl a_wd e_wn a_rf e_lr)), (a_rf, (arI G 5 f_rf)), (a_h, (oc1 e_wa e_le e_st e_fo e_lc a_l a_g a_b a_s a_p a_w e_gb a_bb))] sz) := by
  refine Met.ofW (cc := cX11_force) (maxL := 3) (ret := (some .int)) (by decide) rfl ?_
  intro p e s m args below meth c s₁ B hml hv
  obtain ⟨rfl, hsz, hP, hK, hD0, hN, hT⟩ := hv
  have hx := B.exec
  have hb := B.bytes
  have hr := B.returns
  have hts : ∀ w ∈ tblG, w.before _ s = true := fun w h => atoms_spec (ws := (wsG yX11_force cX11_force 3 (some .int))) B.pre w (List.mem_cons_of_mem _ h)
  have hown : s.vm.findClass RX11 = some m.cls := findClass_of_methodNamed B.named
  have hlocks := B.notSynchronized
  subst hsz
  have hD := hD0.self (sz := s.heap.size)
  generalize hAe : va_A [(a_o, (oc11 a_h a_im a_ke a_k a_wa a_th a_ha a_wk a_r a_x e_tl e_fd e_fpl a_wd e_wn a_rf e_lr)), (a_rf, (arI G 5 f_rf)), (a_h, (oc1 e_wa e_le e_st e_fo e_lc a_l a_g a_b a_s a_p a_w e_gb a_bb))] s.heap.size = A at hD hT ⊢
  have hA : ∀ q : Nat, s.heap.size ≤ q → A q := fun q h => by rw [← hAe]; exact Or.inr h
  have hS : va_S A s.heap s.heap [] := va_S.rf
  have hP : va_P G.1 vwCl [(a_o, (oc11 a_h a_im a_ke a_k a_wa a_th a_ha a_wk a_r a_x e_tl e_fd e_fpl a_wd e_wn a_rf e_lr)), (a_rf, (arI G 5 f_rf)), (a_h, (oc1 e_wa e_le e_st e_fo e_lc a_l a_g a_b a_s a_p a_w e_gb a_bb))] s.heap := hP
  have hl := lv_entry ([.ref a_o, .int p_l]) (n := 3) (Nat.le_of_ble_eq_true rfl)
  rw [lg_entry_eq]
  generalize (lg_sl ([.ref a_o, .int p_l]) ++ List.replicate (3 - (lg_sl ([.ref a_o, .int p_l])).length) Slot.unset).toArray = ls at hl ⊢
  have hl : lv_has ls 3 [(0, .ref a_o), (1, .int p_l)] := hl
  refine lv_iload_n hx hb dX11_force_0 rfl (lv_at hl 1 rfl) ?_
  refine lv_iconst (v := (-1)) hx hb dX11_force_1 (by decide) ?_
  refine lv_icmp_lt (tgt := 16) hx hb dX11_force_2 (by decide) (fun c_1 => ?_) (fun c_1 => ?_)
  ·
    have i_1 : p_l.toInt < (-1) := by have z := g5_lt (a := p_l.toInt) (b := (-1)) (by rfl) (by decide) c_1; omega
    refine lv_aload_n hx hb dX11_force_16 rfl (lv_at hl 0 rfl) ?_
    refine lv_bipush (v := (-2)) hx hb dX11_force_17 (by decide) ?_
    obtain ⟨hPc, hDc, hFc⟩ := g5_sub3 (wc := [(a_o, (oc11 a_h a_im a_ke a_k a_wa a_th a_ha a_wk a_r a_x e_tl e_fd e_fpl a_wd e_wn a_rf e_lr)), (a_rf, (arI G 5 f_rf))]) hP hD hS hA [0, 1] (by decide) rfl
    refine va_calli (va_runV (As := [.int (-2)]) (rest := []) ⟨hx, hb, hml, hown, hts⟩ (x_refuse2 l G a_o a_rf a_h a_im a_ke a_k a_wa a_th a_ha a_wk a_r a_x a_wd s.heap.size e_tl e_fd e_fpl e_wn e_lr f_rf h_e_tl h_e_wn) (cwV 1 hts gV_X11_104 rfl rfl rfl hv_X11_refuse ⟨Nat.le_of_ble_eq_true rfl, Nat.le_of_ble_eq_true rfl⟩) (g5_preV hPc hK hDc hN hT hS hFc (ci := 11) (q0 := 0) rfl rfl) rfl rfl hl.1 rfl (lv_room (Nat.le_of_ble_eq_true rfl)) dX11_force_19 ⟨Nat.le_of_ble_eq_true rfl, Nat.le_of_ble_eq_true rfl⟩) hS (fun q _ h => hFc q h) hFc (fun r u t H1 locs ht hvm hw hB hz1 hk1 hS => ?_)
    obtain ⟨hP1, hD1⟩ := hB
    rw [ht] at hP1
    obtain ⟨z2, rfl, rfl⟩ := hw
    obtain ⟨hP, hD⟩ := va_join (wr := [(a_h, (oc1 e_wa e_le e_st e_fo e_lc a_l a_g a_b a_s a_p a_w e_gb a_bb))]) hP hD [0, 1] [2] rfl rfl (by decide) (by decide) hk1 hFc hP1 hD1
    generalize H1 = H at hP hS ⊢
    refine g5_rs [(a_h, (oc1 e_wa e_le e_st e_fo e_lc a_l a_g a_b a_s a_p a_w e_gb a_bb)), (a_o, (oc11 a_h a_im a_ke a_k a_wa a_th a_ha a_wk a_r a_x e_tl e_fd e_fpl a_wd e_wn a_rf (-2))), (a_rf, (arI G 5 z2))] hP hD (fun hP hD => ?_)
    exact W.iret (v := (-2)) hx hb hr (fun t ht hW => ⟨⟨(-2), [(a_o, (oc11 a_h a_im a_ke a_k a_wa a_th a_ha a_wk a_r a_x e_tl e_fd e_fpl a_wd e_wn a_rf (-2))), (a_rf, (arI G 5 z2)), (a_h, (oc1 e_wa e_le e_st e_fo e_lc a_l a_g a_b a_s a_p a_w e_gb a_bb))], rfl, ⟨(-2), (-2), z2, e_fo, e_fk, rfl, rfl⟩, by rw [ht]; exact hP.sub [1, 2, 0] rfl, hD.sub [1, 2, 0] (by decide) rfl⟩, hS.F ht⟩) hS.2.2 dX11_force_22
  ·
    have i_1 : p_l.toInt ≥ (-1) := by have z := g5_ltN (a := p_l.toInt) (b := (-1)) (by rfl) (by decide) c_1; omega
    refine lv_iload_n hx hb dX11_force_5 rfl (lv_at hl 1 rfl) ?_
    refine lv_aload_n hx hb dX11_force_6 rfl (lv_at hl 0 rfl) ?_
    refine va_get (D := G.1) (ci := 11) (v := .ref a_h) (C := RX11) (T := TX11) (N := 17) hx hb hts inG_X11 hown hK hP 0 rfl rfl 0 (by decide) (hts _ fl_X11_12) (fun _ h9 => h9) rfl dX11_force_7 ?_
    refine va_get (D := G.1) (ci := 1) (v := .int e_lc) (C := RX1) (T := TX1) (N := 13) hx hb hts inG_X1 hown hK hP 2 rfl rfl 4 (by decide) (hts _ fl_X11_192) (fun _ h9 => h9) rfl dX11_force_10 ?_
    refine lv_icmp_lt (tgt := 23) hx hb dX11_force_13 (by decide) (fun c_3 => ?_) (fun c_3 => ?_)
    ·
      have i_3 : p_l.toInt < e_lc.toInt := by have z := g5_lt (a := p_l.toInt) (b := e_lc.toInt) (by rfl) (by rfl) c_3; omega
      refine lv_aload_n hx hb dX11_force_23 rfl (lv_at hl 0 rfl) ?_
      refine va_get (D := G.1) (ci := 11) (v := .ref a_h) (C := RX11) (T := TX11) (N := 17) hx hb hts inG_X11 hown hK hP 0 rfl rfl 0 (by decide) (hts _ fl_X11_12) (fun _ h9 => h9) rfl dX11_force_24 ?_
      refine va_get (D := G.1) (ci := 1) (v := .int e_fo) (C := RX1) (T := TX1) (N := 13) hx hb hts inG_X1 hown hK hP 2 rfl rfl 3 (by decide) (hts _ fl_X11_204) (fun _ h9 => h9) rfl dX11_force_27 ?_
      refine lv_istore_n (lv' := [(2, .int e_fo), (0, .ref a_o), (1, .int p_l)]) hx hb dX11_force_30 rfl hl (by decide) rfl (fun ls hl => ?_)
      refine lv_aload_n hx hb dX11_force_31 rfl (lv_at hl 1 rfl) ?_
      refine va_get (D := G.1) (ci := 11) (v := .ref a_h) (C := RX11) (T := TX11) (N := 17) hx hb hts inG_X11 hown hK hP 0 rfl rfl 0 (by decide) (hts _ fl_X11_12) (fun _ h9 => h9) rfl dX11_force_32 ?_
      refine lv_iload_n hx hb dX11_force_35 rfl (lv_at hl 2 rfl) ?_
      refine va_put (D := G.1) (ci := 1) (v := .int p_l) (ty := .int) (C := RX1) (T := TX1) (N := 13) hx hb hts inG_X1 tyX1 tyX1_ok nmX1 hown hK hP hD hS 2 rfl rfl 3 (by decide) (hts _ fl_X11_204) (fun _ h9 => h9) rfl (by decide +kernel) rfl rfl (Nat.le_of_ble_eq_true rfl) dX11_force_36 (fun H locs hP hD hS => ?_)
      refine g5_rs [(a_o, (oc11 a_h a_im a_ke a_k a_wa a_th a_ha a_wk a_r a_x e_tl e_fd e_fpl a_wd e_wn a_rf e_lr)), (a_rf, (arI G 5 f_rf)), (a_h, (oc1 e_wa e_le e_st p_l e_lc a_l a_g a_b a_s a_p a_w e_gb a_bb))] hP hD (fun hP hD => ?_)
      refine lv_aload_n hx hb dX11_force_39 rfl (lv_at hl 1 rfl) ?_
      refine lv_iload_n hx hb dX11_force_40 rfl (lv_at hl 0 rfl) ?_
      obtain ⟨hPc, hDc, hFc⟩ := g5_sub3 (wc := [(a_o, (oc11 a_h a_im a_ke a_k a_wa a_th a_ha a_wk a_r a_x e_tl e_fd e_fpl a_wd e_wn a_rf e_lr))]) hP hD hS hA [0] (by decide) rfl
      refine va_calli (va_runV (As := [.int e_fo]) (rest := []) ⟨hx, hb, hml, hown, hts⟩ (x_done l G a_o a_h a_im a_ke a_k a_wa a_th a_ha a_wk a_r a_x a_wd a_rf H.size e_tl e_fd e_fpl e_wn e_lr e_fo h_e_tl h_e_wn) (cwV 1 hts gV_X11_121 rfl rfl rfl hv_X11_done ⟨Nat.le_of_ble_eq_true rfl, Nat.le_of_ble_eq_true rfl⟩) (g5_preV hPc hK hDc hN hT hS hFc (ci := 11) (q0 := 0) rfl rfl) rfl rfl hl.1 rfl (lv_room (Nat.le_of_ble_eq_true rfl)) dX11_force_41 ⟨Nat.le_of_ble_eq_true rfl, Nat.le_of_ble_eq_true rfl⟩) hS (fun q _ h => hFc q h) hFc (fun r u t H1 locs ht hvm hw hB hz1 hk1 hS => ?_)
      obtain ⟨hP1, hD1⟩ := hB
      rw [ht] at hP1
      obtain ⟨y4, rfl⟩ := hw
      obtain ⟨hP, hD⟩ := va_join (wr := [(a_rf, (arI G 5 f_rf)), (a_h, (oc1 e_wa e_le e_st p_l e_lc a_l a_g a_b a_s a_p a_w e_gb a_bb))]) hP hD [0] [1, 2] rfl rfl (by decide) (by decide) hk1 hFc hP1 hD1
      generalize H1 = H at hP hS ⊢
      refine g5_rs [(a_rf, (arI G 5 f_rf)), (a_h, (oc1 e_wa e_le e_st p_l e_lc a_l a_g a_b a_s a_p a_w e_gb a_bb)), (a_o, (oc11 a_h a_im a_ke a_k a_wa a_th a_ha a_wk a_r a_x e_tl e_fd e_fpl a_wd e_wn a_rf 0))] hP hD (fun hP hD => ?_)
      refine g5_ti (v := e_fo) y4 ?_
      exact W.iret (v := e_fo) hx hb hr (fun t ht hW => ⟨⟨e_fo, [(a_o, (oc11 a_h a_im a_ke a_k a_wa a_th a_ha a_wk a_r a_x e_tl e_fd e_fpl a_wd e_wn a_rf 0)), (a_rf, (arI G 5 f_rf)), (a_h, (oc1 e_wa e_le e_st p_l e_lc a_l a_g a_b a_s a_p a_w e_gb a_bb))], rfl, ⟨e_fo, 0, f_rf, p_l, ⟨by omega, by omega⟩, rfl, rfl⟩, by rw [ht]; exact hP.sub [2, 0, 1] rfl, hD.sub [2, 0, 1] (by decide) rfl⟩, hS.F ht⟩) hS.2.2 dX11_force_44
    ·
      have i_3 : p_l.toInt ≥ e_lc.toInt := by have z := g5_ltN (a := p_l.toInt) (b := e_lc.toInt) (by rfl) (by rfl) c_3; omega
      refine lv_aload_n hx hb dX11_force_16 rfl (lv_at hl 0 rfl) ?_
      refine lv_bipush (v := (-2)) hx hb dX11_force_17 (by decide) ?_
      obtain ⟨hPc, hDc, hFc⟩ := g5_sub3 (wc := [(a_o, (oc11 a_h a_im a_ke a_k a_wa a_th a_ha a_wk a_r a_x e_tl e_fd e_fpl a_wd e_wn a_rf e_lr)), (a_rf, (arI G 5 f_rf))]) hP hD hS hA [0, 1] (by decide) rfl
      refine va_calli (va_runV (As := [.int (-2)]) (rest := []) ⟨hx, hb, hml, hown, hts⟩ (x_refuse2 l G a_o a_rf a_h a_im a_ke a_k a_wa a_th a_ha a_wk a_r a_x a_wd s.heap.size e_tl e_fd e_fpl e_wn e_lr f_rf h_e_tl h_e_wn) (cwV 1 hts gV_X11_104 rfl rfl rfl hv_X11_refuse ⟨Nat.le_of_ble_eq_true rfl, Nat.le_of_ble_eq_true rfl⟩) (g5_preV hPc hK hDc hN hT hS hFc (ci := 11) (q0 := 0) rfl rfl) rfl rfl hl.1 rfl (lv_room (Nat.le_of_ble_eq_true rfl)) dX11_force_19 ⟨Nat.le_of_ble_eq_true rfl, Nat.le_of_ble_eq_true rfl⟩) hS (fun q _ h => hFc q h) hFc (fun r u t H1 locs ht hvm hw hB hz1 hk1 hS => ?_)
      obtain ⟨hP1, hD1⟩ := hB
      rw [ht] at hP1
      obtain ⟨z5, rfl, rfl⟩ := hw
      obtain ⟨hP, hD⟩ := va_join (wr := [(a_h, (oc1 e_wa e_le e_st e_fo e_lc a_l a_g a_b a_s a_p a_w e_gb a_bb))]) hP hD [0, 1] [2] rfl rfl (by decide) (by decide) hk1 hFc hP1 hD1
      generalize H1 = H at hP hS ⊢
      refine g5_rs [(a_h, (oc1 e_wa e_le e_st e_fo e_lc a_l a_g a_b a_s a_p a_w e_gb a_bb)), (a_o, (oc11 a_h a_im a_ke a_k a_wa a_th a_ha a_wk a_r a_x e_tl e_fd e_fpl a_wd e_wn a_rf (-2))), (a_rf, (arI G 5 z5))] hP hD (fun hP hD => ?_)
      exact W.iret (v := (-2)) hx hb hr (fun t ht hW => ⟨⟨(-2), [(a_o, (oc11 a_h a_im a_ke a_k a_wa a_th a_ha a_wk a_r a_x e_tl e_fd e_fpl a_wd e_wn a_rf (-2))), (a_rf, (arI G 5 z5)), (a_h, (oc1 e_wa e_le e_st e_fo e_lc a_l a_g a_b a_s a_p a_w e_gb a_bb))], rfl, ⟨(-2), (-2), z5, e_fo, e_fk, rfl, rfl⟩, by rw [ht]; exact hP.sub [1, 2, 0] rfl, hD.sub [1, 2, 0] (by decide) rfl⟩, hS.F ht⟩) hS.2.2 dX11_force_22
abbrev cL_law : ByteArray := code
/-! THE CLAIM OUT OF ONE WALK OF THE LAW'S BODY. Your part is whole_start (and what it stands on); all else here is the same for every law, but numbers. -/
def R_law : String := "LateGlassLaw"
def lw_P (b : Addr) (xs : List Int32) (args : Array Value) (s : State) : Prop := args = #[.ref b] ∧ s.IntsAt b xs ∧ xs.length ≤ 3584 ∧ (Jvm.Cond.and given_1 narrow_1).before args s = true
def lw_Q (_ : Array Value) (s : State) (o : Outcome) (t : State) : Prop := o = .returned (some (.int 1)) ∧ Framed s o t [] 600000 7302250
def lw_Z (below : List Frame) (a : Array Value) (s : State) : State → Prop := fun t => ∃ o, t.status = .running ∧ Ended t below o ∧ lw_Q a s o t
/-- the law's own end, with 1 on the stack, nothing written that was there before, its room as the claim has it -/
theorem lw_ret {p : Program} {l : Launch} {e : Env} {s : State} {m : MethodId} {below : List Frame} {meth : Method} {c : Code} {b : Nat} (hx : p.tables.exec = Jvm.exec) (hb : c.code = code) (hr : meth.sig.returnType = ret) (hlocks : meth.locks = false) {pc : Nat} {H : Heap} {ls : Array Slot} (hdg : decode code pc = .ok (.ireturn, 1)) : W p l e room_1 s m #[Value.ref b] below meth c H [] 600000 7302250 (lw_Z below #[Value.ref b] s) (F0 m pc ls [.int 1]) := by
  intro T hT X
  obtain ⟨fs, hret, hrun, hended, hW, hframe⟩ := X.leave (v := some (.int 1)) (hlocks := hlocks) (fun h => by rw [hr] at h; cases h)
  have hmeth' : T.vm.method? m = some meth := X.method'
  refine ⟨T.setFrames fs, ?_, .returned (some (.int 1)), hrun, hended, rfl, ⟨_, rfl⟩, hW, hframe⟩
  jvm_step X.here [X.here.top, hx, hb, hdg, hmeth', hr, ret, narrow_b1]
  (try refine ⟨rfl, ?_⟩); (try refine ⟨rfl, ?_⟩)
  first | (intro acts; rw [hret _ acts rfl rfl rfl]) | rw [hret _ _ rfl rfl rfl]
  exact Steps.refl _
/-- what holds at the law's entry: the machine, the code, the tables' words (any of lw_tbl by 'hts w (by decide +kernel)'), the script of L ints xs at the cell b, what the Statement gives of the start (any of its parts by flat_of_before) -/
def lw_At (p : Program) (s : State) (m : MethodId) (meth : Method) (c : Code) (b L : Nat) (xs : Nat → Int32) : Prop :=
  p.tables.exec = Jvm.exec ∧ c.code = code ∧ meth.sig.returnType = ret ∧ c.maxLocals = 4 ∧ s.vm.findClass R_law = some m.cls ∧ (∀ w ∈ lw_tbl, w.before #[Value.ref b] s = true) ∧ va_X b L xs s s.heap ∧ b < s.heap.size ∧ meth.locks = false ∧ (Jvm.Cond.and given_1 narrow_1).before #[Value.ref b] s = true

theorem dgL_law_0 : ∀ r ∈ ([(0, (.new 7, 3)), (3, (.dup, 1)), (4, (.invokespecial 9, 3)), (7, (.astore_n 1, 1)), (8, (.new 10, 3)), (11, (.dup, 1)), (12, (.invokespecial 12, 3)), (15, (.astore_n 2, 1)), (16, (.iconst 0, 1)), (17, (.istore_n 3, 1)), (18, (.iload_n 3, 1)), (19, (.aload_n 0, 1)), (20, (.arraylength, 1)), (21, (.bipush 7, 2)), (23, (.isub, 1)), (24, (.if_icmp .gt 1630, 3)), (27, (.aload_n 0, 1)), (28, (.iload_n 3, 1)), (29, (.iaload, 1)), (30, (.bipush 63, 2)), (32, (.iand, 1)), (33, (.tableswitch 1615 0 43 #[191, 224, 277, 320, 353, 366, 419, 452, 475, 538, 561, 574, 587, 600, 613, 636, 689, 742, 775, 818, 851, 894, 917, 970, 993, 1016, 1029, 1062, 1085, 1098, 1141, 1164, 1207, 1282, 1305, 1328, 1371, 1424, 1477, 1510, 1533, 1556, 1579, 1602], 191)), (224, (.aload_n 1, 1)), (225, (.aload_n 0, 1)), (226, (.iload_n 3, 1)), (227, (.iconst 1, 1)), (228, (.iadd, 1)), (229, (.iaload, 1)), (230, (.aload_n 0, 1)), (231, (.iload_n 3, 1)), (232, (.iconst 2, 1)), (233, (.iadd, 1)), (234, (.iaload, 1)), (235, (.invokevirtual 13, 3)), (238, (.pop, 1)), (239, (.aload_n 2, 1)), (240, (.aload_n 0, 1)), (241, (.iload_n 3, 1)), (242, (.iconst 1, 1)), (243, (.iadd, 1))] : List (Nat × (Instr × Nat))), decode cL_law r.1 = .ok r.2 := by decide +kernel
theorem dL_law_0 : decode cL_law 0 = .ok (.new 7, 3) := dgL_law_0 (0, (.new 7, 3)) (List.mem_of_getElem? (i := 0) rfl)
theorem dL_law_3 : decode cL_law 3 = .ok (.dup, 1) := dgL_law_0 (3, (.dup, 1)) (List.mem_of_getElem? (i := 1) rfl)
theorem dL_law_4 : decode cL_law 4 = .ok (.invokespecial 9, 3) := dgL_law_0 (4, (.invokespecial 9, 3)) (List.mem_of_getElem? (i := 2) rfl)
theorem dL_law_7 : decode cL_law 7 = .ok (.astore_n 1, 1) := dgL_law_0 (7, (.astore_n 1, 1)) (List.mem_of_getElem? (i := 3) rfl)
theorem dL_law_8 : decode cL_law 8 = .ok (.new 10, 3) := dgL_law_0 (8, (.new 10, 3)) (List.mem_of_getElem? (i := 4) rfl)
theorem dL_law_11 : decode cL_law 11 = .ok (.dup, 1) := dgL_law_0 (11, (.dup, 1)) (List.mem_of_getElem? (i := 5) rfl)
theorem dL_law_12 : decode cL_law 12 = .ok (.invokespecial 12, 3) := dgL_law_0 (12, (.invokespecial 12, 3)) (List.mem_of_getElem? (i := 6) rfl)
theorem dL_law_15 : decode cL_law 15 = .ok (.astore_n 2, 1) := dgL_law_0 (15, (.astore_n 2, 1)) (List.mem_of_getElem? (i := 7) rfl)
theorem dL_law_16 : decode cL_law 16 = .ok (.iconst 0, 1) := dgL_law_0 (16, (.iconst 0, 1)) (List.mem_of_getElem? (i := 8) rfl)
theorem dL_law_17 : decode cL_law 17 = .ok (.istore_n 3, 1) := dgL_law_0 (17, (.istore_n 3, 1)) (List.mem_of_getElem? (i := 9) rfl)
theorem dL_law_18 : decode cL_law 18 = .ok (.iload_n 3, 1) := dgL_law_0 (18, (.iload_n 3, 1)) (List.mem_of_getElem? (i := 10) rfl)
theorem dL_law_19 : decode cL_law 19 = .ok (.aload_n 0, 1) := dgL_law_0 (19, (.aload_n 0, 1)) (List.mem_of_getElem? (i := 11) rfl)
theorem dL_law_20 : decode cL_law 20 = .ok (.arraylength, 1) := dgL_law_0 (20, (.arraylength, 1)) (List.mem_of_getElem? (i := 12) rfl)
theorem dL_law_21 : decode cL_law 21 = .ok (.bipush 7, 2) := dgL_law_0 (21, (.bipush 7, 2)) (List.mem_of_getElem? (i := 13) rfl)
theorem dL_law_23 : decode cL_law 23 = .ok (.isub, 1) := dgL_law_0 (23, (.isub, 1)) (List.mem_of_getElem? (i := 14) rfl)
theorem dL_law_24 : decode cL_law 24 = .ok (.if_icmp .gt 1630, 3) := dgL_law_0 (24, (.if_icmp .gt 1630, 3)) (List.mem_of_getElem? (i := 15) rfl)
theorem dL_law_27 : decode cL_law 27 = .ok (.aload_n 0, 1) := dgL_law_0 (27, (.aload_n 0, 1)) (List.mem_of_getElem? (i := 16) rfl)
theorem dL_law_28 : decode cL_law 28 = .ok (.iload_n 3, 1) := dgL_law_0 (28, (.iload_n 3, 1)) (List.mem_of_getElem? (i := 17) rfl)
theorem dL_law_29 : decode cL_law 29 = .ok (.iaload, 1) := dgL_law_0 (29, (.iaload, 1)) (List.mem_of_getElem? (i := 18) rfl)
theorem dL_law_30 : decode cL_law 30 = .ok (.bipush 63, 2) := dgL_law_0 (30, (.bipush 63, 2)) (List.mem_of_getElem? (i := 19) rfl)
theorem dL_law_32 : decode cL_law 32 = .ok (.iand, 1) := dgL_law_0 (32, (.iand, 1)) (List.mem_of_getElem? (i := 20) rfl)
theorem dL_law_33 : decode cL_law 33 = .ok (.tableswitch 1615 0 43 #[191, 224, 277, 320, 353, 366, 419, 452, 475, 538, 561, 574, 587, 600, 613, 636, 689, 742, 775, 818, 851, 894, 917, 970, 993, 1016, 1029, 1062, 1085, 1098, 1141, 1164, 1207, 1282, 1305, 1328, 1371, 1424, 1477, 1510, 1533, 1556, 1579, 1602], 191) := dgL_law_0 (33, (.tableswitch 1615 0 43 #[191, 224, 277, 320, 353, 366, 419, 452, 475, 538, 561, 574, 587, 600, 613, 636, 689, 742, 775, 818, 851, 894, 917, 970, 993, 1016, 1029, 1062, 1085, 1098, 1141, 1164, 1207, 1282, 1305, 1328, 1371, 1424, 1477, 1510, 1533, 1556, 1579, 1602], 191)) (List.mem_of_getElem? (i := 21) rfl)
theorem dL_law_224 : decode cL_law 224 = .ok (.aload_n 1, 1) := dgL_law_0 (224, (.aload_n 1, 1)) (List.mem_of_getElem? (i := 22) rfl)
theorem dL_law_225 : decode cL_law 225 = .ok (.aload_n 0, 1) := dgL_law_0 (225, (.aload_n 0, 1)) (List.mem_of_getElem? (i := 23) rfl)
theorem dL_law_226 : decode cL_law 226 = .ok (.iload_n 3, 1) := dgL_law_0 (226, (.iload_n 3, 1)) (List.mem_of_getElem? (i := 24) rfl)
theorem dL_law_227 : decode cL_law 227 = .ok (.iconst 1, 1) := dgL_law_0 (227, (.iconst 1, 1)) (List.mem_of_getElem? (i := 25) rfl)
theorem dL_law_228 : decode cL_law 228 = .ok (.iadd, 1) := dgL_law_0 (228, (.iadd, 1)) (List.mem_of_getElem? (i := 26) rfl)
theorem dL_law_229 : decode cL_law 229 = .ok (.iaload, 1) := dgL_law_0 (229, (.iaload, 1)) (List.mem_of_getElem? (i := 27) rfl)
theorem dL_law_230 : decode cL_law 230 = .ok (.aload_n 0, 1) := dgL_law_0 (230, (.aload_n 0, 1)) (List.mem_of_getElem? (i := 28) rfl)
theorem dL_law_231 : decode cL_law 231 = .ok (.iload_n 3, 1) := dgL_law_0 (231, (.iload_n 3, 1)) (List.mem_of_getElem? (i := 29) rfl)
theorem dL_law_232 : decode cL_law 232 = .ok (.iconst 2, 1) := dgL_law_0 (232, (.iconst 2, 1)) (List.mem_of_getElem? (i := 30) rfl)
theorem dL_law_233 : decode cL_law 233 = .ok (.iadd, 1) := dgL_law_0 (233, (.iadd, 1)) (List.mem_of_getElem? (i := 31) rfl)
theorem dL_law_234 : decode cL_law 234 = .ok (.iaload, 1) := dgL_law_0 (234, (.iaload, 1)) (List.mem_of_getElem? (i := 32) rfl)
theorem dL_law_235 : decode cL_law 235 = .ok (.invokevirtual 13, 3) := dgL_law_0 (235, (.invokevirtual 13, 3)) (List.mem_of_getElem? (i := 33) rfl)
theorem dL_law_238 : decode cL_law 238 = .ok (.pop, 1) := dgL_law_0 (238, (.pop, 1)) (List.mem_of_getElem? (i := 34) rfl)
theorem dL_law_239 : decode cL_law 239 = .ok (.aload_n 2, 1) := dgL_law_0 (239, (.aload_n 2, 1)) (List.mem_of_getElem? (i := 35) rfl)
theorem dL_law_240 : decode cL_law 240 = .ok (.aload_n 0, 1) := dgL_law_0 (240, (.aload_n 0, 1)) (List.mem_of_getElem? (i := 36) rfl)
theorem dL_law_241 : decode cL_law 241 = .ok (.iload_n 3, 1) := dgL_law_0 (241, (.iload_n 3, 1)) (List.mem_of_getElem? (i := 37) rfl)
theorem dL_law_242 : decode cL_law 242 = .ok (.iconst 1, 1) := dgL_law_0 (242, (.iconst 1, 1)) (List.mem_of_getElem? (i := 38) rfl)
theorem dL_law_243 : decode cL_law 243 = .ok (.iadd, 1) := dgL_law_0 (243, (.iadd, 1)) (List.mem_of_getElem? (i := 39) rfl)
theorem dgL_law_1 : ∀ r ∈ ([(244, (.iaload, 1)), (245, (.aload_n 0, 1)), (246, (.iload_n 3, 1)), (247, (.iconst 2, 1)), (248, (.iadd, 1)), (249, (.iaload, 1)), (250, (.invokevirtual 17, 3)), (253, (.pop, 1)), (254, (.goto 1394, 3)), (257, (.aload_n 1, 1)), (258, (.aload_n 0, 1)), (259, (.iload_n 3, 1)), (260, (.iconst 1, 1)), (261, (.iadd, 1)), (262, (.iaload, 1)), (263, (.aload_n 0, 1)), (264, (.iload_n 3, 1)), (265, (.iconst 2, 1)), (266, (.iadd, 1)), (267, (.iaload, 1)), (268, (.aload_n 0, 1)), (269, (.iload_n 3, 1)), (270, (.iconst 3, 1)), (271, (.iadd, 1)), (272, (.iaload, 1)), (273, (.aload_n 0, 1)), (274, (.iload_n 3, 1)), (275, (.iconst 4, 1)), (276, (.iadd, 1)), (277, (.iaload, 1)), (278, (.invokevirtual 18, 3)), (281, (.pop, 1)), (282, (.aload_n 2, 1)), (283, (.aload_n 0, 1)), (284, (.iload_n 3, 1)), (285, (.iconst 1, 1)), (286, (.iadd, 1)), (287, (.iaload, 1)), (288, (.aload_n 0, 1)), (289, (.iload_n 3, 1))] : List (Nat × (Instr × Nat))), decode cL_law r.1 = .ok r.2 := by decide +kernel
theorem dL_law_244 : decode cL_law 244 = .ok (.iaload, 1) := dgL_law_1 (244, (.iaload, 1)) (List.mem_of_getElem? (i := 0) rfl)
theorem dL_law_245 : decode cL_law 245 = .ok (.aload_n 0, 1) := dgL_law_1 (245, (.aload_n 0, 1)) (List.mem_of_getElem? (i := 1) rfl)
theorem dL_law_246 : decode cL_law 246 = .ok (.iload_n 3, 1) := dgL_law_1 (246, (.iload_n 3, 1)) (List.mem_of_getElem? (i := 2) rfl)
theorem dL_law_247 : decode cL_law 247 = .ok (.iconst 2, 1) := dgL_law_1 (247, (.iconst 2, 1)) (List.mem_of_getElem? (i := 3) rfl)
theorem dL_law_248 : decode cL_law 248 = .ok (.iadd, 1) := dgL_law_1 (248, (.iadd, 1)) (List.mem_of_getElem? (i := 4) rfl)
theorem dL_law_249 : decode cL_law 249 = .ok (.iaload, 1) := dgL_law_1 (249, (.iaload, 1)) (List.mem_of_getElem? (i := 5) rfl)
theorem dL_law_250 : decode cL_law 250 = .ok (.invokevirtual 17, 3) := dgL_law_1 (250, (.invokevirtual 17, 3)) (List.mem_of_getElem? (i := 6) rfl)
theorem dL_law_253 : decode cL_law 253 = .ok (.pop, 1) := dgL_law_1 (253, (.pop, 1)) (List.mem_of_getElem? (i := 7) rfl)
theorem dL_law_254 : decode cL_law 254 = .ok (.goto 1394, 3) := dgL_law_1 (254, (.goto 1394, 3)) (List.mem_of_getElem? (i := 8) rfl)
theorem dL_law_257 : decode cL_law 257 = .ok (.aload_n 1, 1) := dgL_law_1 (257, (.aload_n 1, 1)) (List.mem_of_getElem? (i := 9) rfl)
theorem dL_law_258 : decode cL_law 258 = .ok (.aload_n 0, 1) := dgL_law_1 (258, (.aload_n 0, 1)) (List.mem_of_getElem? (i := 10) rfl)
theorem dL_law_259 : decode cL_law 259 = .ok (.iload_n 3, 1) := dgL_law_1 (259, (.iload_n 3, 1)) (List.mem_of_getElem? (i := 11) rfl)
theorem dL_law_260 : decode cL_law 260 = .ok (.iconst 1, 1) := dgL_law_1 (260, (.iconst 1, 1)) (List.mem_of_getElem? (i := 12) rfl)
theorem dL_law_261 : decode cL_law 261 = .ok (.iadd, 1) := dgL_law_1 (261, (.iadd, 1)) (List.mem_of_getElem? (i := 13) rfl)
theorem dL_law_262 : decode cL_law 262 = .ok (.iaload, 1) := dgL_law_1 (262, (.iaload, 1)) (List.mem_of_getElem? (i := 14) rfl)
theorem dL_law_263 : decode cL_law 263 = .ok (.aload_n 0, 1) := dgL_law_1 (263, (.aload_n 0, 1)) (List.mem_of_getElem? (i := 15) rfl)
theorem dL_law_264 : decode cL_law 264 = .ok (.iload_n 3, 1) := dgL_law_1 (264, (.iload_n 3, 1)) (List.mem_of_getElem? (i := 16) rfl)
theorem dL_law_265 : decode cL_law 265 = .ok (.iconst 2, 1) := dgL_law_1 (265, (.iconst 2, 1)) (List.mem_of_getElem? (i := 17) rfl)
theorem dL_law_266 : decode cL_law 266 = .ok (.iadd, 1) := dgL_law_1 (266, (.iadd, 1)) (List.mem_of_getElem? (i := 18) rfl)
theorem dL_law_267 : decode cL_law 267 = .ok (.iaload, 1) := dgL_law_1 (267, (.iaload, 1)) (List.mem_of_getElem? (i := 19) rfl)
theorem dL_law_268 : decode cL_law 268 = .ok (.aload_n 0, 1) := dgL_law_1 (268, (.aload_n 0, 1)) (List.mem_of_getElem? (i := 20) rfl)
theorem dL_law_269 : decode cL_law 269 = .ok (.iload_n 3, 1) := dgL_law_1 (269, (.iload_n 3, 1)) (List.mem_of_getElem? (i := 21) rfl)
theorem dL_law_270 : decode cL_law 270 = .ok (.iconst 3, 1) := dgL_law_1 (270, (.iconst 3, 1)) (List.mem_of_getElem? (i := 22) rfl)
theorem dL_law_271 : decode cL_law 271 = .ok (.iadd, 1) := dgL_law_1 (271, (.iadd, 1)) (List.mem_of_getElem? (i := 23) rfl)
theorem dL_law_272 : decode cL_law 272 = .ok (.iaload, 1) := dgL_law_1 (272, (.iaload, 1)) (List.mem_of_getElem? (i := 24) rfl)
theorem dL_law_273 : decode cL_law 273 = .ok (.aload_n 0, 1) := dgL_law_1 (273, (.aload_n 0, 1)) (List.mem_of_getElem? (i := 25) rfl)
theorem dL_law_274 : decode cL_law 274 = .ok (.iload_n 3, 1) := dgL_law_1 (274, (.iload_n 3, 1)) (List.mem_of_getElem? (i := 26) rfl)
theorem dL_law_275 : decode cL_law 275 = .ok (.iconst 4, 1) := dgL_law_1 (275, (.iconst 4, 1)) (List.mem_of_getElem? (i := 27) rfl)
theorem dL_law_276 : decode cL_law 276 = .ok (.iadd, 1) := dgL_law_1 (276, (.iadd, 1)) (List.mem_of_getElem? (i := 28) rfl)
theorem dL_law_277 : decode cL_law 277 = .ok (.iaload, 1) := dgL_law_1 (277, (.iaload, 1)) (List.mem_of_getElem? (i := 29) rfl)
theorem dL_law_278 : decode cL_law 278 = .ok (.invokevirtual 18, 3) := dgL_law_1 (278, (.invokevirtual 18, 3)) (List.mem_of_getElem? (i := 30) rfl)
theorem dL_law_281 : decode cL_law 281 = .ok (.pop, 1) := dgL_law_1 (281, (.pop, 1)) (List.mem_of_getElem? (i := 31) rfl)
theorem dL_law_282 : decode cL_law 282 = .ok (.aload_n 2, 1) := dgL_law_1 (282, (.aload_n 2, 1)) (List.mem_of_getElem? (i := 32) rfl)
theorem dL_law_283 : decode cL_law 283 = .ok (.aload_n 0, 1) := dgL_law_1 (283, (.aload_n 0, 1)) (List.mem_of_getElem? (i := 33) rfl)
theorem dL_law_284 : decode cL_law 284 = .ok (.iload_n 3, 1) := dgL_law_1 (284, (.iload_n 3, 1)) (List.mem_of_getElem? (i := 34) rfl)
theorem dL_law_285 : decode cL_law 285 = .ok (.iconst 1, 1) := dgL_law_1 (285, (.iconst 1, 1)) (List.mem_of_getElem? (i := 35) rfl)
theorem dL_law_286 : decode cL_law 286 = .ok (.iadd, 1) := dgL_law_1 (286, (.iadd, 1)) (List.mem_of_getElem? (i := 36) rfl)
theorem dL_law_287 : decode cL_law 287 = .ok (.iaload, 1) := dgL_law_1 (287, (.iaload, 1)) (List.mem_of_getElem? (i := 37) rfl)
theorem dL_law_288 : decode cL_law 288 = .ok (.aload_n 0, 1) := dgL_law_1 (288, (.aload_n 0, 1)) (List.mem_of_getElem? (i := 38) rfl)
theorem dL_law_289 : decode cL_law 289 = .ok (.iload_n 3, 1) := dgL_law_1 (289, (.iload_n 3, 1)) (List.mem_of_getElem? (i := 39) rfl)
theorem dgL_law_2 : ∀ r ∈ ([(290, (.iconst 2, 1)), (291, (.iadd, 1)), (292, (.iaload, 1)), (293, (.aload_n 0, 1)), (294, (.iload_n 3, 1)), (295, (.iconst 3, 1)), (296, (.iadd, 1)), (297, (.iaload, 1)), (298, (.aload_n 0, 1)), (299, (.iload_n 3, 1)), (300, (.iconst 4, 1)), (301, (.iadd, 1)), (302, (.iaload, 1)), (303, (.invokevirtual 22, 3)), (306, (.pop, 1)), (307, (.goto 1341, 3)), (310, (.aload_n 1, 1)), (311, (.aload_n 0, 1)), (312, (.iload_n 3, 1)), (313, (.iconst 1, 1)), (314, (.iadd, 1)), (315, (.iaload, 1)), (316, (.aload_n 0, 1)), (317, (.iload_n 3, 1)), (318, (.iconst 2, 1)), (319, (.iadd, 1)), (320, (.iaload, 1)), (321, (.aload_n 0, 1)), (322, (.iload_n 3, 1)), (323, (.iconst 3, 1)), (324, (.iadd, 1)), (325, (.iaload, 1)), (326, (.invokevirtual 23, 3)), (329, (.pop, 1)), (330, (.aload_n 2, 1)), (331, (.aload_n 0, 1)), (332, (.iload_n 3, 1)), (333, (.iconst 1, 1)), (334, (.iadd, 1)), (335, (.iaload, 1))] : List (Nat × (Instr × Nat))), decode cL_law r.1 = .ok r.2 := by decide +kernel
theorem dL_law_290 : decode cL_law 290 = .ok (.iconst 2, 1) := dgL_law_2 (290, (.iconst 2, 1)) (List.mem_of_getElem? (i := 0) rfl)
theorem dL_law_291 : decode cL_law 291 = .ok (.iadd, 1) := dgL_law_2 (291, (.iadd, 1)) (List.mem_of_getElem? (i := 1) rfl)
theorem dL_law_292 : decode cL_law 292 = .ok (.iaload, 1) := dgL_law_2 (292, (.iaload, 1)) (List.mem_of_getElem? (i := 2) rfl)
theorem dL_law_293 : decode cL_law 293 = .ok (.aload_n 0, 1) := dgL_law_2 (293, (.aload_n 0, 1)) (List.mem_of_getElem? (i := 3) rfl)
theorem dL_law_294 : decode cL_law 294 = .ok (.iload_n 3, 1) := dgL_law_2 (294, (.iload_n 3, 1)) (List.mem_of_getElem? (i := 4) rfl)
theorem dL_law_295 : decode cL_law 295 = .ok (.iconst 3, 1) := dgL_law_2 (295, (.iconst 3, 1)) (List.mem_of_getElem? (i := 5) rfl)
theorem dL_law_296 : decode cL_law 296 = .ok (.iadd, 1) := dgL_law_2 (296, (.iadd, 1)) (List.mem_of_getElem? (i := 6) rfl)
theorem dL_law_297 : decode cL_law 297 = .ok (.iaload, 1) := dgL_law_2 (297, (.iaload, 1)) (List.mem_of_getElem? (i := 7) rfl)
theorem dL_law_298 : decode cL_law 298 = .ok (.aload_n 0, 1) := dgL_law_2 (298, (.aload_n 0, 1)) (List.mem_of_getElem? (i := 8) rfl)
theorem dL_law_299 : decode cL_law 299 = .ok (.iload_n 3, 1) := dgL_law_2 (299, (.iload_n 3, 1)) (List.mem_of_getElem? (i := 9) rfl)
theorem dL_law_300 : decode cL_law 300 = .ok (.iconst 4, 1) := dgL_law_2 (300, (.iconst 4, 1)) (List.mem_of_getElem? (i := 10) rfl)
theorem dL_law_301 : decode cL_law 301 = .ok (.iadd, 1) := dgL_law_2 (301, (.iadd, 1)) (List.mem_of_getElem? (i := 11) rfl)
theorem dL_law_302 : decode cL_law 302 = .ok (.iaload, 1) := dgL_law_2 (302, (.iaload, 1)) (List.mem_of_getElem? (i := 12) rfl)
theorem dL_law_303 : decode cL_law 303 = .ok (.invokevirtual 22, 3) := dgL_law_2 (303, (.invokevirtual 22, 3)) (List.mem_of_getElem? (i := 13) rfl)
theorem dL_law_306 : decode cL_law 306 = .ok (.pop, 1) := dgL_law_2 (306, (.pop, 1)) (List.mem_of_getElem? (i := 14) rfl)
theorem dL_law_307 : decode cL_law 307 = .ok (.goto 1341, 3) := dgL_law_2 (307, (.goto 1341, 3)) (List.mem_of_getElem? (i := 15) rfl)
theorem dL_law_310 : decode cL_law 310 = .ok (.aload_n 1, 1) := dgL_law_2 (310, (.aload_n 1, 1)) (List.mem_of_getElem? (i := 16) rfl)
theorem dL_law_311 : decode cL_law 311 = .ok (.aload_n 0, 1) := dgL_law_2 (311, (.aload_n 0, 1)) (List.mem_of_getElem? (i := 17) rfl)
theorem dL_law_312 : decode cL_law 312 = .ok (.iload_n 3, 1) := dgL_law_2 (312, (.iload_n 3, 1)) (List.mem_of_getElem? (i := 18) rfl)
theorem dL_law_313 : decode cL_law 313 = .ok (.iconst 1, 1) := dgL_law_2 (313, (.iconst 1, 1)) (List.mem_of_getElem? (i := 19) rfl)
theorem dL_law_314 : decode cL_law 314 = .ok (.iadd, 1) := dgL_law_2 (314, (.iadd, 1)) (List.mem_of_getElem? (i := 20) rfl)
theorem dL_law_315 : decode cL_law 315 = .ok (.iaload, 1) := dgL_law_2 (315, (.iaload, 1)) (List.mem_of_getElem? (i := 21) rfl)
theorem dL_law_316 : decode cL_law 316 = .ok (.aload_n 0, 1) := dgL_law_2 (316, (.aload_n 0, 1)) (List.mem_of_getElem? (i := 22) rfl)
theorem dL_law_317 : decode cL_law 317 = .ok (.iload_n 3, 1) := dgL_law_2 (317, (.iload_n 3, 1)) (List.mem_of_getElem? (i := 23) rfl)
theorem dL_law_318 : decode cL_law 318 = .ok (.iconst 2, 1) := dgL_law_2 (318, (.iconst 2, 1)) (List.mem_of_getElem? (i := 24) rfl)
theorem dL_law_319 : decode cL_law 319 = .ok (.iadd, 1) := dgL_law_2 (319, (.iadd, 1)) (List.mem_of_getElem? (i := 25) rfl)
theorem dL_law_320 : decode cL_law 320 = .ok (.iaload, 1) := dgL_law_2 (320, (.iaload, 1)) (List.mem_of_getElem? (i := 26) rfl)
theorem dL_law_321 : decode cL_law 321 = .ok (.aload_n 0, 1) := dgL_law_2 (321, (.aload_n 0, 1)) (List.mem_of_getElem? (i := 27) rfl)
theorem dL_law_322 : decode cL_law 322 = .ok (.iload_n 3, 1) := dgL_law_2 (322, (.iload_n 3, 1)) (List.mem_of_getElem? (i := 28) rfl)
theorem dL_law_323 : decode cL_law 323 = .ok (.iconst 3, 1) := dgL_law_2 (323, (.iconst 3, 1)) (List.mem_of_getElem? (i := 29) rfl)
theorem dL_law_324 : decode cL_law 324 = .ok (.iadd, 1) := dgL_law_2 (324, (.iadd, 1)) (List.mem_of_getElem? (i := 30) rfl)
theorem dL_law_325 : decode cL_law 325 = .ok (.iaload, 1) := dgL_law_2 (325, (.iaload, 1)) (List.mem_of_getElem? (i := 31) rfl)
theorem dL_law_326 : decode cL_law 326 = .ok (.invokevirtual 23, 3) := dgL_law_2 (326, (.invokevirtual 23, 3)) (List.mem_of_getElem? (i := 32) rfl)
theorem dL_law_329 : decode cL_law 329 = .ok (.pop, 1) := dgL_law_2 (329, (.pop, 1)) (List.mem_of_getElem? (i := 33) rfl)
theorem dL_law_330 : decode cL_law 330 = .ok (.aload_n 2, 1) := dgL_law_2 (330, (.aload_n 2, 1)) (List.mem_of_getElem? (i := 34) rfl)
theorem dL_law_331 : decode cL_law 331 = .ok (.aload_n 0, 1) := dgL_law_2 (331, (.aload_n 0, 1)) (List.mem_of_getElem? (i := 35) rfl)
theorem dL_law_332 : decode cL_law 332 = .ok (.iload_n 3, 1) := dgL_law_2 (332, (.iload_n 3, 1)) (List.mem_of_getElem? (i := 36) rfl)
theorem dL_law_333 : decode cL_law 333 = .ok (.iconst 1, 1) := dgL_law_2 (333, (.iconst 1, 1)) (List.mem_of_getElem? (i := 37) rfl)
theorem dL_law_334 : decode cL_law 334 = .ok (.iadd, 1) := dgL_law_2 (334, (.iadd, 1)) (List.mem_of_getElem? (i := 38) rfl)
theorem dL_law_335 : decode cL_law 335 = .ok (.iaload, 1) := dgL_law_2 (335, (.iaload, 1)) (List.mem_of_getElem? (i := 39) rfl)
theorem dgL_law_3 : ∀ r ∈ ([(336, (.aload_n 0, 1)), (337, (.iload_n 3, 1)), (338, (.iconst 2, 1)), (339, (.iadd, 1)), (340, (.iaload, 1)), (341, (.aload_n 0, 1)), (342, (.iload_n 3, 1)), (343, (.iconst 3, 1)), (344, (.iadd, 1)), (345, (.iaload, 1)), (346, (.invokevirtual 27, 3)), (349, (.pop, 1)), (350, (.goto 1298, 3)), (353, (.aload_n 1, 1)), (354, (.aload_n 0, 1)), (355, (.iload_n 3, 1)), (356, (.iconst 1, 1)), (357, (.iadd, 1)), (358, (.iaload, 1)), (359, (.aload_n 0, 1)), (360, (.iload_n 3, 1)), (361, (.iconst 2, 1)), (362, (.iadd, 1)), (363, (.iaload, 1)), (364, (.invokevirtual 28, 3)), (367, (.pop, 1)), (368, (.aload_n 2, 1)), (369, (.aload_n 0, 1)), (370, (.iload_n 3, 1)), (371, (.iconst 1, 1)), (372, (.iadd, 1)), (373, (.iaload, 1)), (374, (.aload_n 0, 1)), (375, (.iload_n 3, 1)), (376, (.iconst 2, 1)), (377, (.iadd, 1)), (378, (.iaload, 1)), (379, (.invokevirtual 31, 3)), (382, (.pop, 1)), (383, (.goto 1265, 3))] : List (Nat × (Instr × Nat))), decode cL_law r.1 = .ok r.2 := by decide +kernel
theorem dL_law_336 : decode cL_law 336 = .ok (.aload_n 0, 1) := dgL_law_3 (336, (.aload_n 0, 1)) (List.mem_of_getElem? (i := 0) rfl)
theorem dL_law_337 : decode cL_law 337 = .ok (.iload_n 3, 1) := dgL_law_3 (337, (.iload_n 3, 1)) (List.mem_of_getElem? (i := 1) rfl)
theorem dL_law_338 : decode cL_law 338 = .ok (.iconst 2, 1) := dgL_law_3 (338, (.iconst 2, 1)) (List.mem_of_getElem? (i := 2) rfl)
theorem dL_law_339 : decode cL_law 339 = .ok (.iadd, 1) := dgL_law_3 (339, (.iadd, 1)) (List.mem_of_getElem? (i := 3) rfl)
theorem dL_law_340 : decode cL_law 340 = .ok (.iaload, 1) := dgL_law_3 (340, (.iaload, 1)) (List.mem_of_getElem? (i := 4) rfl)
theorem dL_law_341 : decode cL_law 341 = .ok (.aload_n 0, 1) := dgL_law_3 (341, (.aload_n 0, 1)) (List.mem_of_getElem? (i := 5) rfl)
theorem dL_law_342 : decode cL_law 342 = .ok (.iload_n 3, 1) := dgL_law_3 (342, (.iload_n 3, 1)) (List.mem_of_getElem? (i := 6) rfl)
theorem dL_law_343 : decode cL_law 343 = .ok (.iconst 3, 1) := dgL_law_3 (343, (.iconst 3, 1)) (List.mem_of_getElem? (i := 7) rfl)
theorem dL_law_344 : decode cL_law 344 = .ok (.iadd, 1) := dgL_law_3 (344, (.iadd, 1)) (List.mem_of_getElem? (i := 8) rfl)
theorem dL_law_345 : decode cL_law 345 = .ok (.iaload, 1) := dgL_law_3 (345, (.iaload, 1)) (List.mem_of_getElem? (i := 9) rfl)
theorem dL_law_346 : decode cL_law 346 = .ok (.invokevirtual 27, 3) := dgL_law_3 (346, (.invokevirtual 27, 3)) (List.mem_of_getElem? (i := 10) rfl)
theorem dL_law_349 : decode cL_law 349 = .ok (.pop, 1) := dgL_law_3 (349, (.pop, 1)) (List.mem_of_getElem? (i := 11) rfl)
theorem dL_law_350 : decode cL_law 350 = .ok (.goto 1298, 3) := dgL_law_3 (350, (.goto 1298, 3)) (List.mem_of_getElem? (i := 12) rfl)
theorem dL_law_353 : decode cL_law 353 = .ok (.aload_n 1, 1) := dgL_law_3 (353, (.aload_n 1, 1)) (List.mem_of_getElem? (i := 13) rfl)
theorem dL_law_354 : decode cL_law 354 = .ok (.aload_n 0, 1) := dgL_law_3 (354, (.aload_n 0, 1)) (List.mem_of_getElem? (i := 14) rfl)
theorem dL_law_355 : decode cL_law 355 = .ok (.iload_n 3, 1) := dgL_law_3 (355, (.iload_n 3, 1)) (List.mem_of_getElem? (i := 15) rfl)
theorem dL_law_356 : decode cL_law 356 = .ok (.iconst 1, 1) := dgL_law_3 (356, (.iconst 1, 1)) (List.mem_of_getElem? (i := 16) rfl)
theorem dL_law_357 : decode cL_law 357 = .ok (.iadd, 1) := dgL_law_3 (357, (.iadd, 1)) (List.mem_of_getElem? (i := 17) rfl)
theorem dL_law_358 : decode cL_law 358 = .ok (.iaload, 1) := dgL_law_3 (358, (.iaload, 1)) (List.mem_of_getElem? (i := 18) rfl)
theorem dL_law_359 : decode cL_law 359 = .ok (.aload_n 0, 1) := dgL_law_3 (359, (.aload_n 0, 1)) (List.mem_of_getElem? (i := 19) rfl)
theorem dL_law_360 : decode cL_law 360 = .ok (.iload_n 3, 1) := dgL_law_3 (360, (.iload_n 3, 1)) (List.mem_of_getElem? (i := 20) rfl)
theorem dL_law_361 : decode cL_law 361 = .ok (.iconst 2, 1) := dgL_law_3 (361, (.iconst 2, 1)) (List.mem_of_getElem? (i := 21) rfl)
theorem dL_law_362 : decode cL_law 362 = .ok (.iadd, 1) := dgL_law_3 (362, (.iadd, 1)) (List.mem_of_getElem? (i := 22) rfl)
theorem dL_law_363 : decode cL_law 363 = .ok (.iaload, 1) := dgL_law_3 (363, (.iaload, 1)) (List.mem_of_getElem? (i := 23) rfl)
theorem dL_law_364 : decode cL_law 364 = .ok (.invokevirtual 28, 3) := dgL_law_3 (364, (.invokevirtual 28, 3)) (List.mem_of_getElem? (i := 24) rfl)
theorem dL_law_367 : decode cL_law 367 = .ok (.pop, 1) := dgL_law_3 (367, (.pop, 1)) (List.mem_of_getElem? (i := 25) rfl)
theorem dL_law_368 : decode cL_law 368 = .ok (.aload_n 2, 1) := dgL_law_3 (368, (.aload_n 2, 1)) (List.mem_of_getElem? (i := 26) rfl)
theorem dL_law_369 : decode cL_law 369 = .ok (.aload_n 0, 1) := dgL_law_3 (369, (.aload_n 0, 1)) (List.mem_of_getElem? (i := 27) rfl)
theorem dL_law_370 : decode cL_law 370 = .ok (.iload_n 3, 1) := dgL_law_3 (370, (.iload_n 3, 1)) (List.mem_of_getElem? (i := 28) rfl)
theorem dL_law_371 : decode cL_law 371 = .ok (.iconst 1, 1) := dgL_law_3 (371, (.iconst 1, 1)) (List.mem_of_getElem? (i := 29) rfl)
theorem dL_law_372 : decode cL_law 372 = .ok (.iadd, 1) := dgL_law_3 (372, (.iadd, 1)) (List.mem_of_getElem? (i := 30) rfl)
theorem dL_law_373 : decode cL_law 373 = .ok (.iaload, 1) := dgL_law_3 (373, (.iaload, 1)) (List.mem_of_getElem? (i := 31) rfl)
theorem dL_law_374 : decode cL_law 374 = .ok (.aload_n 0, 1) := dgL_law_3 (374, (.aload_n 0, 1)) (List.mem_of_getElem? (i := 32) rfl)
theorem dL_law_375 : decode cL_law 375 = .ok (.iload_n 3, 1) := dgL_law_3 (375, (.iload_n 3, 1)) (List.mem_of_getElem? (i := 33) rfl)
theorem dL_law_376 : decode cL_law 376 = .ok (.iconst 2, 1) := dgL_law_3 (376, (.iconst 2, 1)) (List.mem_of_getElem? (i := 34) rfl)
theorem dL_law_377 : decode cL_law 377 = .ok (.iadd, 1) := dgL_law_3 (377, (.iadd, 1)) (List.mem_of_getElem? (i := 35) rfl)
theorem dL_law_378 : decode cL_law 378 = .ok (.iaload, 1) := dgL_law_3 (378, (.iaload, 1)) (List.mem_of_getElem? (i := 36) rfl)
theorem dL_law_379 : decode cL_law 379 = .ok (.invokevirtual 31, 3) := dgL_law_3 (379, (.invokevirtual 31, 3)) (List.mem_of_getElem? (i := 37) rfl)
theorem dL_law_382 : decode cL_law 382 = .ok (.pop, 1) := dgL_law_3 (382, (.pop, 1)) (List.mem_of_getElem? (i := 38) rfl)
theorem dL_law_383 : decode cL_law 383 = .ok (.goto 1265, 3) := dgL_law_3 (383, (.goto 1265, 3)) (List.mem_of_getElem? (i := 39) rfl)
theorem dgL_law_4 : ∀ r ∈ ([(386, (.aload_n 1, 1)), (387, (.invokevirtual 32, 3)), (390, (.pop, 1)), (391, (.aload_n 2, 1)), (392, (.invokevirtual 36, 3)), (395, (.pop, 1)), (396, (.goto 1252, 3)), (399, (.aload_n 1, 1)), (400, (.aload_n 0, 1)), (401, (.iload_n 3, 1)), (402, (.iconst 1, 1)), (403, (.iadd, 1)), (404, (.iaload, 1)), (405, (.aload_n 0, 1)), (406, (.iload_n 3, 1)), (407, (.iconst 2, 1)), (408, (.iadd, 1)), (409, (.iaload, 1)), (410, (.aload_n 0, 1)), (411, (.iload_n 3, 1)), (412, (.iconst 3, 1)), (413, (.iadd, 1)), (414, (.iaload, 1)), (415, (.aload_n 0, 1)), (416, (.iload_n 3, 1)), (417, (.iconst 4, 1)), (418, (.iadd, 1)), (419, (.iaload, 1)), (420, (.invokevirtual 37, 3)), (423, (.pop, 1)), (424, (.aload_n 2, 1)), (425, (.aload_n 0, 1)), (426, (.iload_n 3, 1)), (427, (.iconst 1, 1)), (428, (.iadd, 1)), (429, (.iaload, 1)), (430, (.aload_n 0, 1)), (431, (.iload_n 3, 1)), (432, (.iconst 2, 1)), (433, (.iadd, 1))] : List (Nat × (Instr × Nat))), decode cL_law r.1 = .ok r.2 := by decide +kernel
theorem dL_law_386 : decode cL_law 386 = .ok (.aload_n 1, 1) := dgL_law_4 (386, (.aload_n 1, 1)) (List.mem_of_getElem? (i := 0) rfl)
theorem dL_law_387 : decode cL_law 387 = .ok (.invokevirtual 32, 3) := dgL_law_4 (387, (.invokevirtual 32, 3)) (List.mem_of_getElem? (i := 1) rfl)
theorem dL_law_390 : decode cL_law 390 = .ok (.pop, 1) := dgL_law_4 (390, (.pop, 1)) (List.mem_of_getElem? (i := 2) rfl)
theorem dL_law_391 : decode cL_law 391 = .ok (.aload_n 2, 1) := dgL_law_4 (391, (.aload_n 2, 1)) (List.mem_of_getElem? (i := 3) rfl)
theorem dL_law_392 : decode cL_law 392 = .ok (.invokevirtual 36, 3) := dgL_law_4 (392, (.invokevirtual 36, 3)) (List.mem_of_getElem? (i := 4) rfl)
theorem dL_law_395 : decode cL_law 395 = .ok (.pop, 1) := dgL_law_4 (395, (.pop, 1)) (List.mem_of_getElem? (i := 5) rfl)
theorem dL_law_396 : decode cL_law 396 = .ok (.goto 1252, 3) := dgL_law_4 (396, (.goto 1252, 3)) (List.mem_of_getElem? (i := 6) rfl)
theorem dL_law_399 : decode cL_law 399 = .ok (.aload_n 1, 1) := dgL_law_4 (399, (.aload_n 1, 1)) (List.mem_of_getElem? (i := 7) rfl)
theorem dL_law_400 : decode cL_law 400 = .ok (.aload_n 0, 1) := dgL_law_4 (400, (.aload_n 0, 1)) (List.mem_of_getElem? (i := 8) rfl)
theorem dL_law_401 : decode cL_law 401 = .ok (.iload_n 3, 1) := dgL_law_4 (401, (.iload_n 3, 1)) (List.mem_of_getElem? (i := 9) rfl)
theorem dL_law_402 : decode cL_law 402 = .ok (.iconst 1, 1) := dgL_law_4 (402, (.iconst 1, 1)) (List.mem_of_getElem? (i := 10) rfl)
theorem dL_law_403 : decode cL_law 403 = .ok (.iadd, 1) := dgL_law_4 (403, (.iadd, 1)) (List.mem_of_getElem? (i := 11) rfl)
theorem dL_law_404 : decode cL_law 404 = .ok (.iaload, 1) := dgL_law_4 (404, (.iaload, 1)) (List.mem_of_getElem? (i := 12) rfl)
theorem dL_law_405 : decode cL_law 405 = .ok (.aload_n 0, 1) := dgL_law_4 (405, (.aload_n 0, 1)) (List.mem_of_getElem? (i := 13) rfl)
theorem dL_law_406 : decode cL_law 406 = .ok (.iload_n 3, 1) := dgL_law_4 (406, (.iload_n 3, 1)) (List.mem_of_getElem? (i := 14) rfl)
theorem dL_law_407 : decode cL_law 407 = .ok (.iconst 2, 1) := dgL_law_4 (407, (.iconst 2, 1)) (List.mem_of_getElem? (i := 15) rfl)
theorem dL_law_408 : decode cL_law 408 = .ok (.iadd, 1) := dgL_law_4 (408, (.iadd, 1)) (List.mem_of_getElem? (i := 16) rfl)
theorem dL_law_409 : decode cL_law 409 = .ok (.iaload, 1) := dgL_law_4 (409, (.iaload, 1)) (List.mem_of_getElem? (i := 17) rfl)
theorem dL_law_410 : decode cL_law 410 = .ok (.aload_n 0, 1) := dgL_law_4 (410, (.aload_n 0, 1)) (List.mem_of_getElem? (i := 18) rfl)
theorem dL_law_411 : decode cL_law 411 = .ok (.iload_n 3, 1) := dgL_law_4 (411, (.iload_n 3, 1)) (List.mem_of_getElem? (i := 19) rfl)
theorem dL_law_412 : decode cL_law 412 = .ok (.iconst 3, 1) := dgL_law_4 (412, (.iconst 3, 1)) (List.mem_of_getElem? (i := 20) rfl)
theorem dL_law_413 : decode cL_law 413 = .ok (.iadd, 1) := dgL_law_4 (413, (.iadd, 1)) (List.mem_of_getElem? (i := 21) rfl)
theorem dL_law_414 : decode cL_law 414 = .ok (.iaload, 1) := dgL_law_4 (414, (.iaload, 1)) (List.mem_of_getElem? (i := 22) rfl)
theorem dL_law_415 : decode cL_law 415 = .ok (.aload_n 0, 1) := dgL_law_4 (415, (.aload_n 0, 1)) (List.mem_of_getElem? (i := 23) rfl)
theorem dL_law_416 : decode cL_law 416 = .ok (.iload_n 3, 1) := dgL_law_4 (416, (.iload_n 3, 1)) (List.mem_of_getElem? (i := 24) rfl)
theorem dL_law_417 : decode cL_law 417 = .ok (.iconst 4, 1) := dgL_law_4 (417, (.iconst 4, 1)) (List.mem_of_getElem? (i := 25) rfl)
theorem dL_law_418 : decode cL_law 418 = .ok (.iadd, 1) := dgL_law_4 (418, (.iadd, 1)) (List.mem_of_getElem? (i := 26) rfl)
theorem dL_law_419 : decode cL_law 419 = .ok (.iaload, 1) := dgL_law_4 (419, (.iaload, 1)) (List.mem_of_getElem? (i := 27) rfl)
theorem dL_law_420 : decode cL_law 420 = .ok (.invokevirtual 37, 3) := dgL_law_4 (420, (.invokevirtual 37, 3)) (List.mem_of_getElem? (i := 28) rfl)
theorem dL_law_423 : decode cL_law 423 = .ok (.pop, 1) := dgL_law_4 (423, (.pop, 1)) (List.mem_of_getElem? (i := 29) rfl)
theorem dL_law_424 : decode cL_law 424 = .ok (.aload_n 2, 1) := dgL_law_4 (424, (.aload_n 2, 1)) (List.mem_of_getElem? (i := 30) rfl)
theorem dL_law_425 : decode cL_law 425 = .ok (.aload_n 0, 1) := dgL_law_4 (425, (.aload_n 0, 1)) (List.mem_of_getElem? (i := 31) rfl)
theorem dL_law_426 : decode cL_law 426 = .ok (.iload_n 3, 1) := dgL_law_4 (426, (.iload_n 3, 1)) (List.mem_of_getElem? (i := 32) rfl)
theorem dL_law_427 : decode cL_law 427 = .ok (.iconst 1, 1) := dgL_law_4 (427, (.iconst 1, 1)) (List.mem_of_getElem? (i := 33) rfl)
theorem dL_law_428 : decode cL_law 428 = .ok (.iadd, 1) := dgL_law_4 (428, (.iadd, 1)) (List.mem_of_getElem? (i := 34) rfl)
theorem dL_law_429 : decode cL_law 429 = .ok (.iaload, 1) := dgL_law_4 (429, (.iaload, 1)) (List.mem_of_getElem? (i := 35) rfl)
theorem dL_law_430 : decode cL_law 430 = .ok (.aload_n 0, 1) := dgL_law_4 (430, (.aload_n 0, 1)) (List.mem_of_getElem? (i := 36) rfl)
theorem dL_law_431 : decode cL_law 431 = .ok (.iload_n 3, 1) := dgL_law_4 (431, (.iload_n 3, 1)) (List.mem_of_getElem? (i := 37) rfl)
theorem dL_law_432 : decode cL_law 432 = .ok (.iconst 2, 1) := dgL_law_4 (432, (.iconst 2, 1)) (List.mem_of_getElem? (i := 38) rfl)
theorem dL_law_433 : decode cL_law 433 = .ok (.iadd, 1) := dgL_law_4 (433, (.iadd, 1)) (List.mem_of_getElem? (i := 39) rfl)
theorem dgL_law_5 : ∀ r ∈ ([(434, (.iaload, 1)), (435, (.aload_n 0, 1)), (436, (.iload_n 3, 1)), (437, (.iconst 3, 1)), (438, (.iadd, 1)), (439, (.iaload, 1)), (440, (.aload_n 0, 1)), (441, (.iload_n 3, 1)), (442, (.iconst 4, 1)), (443, (.iadd, 1)), (444, (.iaload, 1)), (445, (.invokevirtual 40, 3)), (448, (.pop, 1)), (449, (.goto 1199, 3)), (452, (.aload_n 1, 1)), (453, (.aload_n 0, 1)), (454, (.iload_n 3, 1)), (455, (.iconst 1, 1)), (456, (.iadd, 1)), (457, (.iaload, 1)), (458, (.aload_n 0, 1)), (459, (.iload_n 3, 1)), (460, (.iconst 2, 1)), (461, (.iadd, 1)), (462, (.iaload, 1)), (463, (.invokevirtual 41, 3)), (466, (.pop, 1)), (467, (.aload_n 2, 1)), (468, (.aload_n 0, 1)), (469, (.iload_n 3, 1)), (470, (.iconst 1, 1)), (471, (.iadd, 1)), (472, (.iaload, 1)), (473, (.aload_n 0, 1)), (474, (.iload_n 3, 1)), (475, (.iconst 2, 1)), (476, (.iadd, 1)), (477, (.iaload, 1)), (478, (.invokevirtual 44, 3)), (481, (.pop, 1))] : List (Nat × (Instr × Nat))), decode cL_law r.1 = .ok r.2 := by decide +kernel
theorem dL_law_434 : decode cL_law 434 = .ok (.iaload, 1) := dgL_law_5 (434, (.iaload, 1)) (List.mem_of_getElem? (i := 0) rfl)
theorem dL_law_435 : decode cL_law 435 = .ok (.aload_n 0, 1) := dgL_law_5 (435, (.aload_n 0, 1)) (List.mem_of_getElem? (i := 1) rfl)
theorem dL_law_436 : decode cL_law 436 = .ok (.iload_n 3, 1) := dgL_law_5 (436, (.iload_n 3, 1)) (List.mem_of_getElem? (i := 2) rfl)
theorem dL_law_437 : decode cL_law 437 = .ok (.iconst 3, 1) := dgL_law_5 (437, (.iconst 3, 1)) (List.mem_of_getElem? (i := 3) rfl)
theorem dL_law_438 : decode cL_law 438 = .ok (.iadd, 1) := dgL_law_5 (438, (.iadd, 1)) (List.mem_of_getElem? (i := 4) rfl)
theorem dL_law_439 : decode cL_law 439 = .ok (.iaload, 1) := dgL_law_5 (439, (.iaload, 1)) (List.mem_of_getElem? (i := 5) rfl)
theorem dL_law_440 : decode cL_law 440 = .ok (.aload_n 0, 1) := dgL_law_5 (440, (.aload_n 0, 1)) (List.mem_of_getElem? (i := 6) rfl)
theorem dL_law_441 : decode cL_law 441 = .ok (.iload_n 3, 1) := dgL_law_5 (441, (.iload_n 3, 1)) (List.mem_of_getElem? (i := 7) rfl)
theorem dL_law_442 : decode cL_law 442 = .ok (.iconst 4, 1) := dgL_law_5 (442, (.iconst 4, 1)) (List.mem_of_getElem? (i := 8) rfl)
theorem dL_law_443 : decode cL_law 443 = .ok (.iadd, 1) := dgL_law_5 (443, (.iadd, 1)) (List.mem_of_getElem? (i := 9) rfl)
theorem dL_law_444 : decode cL_law 444 = .ok (.iaload, 1) := dgL_law_5 (444, (.iaload, 1)) (List.mem_of_getElem? (i := 10) rfl)
theorem dL_law_445 : decode cL_law 445 = .ok (.invokevirtual 40, 3) := dgL_law_5 (445, (.invokevirtual 40, 3)) (List.mem_of_getElem? (i := 11) rfl)
theorem dL_law_448 : decode cL_law 448 = .ok (.pop, 1) := dgL_law_5 (448, (.pop, 1)) (List.mem_of_getElem? (i := 12) rfl)
theorem dL_law_449 : decode cL_law 449 = .ok (.goto 1199, 3) := dgL_law_5 (449, (.goto 1199, 3)) (List.mem_of_getElem? (i := 13) rfl)
theorem dL_law_452 : decode cL_law 452 = .ok (.aload_n 1, 1) := dgL_law_5 (452, (.aload_n 1, 1)) (List.mem_of_getElem? (i := 14) rfl)
theorem dL_law_453 : decode cL_law 453 = .ok (.aload_n 0, 1) := dgL_law_5 (453, (.aload_n 0, 1)) (List.mem_of_getElem? (i := 15) rfl)
theorem dL_law_454 : decode cL_law 454 = .ok (.iload_n 3, 1) := dgL_law_5 (454, (.iload_n 3, 1)) (List.mem_of_getElem? (i := 16) rfl)
theorem dL_law_455 : decode cL_law 455 = .ok (.iconst 1, 1) := dgL_law_5 (455, (.iconst 1, 1)) (List.mem_of_getElem? (i := 17) rfl)
theorem dL_law_456 : decode cL_law 456 = .ok (.iadd, 1) := dgL_law_5 (456, (.iadd, 1)) (List.mem_of_getElem? (i := 18) rfl)
theorem dL_law_457 : decode cL_law 457 = .ok (.iaload, 1) := dgL_law_5 (457, (.iaload, 1)) (List.mem_of_getElem? (i := 19) rfl)
theorem dL_law_458 : decode cL_law 458 = .ok (.aload_n 0, 1) := dgL_law_5 (458, (.aload_n 0, 1)) (List.mem_of_getElem? (i := 20) rfl)
theorem dL_law_459 : decode cL_law 459 = .ok (.iload_n 3, 1) := dgL_law_5 (459, (.iload_n 3, 1)) (List.mem_of_getElem? (i := 21) rfl)
theorem dL_law_460 : decode cL_law 460 = .ok (.iconst 2, 1) := dgL_law_5 (460, (.iconst 2, 1)) (List.mem_of_getElem? (i := 22) rfl)
theorem dL_law_461 : decode cL_law 461 = .ok (.iadd, 1) := dgL_law_5 (461, (.iadd, 1)) (List.mem_of_getElem? (i := 23) rfl)
theorem dL_law_462 : decode cL_law 462 = .ok (.iaload, 1) := dgL_law_5 (462, (.iaload, 1)) (List.mem_of_getElem? (i := 24) rfl)
theorem dL_law_463 : decode cL_law 463 = .ok (.invokevirtual 41, 3) := dgL_law_5 (463, (.invokevirtual 41, 3)) (List.mem_of_getElem? (i := 25) rfl)
theorem dL_law_466 : decode cL_law 466 = .ok (.pop, 1) := dgL_law_5 (466, (.pop, 1)) (List.mem_of_getElem? (i := 26) rfl)
theorem dL_law_467 : decode cL_law 467 = .ok (.aload_n 2, 1) := dgL_law_5 (467, (.aload_n 2, 1)) (List.mem_of_getElem? (i := 27) rfl)
theorem dL_law_468 : decode cL_law 468 = .ok (.aload_n 0, 1) := dgL_law_5 (468, (.aload_n 0, 1)) (List.mem_of_getElem? (i := 28) rfl)
theorem dL_law_469 : decode cL_law 469 = .ok (.iload_n 3, 1) := dgL_law_5 (469, (.iload_n 3, 1)) (List.mem_of_getElem? (i := 29) rfl)
theorem dL_law_470 : decode cL_law 470 = .ok (.iconst 1, 1) := dgL_law_5 (470, (.iconst 1, 1)) (List.mem_of_getElem? (i := 30) rfl)
theorem dL_law_471 : decode cL_law 471 = .ok (.iadd, 1) := dgL_law_5 (471, (.iadd, 1)) (List.mem_of_getElem? (i := 31) rfl)
theorem dL_law_472 : decode cL_law 472 = .ok (.iaload, 1) := dgL_law_5 (472, (.iaload, 1)) (List.mem_of_getElem? (i := 32) rfl)
theorem dL_law_473 : decode cL_law 473 = .ok (.aload_n 0, 1) := dgL_law_5 (473, (.aload_n 0, 1)) (List.mem_of_getElem? (i := 33) rfl)
theorem dL_law_474 : decode cL_law 474 = .ok (.iload_n 3, 1) := dgL_law_5 (474, (.iload_n 3, 1)) (List.mem_of_getElem? (i := 34) rfl)
theorem dL_law_475 : decode cL_law 475 = .ok (.iconst 2, 1) := dgL_law_5 (475, (.iconst 2, 1)) (List.mem_of_getElem? (i := 35) rfl)
theorem dL_law_476 : decode cL_law 476 = .ok (.iadd, 1) := dgL_law_5 (476, (.iadd, 1)) (List.mem_of_getElem? (i := 36) rfl)
theorem dL_law_477 : decode cL_law 477 = .ok (.iaload, 1) := dgL_law_5 (477, (.iaload, 1)) (List.mem_of_getElem? (i := 37) rfl)
theorem dL_law_478 : decode cL_law 478 = .ok (.invokevirtual 44, 3) := dgL_law_5 (478, (.invokevirtual 44, 3)) (List.mem_of_getElem? (i := 38) rfl)
theorem dL_law_481 : decode cL_law 481 = .ok (.pop, 1) := dgL_law_5 (481, (.pop, 1)) (List.mem_of_getElem? (i := 39) rfl)
theorem dgL_law_6 : ∀ r ∈ ([(482, (.goto 1166, 3)), (485, (.aload_n 1, 1)), (486, (.aload_n 0, 1)), (487, (.iload_n 3, 1)), (488, (.iconst 1, 1)), (489, (.iadd, 1)), (490, (.iaload, 1)), (491, (.invokevirtual 45, 3)), (494, (.pop, 1)), (495, (.aload_n 2, 1)), (496, (.aload_n 0, 1)), (497, (.iload_n 3, 1)), (498, (.iconst 1, 1)), (499, (.iadd, 1)), (500, (.iaload, 1)), (501, (.invokevirtual 49, 3)), (504, (.pop, 1)), (505, (.goto 1143, 3)), (508, (.aload_n 1, 1)), (509, (.aload_n 0, 1)), (510, (.iload_n 3, 1)), (511, (.iconst 1, 1)), (512, (.iadd, 1)), (513, (.iaload, 1)), (514, (.aload_n 0, 1)), (515, (.iload_n 3, 1)), (516, (.iconst 2, 1)), (517, (.iadd, 1)), (518, (.iaload, 1)), (519, (.aload_n 0, 1)), (520, (.iload_n 3, 1)), (521, (.iconst 3, 1)), (522, (.iadd, 1)), (523, (.iaload, 1)), (524, (.aload_n 0, 1)), (525, (.iload_n 3, 1)), (526, (.iconst 4, 1)), (527, (.iadd, 1)), (528, (.iaload, 1)), (529, (.aload_n 0, 1))] : List (Nat × (Instr × Nat))), decode cL_law r.1 = .ok r.2 := by decide +kernel
theorem dL_law_482 : decode cL_law 482 = .ok (.goto 1166, 3) := dgL_law_6 (482, (.goto 1166, 3)) (List.mem_of_getElem? (i := 0) rfl)
theorem dL_law_485 : decode cL_law 485 = .ok (.aload_n 1, 1) := dgL_law_6 (485, (.aload_n 1, 1)) (List.mem_of_getElem? (i := 1) rfl)
theorem dL_law_486 : decode cL_law 486 = .ok (.aload_n 0, 1) := dgL_law_6 (486, (.aload_n 0, 1)) (List.mem_of_getElem? (i := 2) rfl)
theorem dL_law_487 : decode cL_law 487 = .ok (.iload_n 3, 1) := dgL_law_6 (487, (.iload_n 3, 1)) (List.mem_of_getElem? (i := 3) rfl)
theorem dL_law_488 : decode cL_law 488 = .ok (.iconst 1, 1) := dgL_law_6 (488, (.iconst 1, 1)) (List.mem_of_getElem? (i := 4) rfl)
theorem dL_law_489 : decode cL_law 489 = .ok (.iadd, 1) := dgL_law_6 (489, (.iadd, 1)) (List.mem_of_getElem? (i := 5) rfl)
theorem dL_law_490 : decode cL_law 490 = .ok (.iaload, 1) := dgL_law_6 (490, (.iaload, 1)) (List.mem_of_getElem? (i := 6) rfl)
theorem dL_law_491 : decode cL_law 491 = .ok (.invokevirtual 45, 3) := dgL_law_6 (491, (.invokevirtual 45, 3)) (List.mem_of_getElem? (i := 7) rfl)
theorem dL_law_494 : decode cL_law 494 = .ok (.pop, 1) := dgL_law_6 (494, (.pop, 1)) (List.mem_of_getElem? (i := 8) rfl)
theorem dL_law_495 : decode cL_law 495 = .ok (.aload_n 2, 1) := dgL_law_6 (495, (.aload_n 2, 1)) (List.mem_of_getElem? (i := 9) rfl)
theorem dL_law_496 : decode cL_law 496 = .ok (.aload_n 0, 1) := dgL_law_6 (496, (.aload_n 0, 1)) (List.mem_of_getElem? (i := 10) rfl)
theorem dL_law_497 : decode cL_law 497 = .ok (.iload_n 3, 1) := dgL_law_6 (497, (.iload_n 3, 1)) (List.mem_of_getElem? (i := 11) rfl)
theorem dL_law_498 : decode cL_law 498 = .ok (.iconst 1, 1) := dgL_law_6 (498, (.iconst 1, 1)) (List.mem_of_getElem? (i := 12) rfl)
theorem dL_law_499 : decode cL_law 499 = .ok (.iadd, 1) := dgL_law_6 (499, (.iadd, 1)) (List.mem_of_getElem? (i := 13) rfl)
theorem dL_law_500 : decode cL_law 500 = .ok (.iaload, 1) := dgL_law_6 (500, (.iaload, 1)) (List.mem_of_getElem? (i := 14) rfl)
theorem dL_law_501 : decode cL_law 501 = .ok (.invokevirtual 49, 3) := dgL_law_6 (501, (.invokevirtual 49, 3)) (List.mem_of_getElem? (i := 15) rfl)
theorem dL_law_504 : decode cL_law 504 = .ok (.pop, 1) := dgL_law_6 (504, (.pop, 1)) (List.mem_of_getElem? (i := 16) rfl)
theorem dL_law_505 : decode cL_law 505 = .ok (.goto 1143, 3) := dgL_law_6 (505, (.goto 1143, 3)) (List.mem_of_getElem? (i := 17) rfl)
theorem dL_law_508 : decode cL_law 508 = .ok (.aload_n 1, 1) := dgL_law_6 (508, (.aload_n 1, 1)) (List.mem_of_getElem? (i := 18) rfl)
theorem dL_law_509 : decode cL_law 509 = .ok (.aload_n 0, 1) := dgL_law_6 (509, (.aload_n 0, 1)) (List.mem_of_getElem? (i := 19) rfl)
theorem dL_law_510 : decode cL_law 510 = .ok (.iload_n 3, 1) := dgL_law_6 (510, (.iload_n 3, 1)) (List.mem_of_getElem? (i := 20) rfl)
theorem dL_law_511 : decode cL_law 511 = .ok (.iconst 1, 1) := dgL_law_6 (511, (.iconst 1, 1)) (List.mem_of_getElem? (i := 21) rfl)
theorem dL_law_512 : decode cL_law 512 = .ok (.iadd, 1) := dgL_law_6 (512, (.iadd, 1)) (List.mem_of_getElem? (i := 22) rfl)
theorem dL_law_513 : decode cL_law 513 = .ok (.iaload, 1) := dgL_law_6 (513, (.iaload, 1)) (List.mem_of_getElem? (i := 23) rfl)
theorem dL_law_514 : decode cL_law 514 = .ok (.aload_n 0, 1) := dgL_law_6 (514, (.aload_n 0, 1)) (List.mem_of_getElem? (i := 24) rfl)
theorem dL_law_515 : decode cL_law 515 = .ok (.iload_n 3, 1) := dgL_law_6 (515, (.iload_n 3, 1)) (List.mem_of_getElem? (i := 25) rfl)
theorem dL_law_516 : decode cL_law 516 = .ok (.iconst 2, 1) := dgL_law_6 (516, (.iconst 2, 1)) (List.mem_of_getElem? (i := 26) rfl)
theorem dL_law_517 : decode cL_law 517 = .ok (.iadd, 1) := dgL_law_6 (517, (.iadd, 1)) (List.mem_of_getElem? (i := 27) rfl)
theorem dL_law_518 : decode cL_law 518 = .ok (.iaload, 1) := dgL_law_6 (518, (.iaload, 1)) (List.mem_of_getElem? (i := 28) rfl)
theorem dL_law_519 : decode cL_law 519 = .ok (.aload_n 0, 1) := dgL_law_6 (519, (.aload_n 0, 1)) (List.mem_of_getElem? (i := 29) rfl)
theorem dL_law_520 : decode cL_law 520 = .ok (.iload_n 3, 1) := dgL_law_6 (520, (.iload_n 3, 1)) (List.mem_of_getElem? (i := 30) rfl)
theorem dL_law_521 : decode cL_law 521 = .ok (.iconst 3, 1) := dgL_law_6 (521, (.iconst 3, 1)) (List.mem_of_getElem? (i := 31) rfl)
theorem dL_law_522 : decode cL_law 522 = .ok (.iadd, 1) := dgL_law_6 (522, (.iadd, 1)) (List.mem_of_getElem? (i := 32) rfl)
theorem dL_law_523 : decode cL_law 523 = .ok (.iaload, 1) := dgL_law_6 (523, (.iaload, 1)) (List.mem_of_getElem? (i := 33) rfl)
theorem dL_law_524 : decode cL_law 524 = .ok (.aload_n 0, 1) := dgL_law_6 (524, (.aload_n 0, 1)) (List.mem_of_getElem? (i := 34) rfl)
theorem dL_law_525 : decode cL_law 525 = .ok (.iload_n 3, 1) := dgL_law_6 (525, (.iload_n 3, 1)) (List.mem_of_getElem? (i := 35) rfl)
theorem dL_law_526 : decode cL_law 526 = .ok (.iconst 4, 1) := dgL_law_6 (526, (.iconst 4, 1)) (List.mem_of_getElem? (i := 36) rfl)
theorem dL_law_527 : decode cL_law 527 = .ok (.iadd, 1) := dgL_law_6 (527, (.iadd, 1)) (List.mem_of_getElem? (i := 37) rfl)
theorem dL_law_528 : decode cL_law 528 = .ok (.iaload, 1) := dgL_law_6 (528, (.iaload, 1)) (List.mem_of_getElem? (i := 38) rfl)
theorem dL_law_529 : decode cL_law 529 = .ok (.aload_n 0, 1) := dgL_law_6 (529, (.aload_n 0, 1)) (List.mem_of_getElem? (i := 39) rfl)
theorem dgL_law_7 : ∀ r ∈ ([(530, (.iload_n 3, 1)), (531, (.iconst 5, 1)), (532, (.iadd, 1)), (533, (.iaload, 1)), (534, (.invokevirtual 50, 3)), (537, (.pop, 1)), (538, (.aload_n 2, 1)), (539, (.aload_n 0, 1)), (540, (.iload_n 3, 1)), (541, (.iconst 1, 1)), (542, (.iadd, 1)), (543, (.iaload, 1)), (544, (.aload_n 0, 1)), (545, (.iload_n 3, 1)), (546, (.iconst 2, 1)), (547, (.iadd, 1)), (548, (.iaload, 1)), (549, (.aload_n 0, 1)), (550, (.iload_n 3, 1)), (551, (.iconst 3, 1)), (552, (.iadd, 1)), (553, (.iaload, 1)), (554, (.aload_n 0, 1)), (555, (.iload_n 3, 1)), (556, (.iconst 4, 1)), (557, (.iadd, 1)), (558, (.iaload, 1)), (559, (.aload_n 0, 1)), (560, (.iload_n 3, 1)), (561, (.iconst 5, 1)), (562, (.iadd, 1)), (563, (.iaload, 1)), (564, (.invokevirtual 54, 3)), (567, (.pop, 1)), (568, (.goto 1080, 3)), (571, (.aload_n 1, 1)), (572, (.aload_n 0, 1)), (573, (.iload_n 3, 1)), (574, (.iconst 1, 1)), (575, (.iadd, 1))] : List (Nat × (Instr × Nat))), decode cL_law r.1 = .ok r.2 := by decide +kernel
theorem dL_law_530 : decode cL_law 530 = .ok (.iload_n 3, 1) := dgL_law_7 (530, (.iload_n 3, 1)) (List.mem_of_getElem? (i := 0) rfl)
theorem dL_law_531 : decode cL_law 531 = .ok (.iconst 5, 1) := dgL_law_7 (531, (.iconst 5, 1)) (List.mem_of_getElem? (i := 1) rfl)
theorem dL_law_532 : decode cL_law 532 = .ok (.iadd, 1) := dgL_law_7 (532, (.iadd, 1)) (List.mem_of_getElem? (i := 2) rfl)
theorem dL_law_533 : decode cL_law 533 = .ok (.iaload, 1) := dgL_law_7 (533, (.iaload, 1)) (List.mem_of_getElem? (i := 3) rfl)
theorem dL_law_534 : decode cL_law 534 = .ok (.invokevirtual 50, 3) := dgL_law_7 (534, (.invokevirtual 50, 3)) (List.mem_of_getElem? (i := 4) rfl)
theorem dL_law_537 : decode cL_law 537 = .ok (.pop, 1) := dgL_law_7 (537, (.pop, 1)) (List.mem_of_getElem? (i := 5) rfl)
theorem dL_law_538 : decode cL_law 538 = .ok (.aload_n 2, 1) := dgL_law_7 (538, (.aload_n 2, 1)) (List.mem_of_getElem? (i := 6) rfl)
theorem dL_law_539 : decode cL_law 539 = .ok (.aload_n 0, 1) := dgL_law_7 (539, (.aload_n 0, 1)) (List.mem_of_getElem? (i := 7) rfl)
theorem dL_law_540 : decode cL_law 540 = .ok (.iload_n 3, 1) := dgL_law_7 (540, (.iload_n 3, 1)) (List.mem_of_getElem? (i := 8) rfl)
theorem dL_law_541 : decode cL_law 541 = .ok (.iconst 1, 1) := dgL_law_7 (541, (.iconst 1, 1)) (List.mem_of_getElem? (i := 9) rfl)
theorem dL_law_542 : decode cL_law 542 = .ok (.iadd, 1) := dgL_law_7 (542, (.iadd, 1)) (List.mem_of_getElem? (i := 10) rfl)
theorem dL_law_543 : decode cL_law 543 = .ok (.iaload, 1) := dgL_law_7 (543, (.iaload, 1)) (List.mem_of_getElem? (i := 11) rfl)
theorem dL_law_544 : decode cL_law 544 = .ok (.aload_n 0, 1) := dgL_law_7 (544, (.aload_n 0, 1)) (List.mem_of_getElem? (i := 12) rfl)
theorem dL_law_545 : decode cL_law 545 = .ok (.iload_n 3, 1) := dgL_law_7 (545, (.iload_n 3, 1)) (List.mem_of_getElem? (i := 13) rfl)
theorem dL_law_546 : decode cL_law 546 = .ok (.iconst 2, 1) := dgL_law_7 (546, (.iconst 2, 1)) (List.mem_of_getElem? (i := 14) rfl)
theorem dL_law_547 : decode cL_law 547 = .ok (.iadd, 1) := dgL_law_7 (547, (.iadd, 1)) (List.mem_of_getElem? (i := 15) rfl)
theorem dL_law_548 : decode cL_law 548 = .ok (.iaload, 1) := dgL_law_7 (548, (.iaload, 1)) (List.mem_of_getElem? (i := 16) rfl)
theorem dL_law_549 : decode cL_law 549 = .ok (.aload_n 0, 1) := dgL_law_7 (549, (.aload_n 0, 1)) (List.mem_of_getElem? (i := 17) rfl)
theorem dL_law_550 : decode cL_law 550 = .ok (.iload_n 3, 1) := dgL_law_7 (550, (.iload_n 3, 1)) (List.mem_of_getElem? (i := 18) rfl)
theorem dL_law_551 : decode cL_law 551 = .ok (.iconst 3, 1) := dgL_law_7 (551, (.iconst 3, 1)) (List.mem_of_getElem? (i := 19) rfl)
theorem dL_law_552 : decode cL_law 552 = .ok (.iadd, 1) := dgL_law_7 (552, (.iadd, 1)) (List.mem_of_getElem? (i := 20) rfl)
theorem dL_law_553 : decode cL_law 553 = .ok (.iaload, 1) := dgL_law_7 (553, (.iaload, 1)) (List.mem_of_getElem? (i := 21) rfl)
theorem dL_law_554 : decode cL_law 554 = .ok (.aload_n 0, 1) := dgL_law_7 (554, (.aload_n 0, 1)) (List.mem_of_getElem? (i := 22) rfl)
theorem dL_law_555 : decode cL_law 555 = .ok (.iload_n 3, 1) := dgL_law_7 (555, (.iload_n 3, 1)) (List.mem_of_getElem? (i := 23) rfl)
theorem dL_law_556 : decode cL_law 556 = .ok (.iconst 4, 1) := dgL_law_7 (556, (.iconst 4, 1)) (List.mem_of_getElem? (i := 24) rfl)
theorem dL_law_557 : decode cL_law 557 = .ok (.iadd, 1) := dgL_law_7 (557, (.iadd, 1)) (List.mem_of_getElem? (i := 25) rfl)
theorem dL_law_558 : decode cL_law 558 = .ok (.iaload, 1) := dgL_law_7 (558, (.iaload, 1)) (List.mem_of_getElem? (i := 26) rfl)
theorem dL_law_559 : decode cL_law 559 = .ok (.aload_n 0, 1) := dgL_law_7 (559, (.aload_n 0, 1)) (List.mem_of_getElem? (i := 27) rfl)
theorem dL_law_560 : decode cL_law 560 = .ok (.iload_n 3, 1) := dgL_law_7 (560, (.iload_n 3, 1)) (List.mem_of_getElem? (i := 28) rfl)
theorem dL_law_561 : decode cL_law 561 = .ok (.iconst 5, 1) := dgL_law_7 (561, (.iconst 5, 1)) (List.mem_of_getElem? (i := 29) rfl)
theorem dL_law_562 : decode cL_law 562 = .ok (.iadd, 1) := dgL_law_7 (562, (.iadd, 1)) (List.mem_of_getElem? (i := 30) rfl)
theorem dL_law_563 : decode cL_law 563 = .ok (.iaload, 1) := dgL_law_7 (563, (.iaload, 1)) (List.mem_of_getElem? (i := 31) rfl)
theorem dL_law_564 : decode cL_law 564 = .ok (.invokevirtual 54, 3) := dgL_law_7 (564, (.invokevirtual 54, 3)) (List.mem_of_getElem? (i := 32) rfl)
theorem dL_law_567 : decode cL_law 567 = .ok (.pop, 1) := dgL_law_7 (567, (.pop, 1)) (List.mem_of_getElem? (i := 33) rfl)
theorem dL_law_568 : decode cL_law 568 = .ok (.goto 1080, 3) := dgL_law_7 (568, (.goto 1080, 3)) (List.mem_of_getElem? (i := 34) rfl)
theorem dL_law_571 : decode cL_law 571 = .ok (.aload_n 1, 1) := dgL_law_7 (571, (.aload_n 1, 1)) (List.mem_of_getElem? (i := 35) rfl)
theorem dL_law_572 : decode cL_law 572 = .ok (.aload_n 0, 1) := dgL_law_7 (572, (.aload_n 0, 1)) (List.mem_of_getElem? (i := 36) rfl)
theorem dL_law_573 : decode cL_law 573 = .ok (.iload_n 3, 1) := dgL_law_7 (573, (.iload_n 3, 1)) (List.mem_of_getElem? (i := 37) rfl)
theorem dL_law_574 : decode cL_law 574 = .ok (.iconst 1, 1) := dgL_law_7 (574, (.iconst 1, 1)) (List.mem_of_getElem? (i := 38) rfl)
theorem dL_law_575 : decode cL_law 575 = .ok (.iadd, 1) := dgL_law_7 (575, (.iadd, 1)) (List.mem_of_getElem? (i := 39) rfl)
theorem dgL_law_8 : ∀ r ∈ ([(576, (.iaload, 1)), (577, (.invokevirtual 55, 3)), (580, (.pop, 1)), (581, (.aload_n 2, 1)), (582, (.aload_n 0, 1)), (583, (.iload_n 3, 1)), (584, (.iconst 1, 1)), (585, (.iadd, 1)), (586, (.iaload, 1)), (587, (.invokevirtual 58, 3)), (590, (.pop, 1)), (591, (.goto 1057, 3)), (594, (.aload_n 1, 1)), (595, (.invokevirtual 59, 3)), (598, (.pop, 1)), (599, (.aload_n 2, 1)), (600, (.invokevirtual 62, 3)), (603, (.pop, 1)), (604, (.goto 1044, 3)), (607, (.aload_n 1, 1)), (608, (.invokevirtual 63, 3)), (611, (.pop, 1)), (612, (.aload_n 2, 1)), (613, (.invokevirtual 66, 3)), (616, (.pop, 1)), (617, (.goto 1031, 3)), (620, (.aload_n 1, 1)), (621, (.invokevirtual 67, 3)), (624, (.pop, 1)), (625, (.aload_n 2, 1)), (626, (.invokevirtual 70, 3)), (629, (.pop, 1)), (630, (.goto 1018, 3)), (633, (.aload_n 1, 1)), (634, (.invokevirtual 71, 3)), (637, (.pop, 1)), (638, (.aload_n 2, 1)), (639, (.invokevirtual 74, 3)), (642, (.pop, 1)), (643, (.goto 1005, 3))] : List (Nat × (Instr × Nat))), decode cL_law r.1 = .ok r.2 := by decide +kernel
theorem dL_law_576 : decode cL_law 576 = .ok (.iaload, 1) := dgL_law_8 (576, (.iaload, 1)) (List.mem_of_getElem? (i := 0) rfl)
theorem dL_law_577 : decode cL_law 577 = .ok (.invokevirtual 55, 3) := dgL_law_8 (577, (.invokevirtual 55, 3)) (List.mem_of_getElem? (i := 1) rfl)
theorem dL_law_580 : decode cL_law 580 = .ok (.pop, 1) := dgL_law_8 (580, (.pop, 1)) (List.mem_of_getElem? (i := 2) rfl)
theorem dL_law_581 : decode cL_law 581 = .ok (.aload_n 2, 1) := dgL_law_8 (581, (.aload_n 2, 1)) (List.mem_of_getElem? (i := 3) rfl)
theorem dL_law_582 : decode cL_law 582 = .ok (.aload_n 0, 1) := dgL_law_8 (582, (.aload_n 0, 1)) (List.mem_of_getElem? (i := 4) rfl)
theorem dL_law_583 : decode cL_law 583 = .ok (.iload_n 3, 1) := dgL_law_8 (583, (.iload_n 3, 1)) (List.mem_of_getElem? (i := 5) rfl)
theorem dL_law_584 : decode cL_law 584 = .ok (.iconst 1, 1) := dgL_law_8 (584, (.iconst 1, 1)) (List.mem_of_getElem? (i := 6) rfl)
theorem dL_law_585 : decode cL_law 585 = .ok (.iadd, 1) := dgL_law_8 (585, (.iadd, 1)) (List.mem_of_getElem? (i := 7) rfl)
theorem dL_law_586 : decode cL_law 586 = .ok (.iaload, 1) := dgL_law_8 (586, (.iaload, 1)) (List.mem_of_getElem? (i := 8) rfl)
theorem dL_law_587 : decode cL_law 587 = .ok (.invokevirtual 58, 3) := dgL_law_8 (587, (.invokevirtual 58, 3)) (List.mem_of_getElem? (i := 9) rfl)
theorem dL_law_590 : decode cL_law 590 = .ok (.pop, 1) := dgL_law_8 (590, (.pop, 1)) (List.mem_of_getElem? (i := 10) rfl)
theorem dL_law_591 : decode cL_law 591 = .ok (.goto 1057, 3) := dgL_law_8 (591, (.goto 1057, 3)) (List.mem_of_getElem? (i := 11) rfl)
theorem dL_law_594 : decode cL_law 594 = .ok (.aload_n 1, 1) := dgL_law_8 (594, (.aload_n 1, 1)) (List.mem_of_getElem? (i := 12) rfl)
theorem dL_law_595 : decode cL_law 595 = .ok (.invokevirtual 59, 3) := dgL_law_8 (595, (.invokevirtual 59, 3)) (List.mem_of_getElem? (i := 13) rfl)
theorem dL_law_598 : decode cL_law 598 = .ok (.pop, 1) := dgL_law_8 (598, (.pop, 1)) (List.mem_of_getElem? (i := 14) rfl)
theorem dL_law_599 : decode cL_law 599 = .ok (.aload_n 2, 1) := dgL_law_8 (599, (.aload_n 2, 1)) (List.mem_of_getElem? (i := 15) rfl)
theorem dL_law_600 : decode cL_law 600 = .ok (.invokevirtual 62, 3) := dgL_law_8 (600, (.invokevirtual 62, 3)) (List.mem_of_getElem? (i := 16) rfl)
theorem dL_law_603 : decode cL_law 603 = .ok (.pop, 1) := dgL_law_8 (603, (.pop, 1)) (List.mem_of_getElem? (i := 17) rfl)
theorem dL_law_604 : decode cL_law 604 = .ok (.goto 1044, 3) := dgL_law_8 (604, (.goto 1044, 3)) (List.mem_of_getElem? (i := 18) rfl)
theorem dL_law_607 : decode cL_law 607 = .ok (.aload_n 1, 1) := dgL_law_8 (607, (.aload_n 1, 1)) (List.mem_of_getElem? (i := 19) rfl)
theorem dL_law_608 : decode cL_law 608 = .ok (.invokevirtual 63, 3) := dgL_law_8 (608, (.invokevirtual 63, 3)) (List.mem_of_getElem? (i := 20) rfl)
theorem dL_law_611 : decode cL_law 611 = .ok (.pop, 1) := dgL_law_8 (611, (.pop, 1)) (List.mem_of_getElem? (i := 21) rfl)
theorem dL_law_612 : decode cL_law 612 = .ok (.aload_n 2, 1) := dgL_law_8 (612, (.aload_n 2, 1)) (List.mem_of_getElem? (i := 22) rfl)
theorem dL_law_613 : decode cL_law 613 = .ok (.invokevirtual 66, 3) := dgL_law_8 (613, (.invokevirtual 66, 3)) (List.mem_of_getElem? (i := 23) rfl)
theorem dL_law_616 : decode cL_law 616 = .ok (.pop, 1) := dgL_law_8 (616, (.pop, 1)) (List.mem_of_getElem? (i := 24) rfl)
theorem dL_law_617 : decode cL_law 617 = .ok (.goto 1031, 3) := dgL_law_8 (617, (.goto 1031, 3)) (List.mem_of_getElem? (i := 25) rfl)
theorem dL_law_620 : decode cL_law 620 = .ok (.aload_n 1, 1) := dgL_law_8 (620, (.aload_n 1, 1)) (List.mem_of_getElem? (i := 26) rfl)
theorem dL_law_621 : decode cL_law 621 = .ok (.invokevirtual 67, 3) := dgL_law_8 (621, (.invokevirtual 67, 3)) (List.mem_of_getElem? (i := 27) rfl)
theorem dL_law_624 : decode cL_law 624 = .ok (.pop, 1) := dgL_law_8 (624, (.pop, 1)) (List.mem_of_getElem? (i := 28) rfl)
theorem dL_law_625 : decode cL_law 625 = .ok (.aload_n 2, 1) := dgL_law_8 (625, (.aload_n 2, 1)) (List.mem_of_getElem? (i := 29) rfl)
theorem dL_law_626 : decode cL_law 626 = .ok (.invokevirtual 70, 3) := dgL_law_8 (626, (.invokevirtual 70, 3)) (List.mem_of_getElem? (i := 30) rfl)
theorem dL_law_629 : decode cL_law 629 = .ok (.pop, 1) := dgL_law_8 (629, (.pop, 1)) (List.mem_of_getElem? (i := 31) rfl)
theorem dL_law_630 : decode cL_law 630 = .ok (.goto 1018, 3) := dgL_law_8 (630, (.goto 1018, 3)) (List.mem_of_getElem? (i := 32) rfl)
theorem dL_law_633 : decode cL_law 633 = .ok (.aload_n 1, 1) := dgL_law_8 (633, (.aload_n 1, 1)) (List.mem_of_getElem? (i := 33) rfl)
theorem dL_law_634 : decode cL_law 634 = .ok (.invokevirtual 71, 3) := dgL_law_8 (634, (.invokevirtual 71, 3)) (List.mem_of_getElem? (i := 34) rfl)
theorem dL_law_637 : decode cL_law 637 = .ok (.pop, 1) := dgL_law_8 (637, (.pop, 1)) (List.mem_of_getElem? (i := 35) rfl)
theorem dL_law_638 : decode cL_law 638 = .ok (.aload_n 2, 1) := dgL_law_8 (638, (.aload_n 2, 1)) (List.mem_of_getElem? (i := 36) rfl)
theorem dL_law_639 : decode cL_law 639 = .ok (.invokevirtual 74, 3) := dgL_law_8 (639, (.invokevirtual 74, 3)) (List.mem_of_getElem? (i := 37) rfl)
theorem dL_law_642 : decode cL_law 642 = .ok (.pop, 1) := dgL_law_8 (642, (.pop, 1)) (List.mem_of_getElem? (i := 38) rfl)
theorem dL_law_643 : decode cL_law 643 = .ok (.goto 1005, 3) := dgL_law_8 (643, (.goto 1005, 3)) (List.mem_of_getElem? (i := 39) rfl)
theorem dgL_law_9 : ∀ r ∈ ([(646, (.aload_n 1, 1)), (647, (.aload_n 0, 1)), (648, (.iload_n 3, 1)), (649, (.iconst 1, 1)), (650, (.iadd, 1)), (651, (.iaload, 1)), (652, (.invokevirtual 75, 3)), (655, (.pop, 1)), (656, (.aload_n 2, 1)), (657, (.aload_n 0, 1)), (658, (.iload_n 3, 1)), (659, (.iconst 1, 1)), (660, (.iadd, 1)), (661, (.iaload, 1)), (662, (.invokevirtual 78, 3)), (665, (.pop, 1)), (666, (.goto 982, 3)), (669, (.aload_n 1, 1)), (670, (.aload_n 0, 1)), (671, (.iload_n 3, 1)), (672, (.iconst 1, 1)), (673, (.iadd, 1)), (674, (.iaload, 1)), (675, (.aload_n 0, 1)), (676, (.iload_n 3, 1)), (677, (.iconst 2, 1)), (678, (.iadd, 1)), (679, (.iaload, 1)), (680, (.aload_n 0, 1)), (681, (.iload_n 3, 1)), (682, (.iconst 3, 1)), (683, (.iadd, 1)), (684, (.iaload, 1)), (685, (.aload_n 0, 1)), (686, (.iload_n 3, 1)), (687, (.iconst 4, 1)), (688, (.iadd, 1)), (689, (.iaload, 1)), (690, (.invokevirtual 79, 3)), (693, (.pop, 1))] : List (Nat × (Instr × Nat))), decode cL_law r.1 = .ok r.2 := by decide +kernel
theorem dL_law_646 : decode cL_law 646 = .ok (.aload_n 1, 1) := dgL_law_9 (646, (.aload_n 1, 1)) (List.mem_of_getElem? (i := 0) rfl)
theorem dL_law_647 : decode cL_law 647 = .ok (.aload_n 0, 1) := dgL_law_9 (647, (.aload_n 0, 1)) (List.mem_of_getElem? (i := 1) rfl)
theorem dL_law_648 : decode cL_law 648 = .ok (.iload_n 3, 1) := dgL_law_9 (648, (.iload_n 3, 1)) (List.mem_of_getElem? (i := 2) rfl)
theorem dL_law_649 : decode cL_law 649 = .ok (.iconst 1, 1) := dgL_law_9 (649, (.iconst 1, 1)) (List.mem_of_getElem? (i := 3) rfl)
theorem dL_law_650 : decode cL_law 650 = .ok (.iadd, 1) := dgL_law_9 (650, (.iadd, 1)) (List.mem_of_getElem? (i := 4) rfl)
theorem dL_law_651 : decode cL_law 651 = .ok (.iaload, 1) := dgL_law_9 (651, (.iaload, 1)) (List.mem_of_getElem? (i := 5) rfl)
theorem dL_law_652 : decode cL_law 652 = .ok (.invokevirtual 75, 3) := dgL_law_9 (652, (.invokevirtual 75, 3)) (List.mem_of_getElem? (i := 6) rfl)
theorem dL_law_655 : decode cL_law 655 = .ok (.pop, 1) := dgL_law_9 (655, (.pop, 1)) (List.mem_of_getElem? (i := 7) rfl)
theorem dL_law_656 : decode cL_law 656 = .ok (.aload_n 2, 1) := dgL_law_9 (656, (.aload_n 2, 1)) (List.mem_of_getElem? (i := 8) rfl)
theorem dL_law_657 : decode cL_law 657 = .ok (.aload_n 0, 1) := dgL_law_9 (657, (.aload_n 0, 1)) (List.mem_of_getElem? (i := 9) rfl)
theorem dL_law_658 : decode cL_law 658 = .ok (.iload_n 3, 1) := dgL_law_9 (658, (.iload_n 3, 1)) (List.mem_of_getElem? (i := 10) rfl)
theorem dL_law_659 : decode cL_law 659 = .ok (.iconst 1, 1) := dgL_law_9 (659, (.iconst 1, 1)) (List.mem_of_getElem? (i := 11) rfl)
theorem dL_law_660 : decode cL_law 660 = .ok (.iadd, 1) := dgL_law_9 (660, (.iadd, 1)) (List.mem_of_getElem? (i := 12) rfl)
theorem dL_law_661 : decode cL_law 661 = .ok (.iaload, 1) := dgL_law_9 (661, (.iaload, 1)) (List.mem_of_getElem? (i := 13) rfl)
theorem dL_law_662 : decode cL_law 662 = .ok (.invokevirtual 78, 3) := dgL_law_9 (662, (.invokevirtual 78, 3)) (List.mem_of_getElem? (i := 14) rfl)
theorem dL_law_665 : decode cL_law 665 = .ok (.pop, 1) := dgL_law_9 (665, (.pop, 1)) (List.mem_of_getElem? (i := 15) rfl)
theorem dL_law_666 : decode cL_law 666 = .ok (.goto 982, 3) := dgL_law_9 (666, (.goto 982, 3)) (List.mem_of_getElem? (i := 16) rfl)
theorem dL_law_669 : decode cL_law 669 = .ok (.aload_n 1, 1) := dgL_law_9 (669, (.aload_n 1, 1)) (List.mem_of_getElem? (i := 17) rfl)
theorem dL_law_670 : decode cL_law 670 = .ok (.aload_n 0, 1) := dgL_law_9 (670, (.aload_n 0, 1)) (List.mem_of_getElem? (i := 18) rfl)
theorem dL_law_671 : decode cL_law 671 = .ok (.iload_n 3, 1) := dgL_law_9 (671, (.iload_n 3, 1)) (List.mem_of_getElem? (i := 19) rfl)
theorem dL_law_672 : decode cL_law 672 = .ok (.iconst 1, 1) := dgL_law_9 (672, (.iconst 1, 1)) (List.mem_of_getElem? (i := 20) rfl)
theorem dL_law_673 : decode cL_law 673 = .ok (.iadd, 1) := dgL_law_9 (673, (.iadd, 1)) (List.mem_of_getElem? (i := 21) rfl)
theorem dL_law_674 : decode cL_law 674 = .ok (.iaload, 1) := dgL_law_9 (674, (.iaload, 1)) (List.mem_of_getElem? (i := 22) rfl)
theorem dL_law_675 : decode cL_law 675 = .ok (.aload_n 0, 1) := dgL_law_9 (675, (.aload_n 0, 1)) (List.mem_of_getElem? (i := 23) rfl)
theorem dL_law_676 : decode cL_law 676 = .ok (.iload_n 3, 1) := dgL_law_9 (676, (.iload_n 3, 1)) (List.mem_of_getElem? (i := 24) rfl)
theorem dL_law_677 : decode cL_law 677 = .ok (.iconst 2, 1) := dgL_law_9 (677, (.iconst 2, 1)) (List.mem_of_getElem? (i := 25) rfl)
theorem dL_law_678 : decode cL_law 678 = .ok (.iadd, 1) := dgL_law_9 (678, (.iadd, 1)) (List.mem_of_getElem? (i := 26) rfl)
theorem dL_law_679 : decode cL_law 679 = .ok (.iaload, 1) := dgL_law_9 (679, (.iaload, 1)) (List.mem_of_getElem? (i := 27) rfl)
theorem dL_law_680 : decode cL_law 680 = .ok (.aload_n 0, 1) := dgL_law_9 (680, (.aload_n 0, 1)) (List.mem_of_getElem? (i := 28) rfl)
theorem dL_law_681 : decode cL_law 681 = .ok (.iload_n 3, 1) := dgL_law_9 (681, (.iload_n 3, 1)) (List.mem_of_getElem? (i := 29) rfl)
theorem dL_law_682 : decode cL_law 682 = .ok (.iconst 3, 1) := dgL_law_9 (682, (.iconst 3, 1)) (List.mem_of_getElem? (i := 30) rfl)
theorem dL_law_683 : decode cL_law 683 = .ok (.iadd, 1) := dgL_law_9 (683, (.iadd, 1)) (List.mem_of_getElem? (i := 31) rfl)
theorem dL_law_684 : decode cL_law 684 = .ok (.iaload, 1) := dgL_law_9 (684, (.iaload, 1)) (List.mem_of_getElem? (i := 32) rfl)
theorem dL_law_685 : decode cL_law 685 = .ok (.aload_n 0, 1) := dgL_law_9 (685, (.aload_n 0, 1)) (List.mem_of_getElem? (i := 33) rfl)
theorem dL_law_686 : decode cL_law 686 = .ok (.iload_n 3, 1) := dgL_law_9 (686, (.iload_n 3, 1)) (List.mem_of_getElem? (i := 34) rfl)
theorem dL_law_687 : decode cL_law 687 = .ok (.iconst 4, 1) := dgL_law_9 (687, (.iconst 4, 1)) (List.mem_of_getElem? (i := 35) rfl)
theorem dL_law_688 : decode cL_law 688 = .ok (.iadd, 1) := dgL_law_9 (688, (.iadd, 1)) (List.mem_of_getElem? (i := 36) rfl)
theorem dL_law_689 : decode cL_law 689 = .ok (.iaload, 1) := dgL_law_9 (689, (.iaload, 1)) (List.mem_of_getElem? (i := 37) rfl)
theorem dL_law_690 : decode cL_law 690 = .ok (.invokevirtual 79, 3) := dgL_law_9 (690, (.invokevirtual 79, 3)) (List.mem_of_getElem? (i := 38) rfl)
theorem dL_law_693 : decode cL_law 693 = .ok (.pop, 1) := dgL_law_9 (693, (.pop, 1)) (List.mem_of_getElem? (i := 39) rfl)
theorem dgL_law_10 : ∀ r ∈ ([(694, (.aload_n 2, 1)), (695, (.aload_n 0, 1)), (696, (.iload_n 3, 1)), (697, (.iconst 1, 1)), (698, (.iadd, 1)), (699, (.iaload, 1)), (700, (.aload_n 0, 1)), (701, (.iload_n 3, 1)), (702, (.iconst 2, 1)), (703, (.iadd, 1)), (704, (.iaload, 1)), (705, (.aload_n 0, 1)), (706, (.iload_n 3, 1)), (707, (.iconst 3, 1)), (708, (.iadd, 1)), (709, (.iaload, 1)), (710, (.aload_n 0, 1)), (711, (.iload_n 3, 1)), (712, (.iconst 4, 1)), (713, (.iadd, 1)), (714, (.iaload, 1)), (715, (.invokevirtual 82, 3)), (718, (.pop, 1)), (719, (.goto 929, 3)), (722, (.aload_n 1, 1)), (723, (.aload_n 0, 1)), (724, (.iload_n 3, 1)), (725, (.iconst 1, 1)), (726, (.iadd, 1)), (727, (.iaload, 1)), (728, (.aload_n 0, 1)), (729, (.iload_n 3, 1)), (730, (.iconst 2, 1)), (731, (.iadd, 1)), (732, (.iaload, 1)), (733, (.aload_n 0, 1)), (734, (.iload_n 3, 1)), (735, (.iconst 3, 1)), (736, (.iadd, 1)), (737, (.iaload, 1))] : List (Nat × (Instr × Nat))), decode cL_law r.1 = .ok r.2 := by decide +kernel
theorem dL_law_694 : decode cL_law 694 = .ok (.aload_n 2, 1) := dgL_law_10 (694, (.aload_n 2, 1)) (List.mem_of_getElem? (i := 0) rfl)
theorem dL_law_695 : decode cL_law 695 = .ok (.aload_n 0, 1) := dgL_law_10 (695, (.aload_n 0, 1)) (List.mem_of_getElem? (i := 1) rfl)
theorem dL_law_696 : decode cL_law 696 = .ok (.iload_n 3, 1) := dgL_law_10 (696, (.iload_n 3, 1)) (List.mem_of_getElem? (i := 2) rfl)
theorem dL_law_697 : decode cL_law 697 = .ok (.iconst 1, 1) := dgL_law_10 (697, (.iconst 1, 1)) (List.mem_of_getElem? (i := 3) rfl)
theorem dL_law_698 : decode cL_law 698 = .ok (.iadd, 1) := dgL_law_10 (698, (.iadd, 1)) (List.mem_of_getElem? (i := 4) rfl)
theorem dL_law_699 : decode cL_law 699 = .ok (.iaload, 1) := dgL_law_10 (699, (.iaload, 1)) (List.mem_of_getElem? (i := 5) rfl)
theorem dL_law_700 : decode cL_law 700 = .ok (.aload_n 0, 1) := dgL_law_10 (700, (.aload_n 0, 1)) (List.mem_of_getElem? (i := 6) rfl)
theorem dL_law_701 : decode cL_law 701 = .ok (.iload_n 3, 1) := dgL_law_10 (701, (.iload_n 3, 1)) (List.mem_of_getElem? (i := 7) rfl)
theorem dL_law_702 : decode cL_law 702 = .ok (.iconst 2, 1) := dgL_law_10 (702, (.iconst 2, 1)) (List.mem_of_getElem? (i := 8) rfl)
theorem dL_law_703 : decode cL_law 703 = .ok (.iadd, 1) := dgL_law_10 (703, (.iadd, 1)) (List.mem_of_getElem? (i := 9) rfl)
theorem dL_law_704 : decode cL_law 704 = .ok (.iaload, 1) := dgL_law_10 (704, (.iaload, 1)) (List.mem_of_getElem? (i := 10) rfl)
theorem dL_law_705 : decode cL_law 705 = .ok (.aload_n 0, 1) := dgL_law_10 (705, (.aload_n 0, 1)) (List.mem_of_getElem? (i := 11) rfl)
theorem dL_law_706 : decode cL_law 706 = .ok (.iload_n 3, 1) := dgL_law_10 (706, (.iload_n 3, 1)) (List.mem_of_getElem? (i := 12) rfl)
theorem dL_law_707 : decode cL_law 707 = .ok (.iconst 3, 1) := dgL_law_10 (707, (.iconst 3, 1)) (List.mem_of_getElem? (i := 13) rfl)
theorem dL_law_708 : decode cL_law 708 = .ok (.iadd, 1) := dgL_law_10 (708, (.iadd, 1)) (List.mem_of_getElem? (i := 14) rfl)
theorem dL_law_709 : decode cL_law 709 = .ok (.iaload, 1) := dgL_law_10 (709, (.iaload, 1)) (List.mem_of_getElem? (i := 15) rfl)
theorem dL_law_710 : decode cL_law 710 = .ok (.aload_n 0, 1) := dgL_law_10 (710, (.aload_n 0, 1)) (List.mem_of_getElem? (i := 16) rfl)
theorem dL_law_711 : decode cL_law 711 = .ok (.iload_n 3, 1) := dgL_law_10 (711, (.iload_n 3, 1)) (List.mem_of_getElem? (i := 17) rfl)
theorem dL_law_712 : decode cL_law 712 = .ok (.iconst 4, 1) := dgL_law_10 (712, (.iconst 4, 1)) (List.mem_of_getElem? (i := 18) rfl)
theorem dL_law_713 : decode cL_law 713 = .ok (.iadd, 1) := dgL_law_10 (713, (.iadd, 1)) (List.mem_of_getElem? (i := 19) rfl)
theorem dL_law_714 : decode cL_law 714 = .ok (.iaload, 1) := dgL_law_10 (714, (.iaload, 1)) (List.mem_of_getElem? (i := 20) rfl)
theorem dL_law_715 : decode cL_law 715 = .ok (.invokevirtual 82, 3) := dgL_law_10 (715, (.invokevirtual 82, 3)) (List.mem_of_getElem? (i := 21) rfl)
theorem dL_law_718 : decode cL_law 718 = .ok (.pop, 1) := dgL_law_10 (718, (.pop, 1)) (List.mem_of_getElem? (i := 22) rfl)
theorem dL_law_719 : decode cL_law 719 = .ok (.goto 929, 3) := dgL_law_10 (719, (.goto 929, 3)) (List.mem_of_getElem? (i := 23) rfl)
theorem dL_law_722 : decode cL_law 722 = .ok (.aload_n 1, 1) := dgL_law_10 (722, (.aload_n 1, 1)) (List.mem_of_getElem? (i := 24) rfl)
theorem dL_law_723 : decode cL_law 723 = .ok (.aload_n 0, 1) := dgL_law_10 (723, (.aload_n 0, 1)) (List.mem_of_getElem? (i := 25) rfl)
theorem dL_law_724 : decode cL_law 724 = .ok (.iload_n 3, 1) := dgL_law_10 (724, (.iload_n 3, 1)) (List.mem_of_getElem? (i := 26) rfl)
theorem dL_law_725 : decode cL_law 725 = .ok (.iconst 1, 1) := dgL_law_10 (725, (.iconst 1, 1)) (List.mem_of_getElem? (i := 27) rfl)
theorem dL_law_726 : decode cL_law 726 = .ok (.iadd, 1) := dgL_law_10 (726, (.iadd, 1)) (List.mem_of_getElem? (i := 28) rfl)
theorem dL_law_727 : decode cL_law 727 = .ok (.iaload, 1) := dgL_law_10 (727, (.iaload, 1)) (List.mem_of_getElem? (i := 29) rfl)
theorem dL_law_728 : decode cL_law 728 = .ok (.aload_n 0, 1) := dgL_law_10 (728, (.aload_n 0, 1)) (List.mem_of_getElem? (i := 30) rfl)
theorem dL_law_729 : decode cL_law 729 = .ok (.iload_n 3, 1) := dgL_law_10 (729, (.iload_n 3, 1)) (List.mem_of_getElem? (i := 31) rfl)
theorem dL_law_730 : decode cL_law 730 = .ok (.iconst 2, 1) := dgL_law_10 (730, (.iconst 2, 1)) (List.mem_of_getElem? (i := 32) rfl)
theorem dL_law_731 : decode cL_law 731 = .ok (.iadd, 1) := dgL_law_10 (731, (.iadd, 1)) (List.mem_of_getElem? (i := 33) rfl)
theorem dL_law_732 : decode cL_law 732 = .ok (.iaload, 1) := dgL_law_10 (732, (.iaload, 1)) (List.mem_of_getElem? (i := 34) rfl)
theorem dL_law_733 : decode cL_law 733 = .ok (.aload_n 0, 1) := dgL_law_10 (733, (.aload_n 0, 1)) (List.mem_of_getElem? (i := 35) rfl)
theorem dL_law_734 : decode cL_law 734 = .ok (.iload_n 3, 1) := dgL_law_10 (734, (.iload_n 3, 1)) (List.mem_of_getElem? (i := 36) rfl)
theorem dL_law_735 : decode cL_law 735 = .ok (.iconst 3, 1) := dgL_law_10 (735, (.iconst 3, 1)) (List.mem_of_getElem? (i := 37) rfl)
theorem dL_law_736 : decode cL_law 736 = .ok (.iadd, 1) := dgL_law_10 (736, (.iadd, 1)) (List.mem_of_getElem? (i := 38) rfl)
theorem dL_law_737 : decode cL_law 737 = .ok (.iaload, 1) := dgL_law_10 (737, (.iaload, 1)) (List.mem_of_getElem? (i := 39) rfl)
theorem dgL_law_11 : ∀ r ∈ ([(738, (.aload_n 0, 1)), (739, (.iload_n 3, 1)), (740, (.iconst 4, 1)), (741, (.iadd, 1)), (742, (.iaload, 1)), (743, (.invokevirtual 83, 3)), (746, (.pop, 1)), (747, (.aload_n 2, 1)), (748, (.aload_n 0, 1)), (749, (.iload_n 3, 1)), (750, (.iconst 1, 1)), (751, (.iadd, 1)), (752, (.iaload, 1)), (753, (.aload_n 0, 1)), (754, (.iload_n 3, 1)), (755, (.iconst 2, 1)), (756, (.iadd, 1)), (757, (.iaload, 1)), (758, (.aload_n 0, 1)), (759, (.iload_n 3, 1)), (760, (.iconst 3, 1)), (761, (.iadd, 1)), (762, (.iaload, 1)), (763, (.aload_n 0, 1)), (764, (.iload_n 3, 1)), (765, (.iconst 4, 1)), (766, (.iadd, 1)), (767, (.iaload, 1)), (768, (.invokevirtual 86, 3)), (771, (.pop, 1)), (772, (.goto 876, 3)), (775, (.aload_n 1, 1)), (776, (.aload_n 0, 1)), (777, (.iload_n 3, 1)), (778, (.iconst 1, 1)), (779, (.iadd, 1)), (780, (.iaload, 1)), (781, (.aload_n 0, 1)), (782, (.iload_n 3, 1)), (783, (.iconst 2, 1))] : List (Nat × (Instr × Nat))), decode cL_law r.1 = .ok r.2 := by decide +kernel
theorem dL_law_738 : decode cL_law 738 = .ok (.aload_n 0, 1) := dgL_law_11 (738, (.aload_n 0, 1)) (List.mem_of_getElem? (i := 0) rfl)
theorem dL_law_739 : decode cL_law 739 = .ok (.iload_n 3, 1) := dgL_law_11 (739, (.iload_n 3, 1)) (List.mem_of_getElem? (i := 1) rfl)
theorem dL_law_740 : decode cL_law 740 = .ok (.iconst 4, 1) := dgL_law_11 (740, (.iconst 4, 1)) (List.mem_of_getElem? (i := 2) rfl)
theorem dL_law_741 : decode cL_law 741 = .ok (.iadd, 1) := dgL_law_11 (741, (.iadd, 1)) (List.mem_of_getElem? (i := 3) rfl)
theorem dL_law_742 : decode cL_law 742 = .ok (.iaload, 1) := dgL_law_11 (742, (.iaload, 1)) (List.mem_of_getElem? (i := 4) rfl)
theorem dL_law_743 : decode cL_law 743 = .ok (.invokevirtual 83, 3) := dgL_law_11 (743, (.invokevirtual 83, 3)) (List.mem_of_getElem? (i := 5) rfl)
theorem dL_law_746 : decode cL_law 746 = .ok (.pop, 1) := dgL_law_11 (746, (.pop, 1)) (List.mem_of_getElem? (i := 6) rfl)
theorem dL_law_747 : decode cL_law 747 = .ok (.aload_n 2, 1) := dgL_law_11 (747, (.aload_n 2, 1)) (List.mem_of_getElem? (i := 7) rfl)
theorem dL_law_748 : decode cL_law 748 = .ok (.aload_n 0, 1) := dgL_law_11 (748, (.aload_n 0, 1)) (List.mem_of_getElem? (i := 8) rfl)
theorem dL_law_749 : decode cL_law 749 = .ok (.iload_n 3, 1) := dgL_law_11 (749, (.iload_n 3, 1)) (List.mem_of_getElem? (i := 9) rfl)
theorem dL_law_750 : decode cL_law 750 = .ok (.iconst 1, 1) := dgL_law_11 (750, (.iconst 1, 1)) (List.mem_of_getElem? (i := 10) rfl)
theorem dL_law_751 : decode cL_law 751 = .ok (.iadd, 1) := dgL_law_11 (751, (.iadd, 1)) (List.mem_of_getElem? (i := 11) rfl)
theorem dL_law_752 : decode cL_law 752 = .ok (.iaload, 1) := dgL_law_11 (752, (.iaload, 1)) (List.mem_of_getElem? (i := 12) rfl)
theorem dL_law_753 : decode cL_law 753 = .ok (.aload_n 0, 1) := dgL_law_11 (753, (.aload_n 0, 1)) (List.mem_of_getElem? (i := 13) rfl)
theorem dL_law_754 : decode cL_law 754 = .ok (.iload_n 3, 1) := dgL_law_11 (754, (.iload_n 3, 1)) (List.mem_of_getElem? (i := 14) rfl)
theorem dL_law_755 : decode cL_law 755 = .ok (.iconst 2, 1) := dgL_law_11 (755, (.iconst 2, 1)) (List.mem_of_getElem? (i := 15) rfl)
theorem dL_law_756 : decode cL_law 756 = .ok (.iadd, 1) := dgL_law_11 (756, (.iadd, 1)) (List.mem_of_getElem? (i := 16) rfl)
theorem dL_law_757 : decode cL_law 757 = .ok (.iaload, 1) := dgL_law_11 (757, (.iaload, 1)) (List.mem_of_getElem? (i := 17) rfl)
theorem dL_law_758 : decode cL_law 758 = .ok (.aload_n 0, 1) := dgL_law_11 (758, (.aload_n 0, 1)) (List.mem_of_getElem? (i := 18) rfl)
theorem dL_law_759 : decode cL_law 759 = .ok (.iload_n 3, 1) := dgL_law_11 (759, (.iload_n 3, 1)) (List.mem_of_getElem? (i := 19) rfl)
theorem dL_law_760 : decode cL_law 760 = .ok (.iconst 3, 1) := dgL_law_11 (760, (.iconst 3, 1)) (List.mem_of_getElem? (i := 20) rfl)
theorem dL_law_761 : decode cL_law 761 = .ok (.iadd, 1) := dgL_law_11 (761, (.iadd, 1)) (List.mem_of_getElem? (i := 21) rfl)
theorem dL_law_762 : decode cL_law 762 = .ok (.iaload, 1) := dgL_law_11 (762, (.iaload, 1)) (List.mem_of_getElem? (i := 22) rfl)
theorem dL_law_763 : decode cL_law 763 = .ok (.aload_n 0, 1) := dgL_law_11 (763, (.aload_n 0, 1)) (List.mem_of_getElem? (i := 23) rfl)
theorem dL_law_764 : decode cL_law 764 = .ok (.iload_n 3, 1) := dgL_law_11 (764, (.iload_n 3, 1)) (List.mem_of_getElem? (i := 24) rfl)
theorem dL_law_765 : decode cL_law 765 = .ok (.iconst 4, 1) := dgL_law_11 (765, (.iconst 4, 1)) (List.mem_of_getElem? (i := 25) rfl)
theorem dL_law_766 : decode cL_law 766 = .ok (.iadd, 1) := dgL_law_11 (766, (.iadd, 1)) (List.mem_of_getElem? (i := 26) rfl)
theorem dL_law_767 : decode cL_law 767 = .ok (.iaload, 1) := dgL_law_11 (767, (.iaload, 1)) (List.mem_of_getElem? (i := 27) rfl)
theorem dL_law_768 : decode cL_law 768 = .ok (.invokevirtual 86, 3) := dgL_law_11 (768, (.invokevirtual 86, 3)) (List.mem_of_getElem? (i := 28) rfl)
theorem dL_law_771 : decode cL_law 771 = .ok (.pop, 1) := dgL_law_11 (771, (.pop, 1)) (List.mem_of_getElem? (i := 29) rfl)
theorem dL_law_772 : decode cL_law 772 = .ok (.goto 876, 3) := dgL_law_11 (772, (.goto 876, 3)) (List.mem_of_getElem? (i := 30) rfl)
theorem dL_law_775 : decode cL_law 775 = .ok (.aload_n 1, 1) := dgL_law_11 (775, (.aload_n 1, 1)) (List.mem_of_getElem? (i := 31) rfl)
theorem dL_law_776 : decode cL_law 776 = .ok (.aload_n 0, 1) := dgL_law_11 (776, (.aload_n 0, 1)) (List.mem_of_getElem? (i := 32) rfl)
theorem dL_law_777 : decode cL_law 777 = .ok (.iload_n 3, 1) := dgL_law_11 (777, (.iload_n 3, 1)) (List.mem_of_getElem? (i := 33) rfl)
theorem dL_law_778 : decode cL_law 778 = .ok (.iconst 1, 1) := dgL_law_11 (778, (.iconst 1, 1)) (List.mem_of_getElem? (i := 34) rfl)
theorem dL_law_779 : decode cL_law 779 = .ok (.iadd, 1) := dgL_law_11 (779, (.iadd, 1)) (List.mem_of_getElem? (i := 35) rfl)
theorem dL_law_780 : decode cL_law 780 = .ok (.iaload, 1) := dgL_law_11 (780, (.iaload, 1)) (List.mem_of_getElem? (i := 36) rfl)
theorem dL_law_781 : decode cL_law 781 = .ok (.aload_n 0, 1) := dgL_law_11 (781, (.aload_n 0, 1)) (List.mem_of_getElem? (i := 37) rfl)
theorem dL_law_782 : decode cL_law 782 = .ok (.iload_n 3, 1) := dgL_law_11 (782, (.iload_n 3, 1)) (List.mem_of_getElem? (i := 38) rfl)
theorem dL_law_783 : decode cL_law 783 = .ok (.iconst 2, 1) := dgL_law_11 (783, (.iconst 2, 1)) (List.mem_of_getElem? (i := 39) rfl)
theorem dgL_law_12 : ∀ r ∈ ([(784, (.iadd, 1)), (785, (.iaload, 1)), (786, (.invokevirtual 87, 3)), (789, (.pop, 1)), (790, (.aload_n 2, 1)), (791, (.aload_n 0, 1)), (792, (.iload_n 3, 1)), (793, (.iconst 1, 1)), (794, (.iadd, 1)), (795, (.iaload, 1)), (796, (.aload_n 0, 1)), (797, (.iload_n 3, 1)), (798, (.iconst 2, 1)), (799, (.iadd, 1)), (800, (.iaload, 1)), (801, (.invokevirtual 90, 3)), (804, (.pop, 1)), (805, (.goto 843, 3)), (808, (.aload_n 1, 1)), (809, (.aload_n 0, 1)), (810, (.iload_n 3, 1)), (811, (.iconst 1, 1)), (812, (.iadd, 1)), (813, (.iaload, 1)), (814, (.aload_n 0, 1)), (815, (.iload_n 3, 1)), (816, (.iconst 2, 1)), (817, (.iadd, 1)), (818, (.iaload, 1)), (819, (.aload_n 0, 1)), (820, (.iload_n 3, 1)), (821, (.iconst 3, 1)), (822, (.iadd, 1)), (823, (.iaload, 1)), (824, (.invokevirtual 91, 3)), (827, (.pop, 1)), (828, (.aload_n 2, 1)), (829, (.aload_n 0, 1)), (830, (.iload_n 3, 1)), (831, (.iconst 1, 1))] : List (Nat × (Instr × Nat))), decode cL_law r.1 = .ok r.2 := by decide +kernel
theorem dL_law_784 : decode cL_law 784 = .ok (.iadd, 1) := dgL_law_12 (784, (.iadd, 1)) (List.mem_of_getElem? (i := 0) rfl)
theorem dL_law_785 : decode cL_law 785 = .ok (.iaload, 1) := dgL_law_12 (785, (.iaload, 1)) (List.mem_of_getElem? (i := 1) rfl)
theorem dL_law_786 : decode cL_law 786 = .ok (.invokevirtual 87, 3) := dgL_law_12 (786, (.invokevirtual 87, 3)) (List.mem_of_getElem? (i := 2) rfl)
theorem dL_law_789 : decode cL_law 789 = .ok (.pop, 1) := dgL_law_12 (789, (.pop, 1)) (List.mem_of_getElem? (i := 3) rfl)
theorem dL_law_790 : decode cL_law 790 = .ok (.aload_n 2, 1) := dgL_law_12 (790, (.aload_n 2, 1)) (List.mem_of_getElem? (i := 4) rfl)
theorem dL_law_791 : decode cL_law 791 = .ok (.aload_n 0, 1) := dgL_law_12 (791, (.aload_n 0, 1)) (List.mem_of_getElem? (i := 5) rfl)
theorem dL_law_792 : decode cL_law 792 = .ok (.iload_n 3, 1) := dgL_law_12 (792, (.iload_n 3, 1)) (List.mem_of_getElem? (i := 6) rfl)
theorem dL_law_793 : decode cL_law 793 = .ok (.iconst 1, 1) := dgL_law_12 (793, (.iconst 1, 1)) (List.mem_of_getElem? (i := 7) rfl)
theorem dL_law_794 : decode cL_law 794 = .ok (.iadd, 1) := dgL_law_12 (794, (.iadd, 1)) (List.mem_of_getElem? (i := 8) rfl)
theorem dL_law_795 : decode cL_law 795 = .ok (.iaload, 1) := dgL_law_12 (795, (.iaload, 1)) (List.mem_of_getElem? (i := 9) rfl)
theorem dL_law_796 : decode cL_law 796 = .ok (.aload_n 0, 1) := dgL_law_12 (796, (.aload_n 0, 1)) (List.mem_of_getElem? (i := 10) rfl)
theorem dL_law_797 : decode cL_law 797 = .ok (.iload_n 3, 1) := dgL_law_12 (797, (.iload_n 3, 1)) (List.mem_of_getElem? (i := 11) rfl)
theorem dL_law_798 : decode cL_law 798 = .ok (.iconst 2, 1) := dgL_law_12 (798, (.iconst 2, 1)) (List.mem_of_getElem? (i := 12) rfl)
theorem dL_law_799 : decode cL_law 799 = .ok (.iadd, 1) := dgL_law_12 (799, (.iadd, 1)) (List.mem_of_getElem? (i := 13) rfl)
theorem dL_law_800 : decode cL_law 800 = .ok (.iaload, 1) := dgL_law_12 (800, (.iaload, 1)) (List.mem_of_getElem? (i := 14) rfl)
theorem dL_law_801 : decode cL_law 801 = .ok (.invokevirtual 90, 3) := dgL_law_12 (801, (.invokevirtual 90, 3)) (List.mem_of_getElem? (i := 15) rfl)
theorem dL_law_804 : decode cL_law 804 = .ok (.pop, 1) := dgL_law_12 (804, (.pop, 1)) (List.mem_of_getElem? (i := 16) rfl)
theorem dL_law_805 : decode cL_law 805 = .ok (.goto 843, 3) := dgL_law_12 (805, (.goto 843, 3)) (List.mem_of_getElem? (i := 17) rfl)
theorem dL_law_808 : decode cL_law 808 = .ok (.aload_n 1, 1) := dgL_law_12 (808, (.aload_n 1, 1)) (List.mem_of_getElem? (i := 18) rfl)
theorem dL_law_809 : decode cL_law 809 = .ok (.aload_n 0, 1) := dgL_law_12 (809, (.aload_n 0, 1)) (List.mem_of_getElem? (i := 19) rfl)
theorem dL_law_810 : decode cL_law 810 = .ok (.iload_n 3, 1) := dgL_law_12 (810, (.iload_n 3, 1)) (List.mem_of_getElem? (i := 20) rfl)
theorem dL_law_811 : decode cL_law 811 = .ok (.iconst 1, 1) := dgL_law_12 (811, (.iconst 1, 1)) (List.mem_of_getElem? (i := 21) rfl)
theorem dL_law_812 : decode cL_law 812 = .ok (.iadd, 1) := dgL_law_12 (812, (.iadd, 1)) (List.mem_of_getElem? (i := 22) rfl)
theorem dL_law_813 : decode cL_law 813 = .ok (.iaload, 1) := dgL_law_12 (813, (.iaload, 1)) (List.mem_of_getElem? (i := 23) rfl)
theorem dL_law_814 : decode cL_law 814 = .ok (.aload_n 0, 1) := dgL_law_12 (814, (.aload_n 0, 1)) (List.mem_of_getElem? (i := 24) rfl)
theorem dL_law_815 : decode cL_law 815 = .ok (.iload_n 3, 1) := dgL_law_12 (815, (.iload_n 3, 1)) (List.mem_of_getElem? (i := 25) rfl)
theorem dL_law_816 : decode cL_law 816 = .ok (.iconst 2, 1) := dgL_law_12 (816, (.iconst 2, 1)) (List.mem_of_getElem? (i := 26) rfl)
theorem dL_law_817 : decode cL_law 817 = .ok (.iadd, 1) := dgL_law_12 (817, (.iadd, 1)) (List.mem_of_getElem? (i := 27) rfl)
theorem dL_law_818 : decode cL_law 818 = .ok (.iaload, 1) := dgL_law_12 (818, (.iaload, 1)) (List.mem_of_getElem? (i := 28) rfl)
theorem dL_law_819 : decode cL_law 819 = .ok (.aload_n 0, 1) := dgL_law_12 (819, (.aload_n 0, 1)) (List.mem_of_getElem? (i := 29) rfl)
theorem dL_law_820 : decode cL_law 820 = .ok (.iload_n 3, 1) := dgL_law_12 (820, (.iload_n 3, 1)) (List.mem_of_getElem? (i := 30) rfl)
theorem dL_law_821 : decode cL_law 821 = .ok (.iconst 3, 1) := dgL_law_12 (821, (.iconst 3, 1)) (List.mem_of_getElem? (i := 31) rfl)
theorem dL_law_822 : decode cL_law 822 = .ok (.iadd, 1) := dgL_law_12 (822, (.iadd, 1)) (List.mem_of_getElem? (i := 32) rfl)
theorem dL_law_823 : decode cL_law 823 = .ok (.iaload, 1) := dgL_law_12 (823, (.iaload, 1)) (List.mem_of_getElem? (i := 33) rfl)
theorem dL_law_824 : decode cL_law 824 = .ok (.invokevirtual 91, 3) := dgL_law_12 (824, (.invokevirtual 91, 3)) (List.mem_of_getElem? (i := 34) rfl)
theorem dL_law_827 : decode cL_law 827 = .ok (.pop, 1) := dgL_law_12 (827, (.pop, 1)) (List.mem_of_getElem? (i := 35) rfl)
theorem dL_law_828 : decode cL_law 828 = .ok (.aload_n 2, 1) := dgL_law_12 (828, (.aload_n 2, 1)) (List.mem_of_getElem? (i := 36) rfl)
theorem dL_law_829 : decode cL_law 829 = .ok (.aload_n 0, 1) := dgL_law_12 (829, (.aload_n 0, 1)) (List.mem_of_getElem? (i := 37) rfl)
theorem dL_law_830 : decode cL_law 830 = .ok (.iload_n 3, 1) := dgL_law_12 (830, (.iload_n 3, 1)) (List.mem_of_getElem? (i := 38) rfl)
theorem dL_law_831 : decode cL_law 831 = .ok (.iconst 1, 1) := dgL_law_12 (831, (.iconst 1, 1)) (List.mem_of_getElem? (i := 39) rfl)
theorem dgL_law_13 : ∀ r ∈ ([(832, (.iadd, 1)), (833, (.iaload, 1)), (834, (.aload_n 0, 1)), (835, (.iload_n 3, 1)), (836, (.iconst 2, 1)), (837, (.iadd, 1)), (838, (.iaload, 1)), (839, (.aload_n 0, 1)), (840, (.iload_n 3, 1)), (841, (.iconst 3, 1)), (842, (.iadd, 1)), (843, (.iaload, 1)), (844, (.invokevirtual 94, 3)), (847, (.pop, 1)), (848, (.goto 800, 3)), (851, (.aload_n 1, 1)), (852, (.aload_n 0, 1)), (853, (.iload_n 3, 1)), (854, (.iconst 1, 1)), (855, (.iadd, 1)), (856, (.iaload, 1)), (857, (.aload_n 0, 1)), (858, (.iload_n 3, 1)), (859, (.iconst 2, 1)), (860, (.iadd, 1)), (861, (.iaload, 1)), (862, (.invokevirtual 95, 3)), (865, (.pop, 1)), (866, (.aload_n 2, 1)), (867, (.aload_n 0, 1)), (868, (.iload_n 3, 1)), (869, (.iconst 1, 1)), (870, (.iadd, 1)), (871, (.iaload, 1)), (872, (.aload_n 0, 1)), (873, (.iload_n 3, 1)), (874, (.iconst 2, 1)), (875, (.iadd, 1)), (876, (.iaload, 1)), (877, (.invokevirtual 98, 3))] : List (Nat × (Instr × Nat))), decode cL_law r.1 = .ok r.2 := by decide +kernel
theorem dL_law_832 : decode cL_law 832 = .ok (.iadd, 1) := dgL_law_13 (832, (.iadd, 1)) (List.mem_of_getElem? (i := 0) rfl)
theorem dL_law_833 : decode cL_law 833 = .ok (.iaload, 1) := dgL_law_13 (833, (.iaload, 1)) (List.mem_of_getElem? (i := 1) rfl)
theorem dL_law_834 : decode cL_law 834 = .ok (.aload_n 0, 1) := dgL_law_13 (834, (.aload_n 0, 1)) (List.mem_of_getElem? (i := 2) rfl)
theorem dL_law_835 : decode cL_law 835 = .ok (.iload_n 3, 1) := dgL_law_13 (835, (.iload_n 3, 1)) (List.mem_of_getElem? (i := 3) rfl)
theorem dL_law_836 : decode cL_law 836 = .ok (.iconst 2, 1) := dgL_law_13 (836, (.iconst 2, 1)) (List.mem_of_getElem? (i := 4) rfl)
theorem dL_law_837 : decode cL_law 837 = .ok (.iadd, 1) := dgL_law_13 (837, (.iadd, 1)) (List.mem_of_getElem? (i := 5) rfl)
theorem dL_law_838 : decode cL_law 838 = .ok (.iaload, 1) := dgL_law_13 (838, (.iaload, 1)) (List.mem_of_getElem? (i := 6) rfl)
theorem dL_law_839 : decode cL_law 839 = .ok (.aload_n 0, 1) := dgL_law_13 (839, (.aload_n 0, 1)) (List.mem_of_getElem? (i := 7) rfl)
theorem dL_law_840 : decode cL_law 840 = .ok (.iload_n 3, 1) := dgL_law_13 (840, (.iload_n 3, 1)) (List.mem_of_getElem? (i := 8) rfl)
theorem dL_law_841 : decode cL_law 841 = .ok (.iconst 3, 1) := dgL_law_13 (841, (.iconst 3, 1)) (List.mem_of_getElem? (i := 9) rfl)
theorem dL_law_842 : decode cL_law 842 = .ok (.iadd, 1) := dgL_law_13 (842, (.iadd, 1)) (List.mem_of_getElem? (i := 10) rfl)
theorem dL_law_843 : decode cL_law 843 = .ok (.iaload, 1) := dgL_law_13 (843, (.iaload, 1)) (List.mem_of_getElem? (i := 11) rfl)
theorem dL_law_844 : decode cL_law 844 = .ok (.invokevirtual 94, 3) := dgL_law_13 (844, (.invokevirtual 94, 3)) (List.mem_of_getElem? (i := 12) rfl)
theorem dL_law_847 : decode cL_law 847 = .ok (.pop, 1) := dgL_law_13 (847, (.pop, 1)) (List.mem_of_getElem? (i := 13) rfl)
theorem dL_law_848 : decode cL_law 848 = .ok (.goto 800, 3) := dgL_law_13 (848, (.goto 800, 3)) (List.mem_of_getElem? (i := 14) rfl)
theorem dL_law_851 : decode cL_law 851 = .ok (.aload_n 1, 1) := dgL_law_13 (851, (.aload_n 1, 1)) (List.mem_of_getElem? (i := 15) rfl)
theorem dL_law_852 : decode cL_law 852 = .ok (.aload_n 0, 1) := dgL_law_13 (852, (.aload_n 0, 1)) (List.mem_of_getElem? (i := 16) rfl)
theorem dL_law_853 : decode cL_law 853 = .ok (.iload_n 3, 1) := dgL_law_13 (853, (.iload_n 3, 1)) (List.mem_of_getElem? (i := 17) rfl)
theorem dL_law_854 : decode cL_law 854 = .ok (.iconst 1, 1) := dgL_law_13 (854, (.iconst 1, 1)) (List.mem_of_getElem? (i := 18) rfl)
theorem dL_law_855 : decode cL_law 855 = .ok (.iadd, 1) := dgL_law_13 (855, (.iadd, 1)) (List.mem_of_getElem? (i := 19) rfl)
theorem dL_law_856 : decode cL_law 856 = .ok (.iaload, 1) := dgL_law_13 (856, (.iaload, 1)) (List.mem_of_getElem? (i := 20) rfl)
theorem dL_law_857 : decode cL_law 857 = .ok (.aload_n 0, 1) := dgL_law_13 (857, (.aload_n 0, 1)) (List.mem_of_getElem? (i := 21) rfl)
theorem dL_law_858 : decode cL_law 858 = .ok (.iload_n 3, 1) := dgL_law_13 (858, (.iload_n 3, 1)) (List.mem_of_getElem? (i := 22) rfl)
theorem dL_law_859 : decode cL_law 859 = .ok (.iconst 2, 1) := dgL_law_13 (859, (.iconst 2, 1)) (List.mem_of_getElem? (i := 23) rfl)
theorem dL_law_860 : decode cL_law 860 = .ok (.iadd, 1) := dgL_law_13 (860, (.iadd, 1)) (List.mem_of_getElem? (i := 24) rfl)
theorem dL_law_861 : decode cL_law 861 = .ok (.iaload, 1) := dgL_law_13 (861, (.iaload, 1)) (List.mem_of_getElem? (i := 25) rfl)
theorem dL_law_862 : decode cL_law 862 = .ok (.invokevirtual 95, 3) := dgL_law_13 (862, (.invokevirtual 95, 3)) (List.mem_of_getElem? (i := 26) rfl)
theorem dL_law_865 : decode cL_law 865 = .ok (.pop, 1) := dgL_law_13 (865, (.pop, 1)) (List.mem_of_getElem? (i := 27) rfl)
theorem dL_law_866 : decode cL_law 866 = .ok (.aload_n 2, 1) := dgL_law_13 (866, (.aload_n 2, 1)) (List.mem_of_getElem? (i := 28) rfl)
theorem dL_law_867 : decode cL_law 867 = .ok (.aload_n 0, 1) := dgL_law_13 (867, (.aload_n 0, 1)) (List.mem_of_getElem? (i := 29) rfl)
theorem dL_law_868 : decode cL_law 868 = .ok (.iload_n 3, 1) := dgL_law_13 (868, (.iload_n 3, 1)) (List.mem_of_getElem? (i := 30) rfl)
theorem dL_law_869 : decode cL_law 869 = .ok (.iconst 1, 1) := dgL_law_13 (869, (.iconst 1, 1)) (List.mem_of_getElem? (i := 31) rfl)
theorem dL_law_870 : decode cL_law 870 = .ok (.iadd, 1) := dgL_law_13 (870, (.iadd, 1)) (List.mem_of_getElem? (i := 32) rfl)
theorem dL_law_871 : decode cL_law 871 = .ok (.iaload, 1) := dgL_law_13 (871, (.iaload, 1)) (List.mem_of_getElem? (i := 33) rfl)
theorem dL_law_872 : decode cL_law 872 = .ok (.aload_n 0, 1) := dgL_law_13 (872, (.aload_n 0, 1)) (List.mem_of_getElem? (i := 34) rfl)
theorem dL_law_873 : decode cL_law 873 = .ok (.iload_n 3, 1) := dgL_law_13 (873, (.iload_n 3, 1)) (List.mem_of_getElem? (i := 35) rfl)
theorem dL_law_874 : decode cL_law 874 = .ok (.iconst 2, 1) := dgL_law_13 (874, (.iconst 2, 1)) (List.mem_of_getElem? (i := 36) rfl)
theorem dL_law_875 : decode cL_law 875 = .ok (.iadd, 1) := dgL_law_13 (875, (.iadd, 1)) (List.mem_of_getElem? (i := 37) rfl)
theorem dL_law_876 : decode cL_law 876 = .ok (.iaload, 1) := dgL_law_13 (876, (.iaload, 1)) (List.mem_of_getElem? (i := 38) rfl)
theorem dL_law_877 : decode cL_law 877 = .ok (.invokevirtual 98, 3) := dgL_law_13 (877, (.invokevirtual 98, 3)) (List.mem_of_getElem? (i := 39) rfl)
theorem dgL_law_14 : ∀ r ∈ ([(880, (.pop, 1)), (881, (.goto 767, 3)), (884, (.aload_n 1, 1)), (885, (.aload_n 0, 1)), (886, (.iload_n 3, 1)), (887, (.iconst 1, 1)), (888, (.iadd, 1)), (889, (.iaload, 1)), (890, (.aload_n 0, 1)), (891, (.iload_n 3, 1)), (892, (.iconst 2, 1)), (893, (.iadd, 1)), (894, (.iaload, 1)), (895, (.aload_n 0, 1)), (896, (.iload_n 3, 1)), (897, (.iconst 3, 1)), (898, (.iadd, 1)), (899, (.iaload, 1)), (900, (.invokevirtual 99, 3)), (903, (.pop, 1)), (904, (.aload_n 2, 1)), (905, (.aload_n 0, 1)), (906, (.iload_n 3, 1)), (907, (.iconst 1, 1)), (908, (.iadd, 1)), (909, (.iaload, 1)), (910, (.aload_n 0, 1)), (911, (.iload_n 3, 1)), (912, (.iconst 2, 1)), (913, (.iadd, 1)), (914, (.iaload, 1)), (915, (.aload_n 0, 1)), (916, (.iload_n 3, 1)), (917, (.iconst 3, 1)), (918, (.iadd, 1)), (919, (.iaload, 1)), (920, (.invokevirtual 102, 3)), (923, (.pop, 1)), (924, (.goto 724, 3)), (927, (.aload_n 1, 1))] : List (Nat × (Instr × Nat))), decode cL_law r.1 = .ok r.2 := by decide +kernel
theorem dL_law_880 : decode cL_law 880 = .ok (.pop, 1) := dgL_law_14 (880, (.pop, 1)) (List.mem_of_getElem? (i := 0) rfl)
theorem dL_law_881 : decode cL_law 881 = .ok (.goto 767, 3) := dgL_law_14 (881, (.goto 767, 3)) (List.mem_of_getElem? (i := 1) rfl)
theorem dL_law_884 : decode cL_law 884 = .ok (.aload_n 1, 1) := dgL_law_14 (884, (.aload_n 1, 1)) (List.mem_of_getElem? (i := 2) rfl)
theorem dL_law_885 : decode cL_law 885 = .ok (.aload_n 0, 1) := dgL_law_14 (885, (.aload_n 0, 1)) (List.mem_of_getElem? (i := 3) rfl)
theorem dL_law_886 : decode cL_law 886 = .ok (.iload_n 3, 1) := dgL_law_14 (886, (.iload_n 3, 1)) (List.mem_of_getElem? (i := 4) rfl)
theorem dL_law_887 : decode cL_law 887 = .ok (.iconst 1, 1) := dgL_law_14 (887, (.iconst 1, 1)) (List.mem_of_getElem? (i := 5) rfl)
theorem dL_law_888 : decode cL_law 888 = .ok (.iadd, 1) := dgL_law_14 (888, (.iadd, 1)) (List.mem_of_getElem? (i := 6) rfl)
theorem dL_law_889 : decode cL_law 889 = .ok (.iaload, 1) := dgL_law_14 (889, (.iaload, 1)) (List.mem_of_getElem? (i := 7) rfl)
theorem dL_law_890 : decode cL_law 890 = .ok (.aload_n 0, 1) := dgL_law_14 (890, (.aload_n 0, 1)) (List.mem_of_getElem? (i := 8) rfl)
theorem dL_law_891 : decode cL_law 891 = .ok (.iload_n 3, 1) := dgL_law_14 (891, (.iload_n 3, 1)) (List.mem_of_getElem? (i := 9) rfl)
theorem dL_law_892 : decode cL_law 892 = .ok (.iconst 2, 1) := dgL_law_14 (892, (.iconst 2, 1)) (List.mem_of_getElem? (i := 10) rfl)
theorem dL_law_893 : decode cL_law 893 = .ok (.iadd, 1) := dgL_law_14 (893, (.iadd, 1)) (List.mem_of_getElem? (i := 11) rfl)
theorem dL_law_894 : decode cL_law 894 = .ok (.iaload, 1) := dgL_law_14 (894, (.iaload, 1)) (List.mem_of_getElem? (i := 12) rfl)
theorem dL_law_895 : decode cL_law 895 = .ok (.aload_n 0, 1) := dgL_law_14 (895, (.aload_n 0, 1)) (List.mem_of_getElem? (i := 13) rfl)
theorem dL_law_896 : decode cL_law 896 = .ok (.iload_n 3, 1) := dgL_law_14 (896, (.iload_n 3, 1)) (List.mem_of_getElem? (i := 14) rfl)
theorem dL_law_897 : decode cL_law 897 = .ok (.iconst 3, 1) := dgL_law_14 (897, (.iconst 3, 1)) (List.mem_of_getElem? (i := 15) rfl)
theorem dL_law_898 : decode cL_law 898 = .ok (.iadd, 1) := dgL_law_14 (898, (.iadd, 1)) (List.mem_of_getElem? (i := 16) rfl)
theorem dL_law_899 : decode cL_law 899 = .ok (.iaload, 1) := dgL_law_14 (899, (.iaload, 1)) (List.mem_of_getElem? (i := 17) rfl)
theorem dL_law_900 : decode cL_law 900 = .ok (.invokevirtual 99, 3) := dgL_law_14 (900, (.invokevirtual 99, 3)) (List.mem_of_getElem? (i := 18) rfl)
theorem dL_law_903 : decode cL_law 903 = .ok (.pop, 1) := dgL_law_14 (903, (.pop, 1)) (List.mem_of_getElem? (i := 19) rfl)
theorem dL_law_904 : decode cL_law 904 = .ok (.aload_n 2, 1) := dgL_law_14 (904, (.aload_n 2, 1)) (List.mem_of_getElem? (i := 20) rfl)
theorem dL_law_905 : decode cL_law 905 = .ok (.aload_n 0, 1) := dgL_law_14 (905, (.aload_n 0, 1)) (List.mem_of_getElem? (i := 21) rfl)
theorem dL_law_906 : decode cL_law 906 = .ok (.iload_n 3, 1) := dgL_law_14 (906, (.iload_n 3, 1)) (List.mem_of_getElem? (i := 22) rfl)
theorem dL_law_907 : decode cL_law 907 = .ok (.iconst 1, 1) := dgL_law_14 (907, (.iconst 1, 1)) (List.mem_of_getElem? (i := 23) rfl)
theorem dL_law_908 : decode cL_law 908 = .ok (.iadd, 1) := dgL_law_14 (908, (.iadd, 1)) (List.mem_of_getElem? (i := 24) rfl)
theorem dL_law_909 : decode cL_law 909 = .ok (.iaload, 1) := dgL_law_14 (909, (.iaload, 1)) (List.mem_of_getElem? (i := 25) rfl)
theorem dL_law_910 : decode cL_law 910 = .ok (.aload_n 0, 1) := dgL_law_14 (910, (.aload_n 0, 1)) (List.mem_of_getElem? (i := 26) rfl)
theorem dL_law_911 : decode cL_law 911 = .ok (.iload_n 3, 1) := dgL_law_14 (911, (.iload_n 3, 1)) (List.mem_of_getElem? (i := 27) rfl)
theorem dL_law_912 : decode cL_law 912 = .ok (.iconst 2, 1) := dgL_law_14 (912, (.iconst 2, 1)) (List.mem_of_getElem? (i := 28) rfl)
theorem dL_law_913 : decode cL_law 913 = .ok (.iadd, 1) := dgL_law_14 (913, (.iadd, 1)) (List.mem_of_getElem? (i := 29) rfl)
theorem dL_law_914 : decode cL_law 914 = .ok (.iaload, 1) := dgL_law_14 (914, (.iaload, 1)) (List.mem_of_getElem? (i := 30) rfl)
theorem dL_law_915 : decode cL_law 915 = .ok (.aload_n 0, 1) := dgL_law_14 (915, (.aload_n 0, 1)) (List.mem_of_getElem? (i := 31) rfl)
theorem dL_law_916 : decode cL_law 916 = .ok (.iload_n 3, 1) := dgL_law_14 (916, (.iload_n 3, 1)) (List.mem_of_getElem? (i := 32) rfl)
theorem dL_law_917 : decode cL_law 917 = .ok (.iconst 3, 1) := dgL_law_14 (917, (.iconst 3, 1)) (List.mem_of_getElem? (i := 33) rfl)
theorem dL_law_918 : decode cL_law 918 = .ok (.iadd, 1) := dgL_law_14 (918, (.iadd, 1)) (List.mem_of_getElem? (i := 34) rfl)
theorem dL_law_919 : decode cL_law 919 = .ok (.iaload, 1) := dgL_law_14 (919, (.iaload, 1)) (List.mem_of_getElem? (i := 35) rfl)
theorem dL_law_920 : decode cL_law 920 = .ok (.invokevirtual 102, 3) := dgL_law_14 (920, (.invokevirtual 102, 3)) (List.mem_of_getElem? (i := 36) rfl)
theorem dL_law_923 : decode cL_law 923 = .ok (.pop, 1) := dgL_law_14 (923, (.pop, 1)) (List.mem_of_getElem? (i := 37) rfl)
theorem dL_law_924 : decode cL_law 924 = .ok (.goto 724, 3) := dgL_law_14 (924, (.goto 724, 3)) (List.mem_of_getElem? (i := 38) rfl)
theorem dL_law_927 : decode cL_law 927 = .ok (.aload_n 1, 1) := dgL_law_14 (927, (.aload_n 1, 1)) (List.mem_of_getElem? (i := 39) rfl)
theorem dgL_law_15 : ∀ r ∈ ([(928, (.aload_n 0, 1)), (929, (.iload_n 3, 1)), (930, (.iconst 1, 1)), (931, (.iadd, 1)), (932, (.iaload, 1)), (933, (.invokevirtual 103, 3)), (936, (.pop, 1)), (937, (.aload_n 2, 1)), (938, (.aload_n 0, 1)), (939, (.iload_n 3, 1)), (940, (.iconst 1, 1)), (941, (.iadd, 1)), (942, (.iaload, 1)), (943, (.invokevirtual 106, 3)), (946, (.pop, 1)), (947, (.goto 701, 3)), (950, (.aload_n 1, 1)), (951, (.aload_n 0, 1)), (952, (.iload_n 3, 1)), (953, (.iconst 1, 1)), (954, (.iadd, 1)), (955, (.iaload, 1)), (956, (.aload_n 0, 1)), (957, (.iload_n 3, 1)), (958, (.iconst 2, 1)), (959, (.iadd, 1)), (960, (.iaload, 1)), (961, (.aload_n 0, 1)), (962, (.iload_n 3, 1)), (963, (.iconst 3, 1)), (964, (.iadd, 1)), (965, (.iaload, 1)), (966, (.aload_n 0, 1)), (967, (.iload_n 3, 1)), (968, (.iconst 4, 1)), (969, (.iadd, 1)), (970, (.iaload, 1)), (971, (.invokevirtual 107, 3)), (974, (.pop, 1)), (975, (.aload_n 2, 1))] : List (Nat × (Instr × Nat))), decode cL_law r.1 = .ok r.2 := by decide +kernel
theorem dL_law_928 : decode cL_law 928 = .ok (.aload_n 0, 1) := dgL_law_15 (928, (.aload_n 0, 1)) (List.mem_of_getElem? (i := 0) rfl)
theorem dL_law_929 : decode cL_law 929 = .ok (.iload_n 3, 1) := dgL_law_15 (929, (.iload_n 3, 1)) (List.mem_of_getElem? (i := 1) rfl)
theorem dL_law_930 : decode cL_law 930 = .ok (.iconst 1, 1) := dgL_law_15 (930, (.iconst 1, 1)) (List.mem_of_getElem? (i := 2) rfl)
theorem dL_law_931 : decode cL_law 931 = .ok (.iadd, 1) := dgL_law_15 (931, (.iadd, 1)) (List.mem_of_getElem? (i := 3) rfl)
theorem dL_law_932 : decode cL_law 932 = .ok (.iaload, 1) := dgL_law_15 (932, (.iaload, 1)) (List.mem_of_getElem? (i := 4) rfl)
theorem dL_law_933 : decode cL_law 933 = .ok (.invokevirtual 103, 3) := dgL_law_15 (933, (.invokevirtual 103, 3)) (List.mem_of_getElem? (i := 5) rfl)
theorem dL_law_936 : decode cL_law 936 = .ok (.pop, 1) := dgL_law_15 (936, (.pop, 1)) (List.mem_of_getElem? (i := 6) rfl)
theorem dL_law_937 : decode cL_law 937 = .ok (.aload_n 2, 1) := dgL_law_15 (937, (.aload_n 2, 1)) (List.mem_of_getElem? (i := 7) rfl)
theorem dL_law_938 : decode cL_law 938 = .ok (.aload_n 0, 1) := dgL_law_15 (938, (.aload_n 0, 1)) (List.mem_of_getElem? (i := 8) rfl)
theorem dL_law_939 : decode cL_law 939 = .ok (.iload_n 3, 1) := dgL_law_15 (939, (.iload_n 3, 1)) (List.mem_of_getElem? (i := 9) rfl)
theorem dL_law_940 : decode cL_law 940 = .ok (.iconst 1, 1) := dgL_law_15 (940, (.iconst 1, 1)) (List.mem_of_getElem? (i := 10) rfl)
theorem dL_law_941 : decode cL_law 941 = .ok (.iadd, 1) := dgL_law_15 (941, (.iadd, 1)) (List.mem_of_getElem? (i := 11) rfl)
theorem dL_law_942 : decode cL_law 942 = .ok (.iaload, 1) := dgL_law_15 (942, (.iaload, 1)) (List.mem_of_getElem? (i := 12) rfl)
theorem dL_law_943 : decode cL_law 943 = .ok (.invokevirtual 106, 3) := dgL_law_15 (943, (.invokevirtual 106, 3)) (List.mem_of_getElem? (i := 13) rfl)
theorem dL_law_946 : decode cL_law 946 = .ok (.pop, 1) := dgL_law_15 (946, (.pop, 1)) (List.mem_of_getElem? (i := 14) rfl)
theorem dL_law_947 : decode cL_law 947 = .ok (.goto 701, 3) := dgL_law_15 (947, (.goto 701, 3)) (List.mem_of_getElem? (i := 15) rfl)
theorem dL_law_950 : decode cL_law 950 = .ok (.aload_n 1, 1) := dgL_law_15 (950, (.aload_n 1, 1)) (List.mem_of_getElem? (i := 16) rfl)
theorem dL_law_951 : decode cL_law 951 = .ok (.aload_n 0, 1) := dgL_law_15 (951, (.aload_n 0, 1)) (List.mem_of_getElem? (i := 17) rfl)
theorem dL_law_952 : decode cL_law 952 = .ok (.iload_n 3, 1) := dgL_law_15 (952, (.iload_n 3, 1)) (List.mem_of_getElem? (i := 18) rfl)
theorem dL_law_953 : decode cL_law 953 = .ok (.iconst 1, 1) := dgL_law_15 (953, (.iconst 1, 1)) (List.mem_of_getElem? (i := 19) rfl)
theorem dL_law_954 : decode cL_law 954 = .ok (.iadd, 1) := dgL_law_15 (954, (.iadd, 1)) (List.mem_of_getElem? (i := 20) rfl)
theorem dL_law_955 : decode cL_law 955 = .ok (.iaload, 1) := dgL_law_15 (955, (.iaload, 1)) (List.mem_of_getElem? (i := 21) rfl)
theorem dL_law_956 : decode cL_law 956 = .ok (.aload_n 0, 1) := dgL_law_15 (956, (.aload_n 0, 1)) (List.mem_of_getElem? (i := 22) rfl)
theorem dL_law_957 : decode cL_law 957 = .ok (.iload_n 3, 1) := dgL_law_15 (957, (.iload_n 3, 1)) (List.mem_of_getElem? (i := 23) rfl)
theorem dL_law_958 : decode cL_law 958 = .ok (.iconst 2, 1) := dgL_law_15 (958, (.iconst 2, 1)) (List.mem_of_getElem? (i := 24) rfl)
theorem dL_law_959 : decode cL_law 959 = .ok (.iadd, 1) := dgL_law_15 (959, (.iadd, 1)) (List.mem_of_getElem? (i := 25) rfl)
theorem dL_law_960 : decode cL_law 960 = .ok (.iaload, 1) := dgL_law_15 (960, (.iaload, 1)) (List.mem_of_getElem? (i := 26) rfl)
theorem dL_law_961 : decode cL_law 961 = .ok (.aload_n 0, 1) := dgL_law_15 (961, (.aload_n 0, 1)) (List.mem_of_getElem? (i := 27) rfl)
theorem dL_law_962 : decode cL_law 962 = .ok (.iload_n 3, 1) := dgL_law_15 (962, (.iload_n 3, 1)) (List.mem_of_getElem? (i := 28) rfl)
theorem dL_law_963 : decode cL_law 963 = .ok (.iconst 3, 1) := dgL_law_15 (963, (.iconst 3, 1)) (List.mem_of_getElem? (i := 29) rfl)
theorem dL_law_964 : decode cL_law 964 = .ok (.iadd, 1) := dgL_law_15 (964, (.iadd, 1)) (List.mem_of_getElem? (i := 30) rfl)
theorem dL_law_965 : decode cL_law 965 = .ok (.iaload, 1) := dgL_law_15 (965, (.iaload, 1)) (List.mem_of_getElem? (i := 31) rfl)
theorem dL_law_966 : decode cL_law 966 = .ok (.aload_n 0, 1) := dgL_law_15 (966, (.aload_n 0, 1)) (List.mem_of_getElem? (i := 32) rfl)
theorem dL_law_967 : decode cL_law 967 = .ok (.iload_n 3, 1) := dgL_law_15 (967, (.iload_n 3, 1)) (List.mem_of_getElem? (i := 33) rfl)
theorem dL_law_968 : decode cL_law 968 = .ok (.iconst 4, 1) := dgL_law_15 (968, (.iconst 4, 1)) (List.mem_of_getElem? (i := 34) rfl)
theorem dL_law_969 : decode cL_law 969 = .ok (.iadd, 1) := dgL_law_15 (969, (.iadd, 1)) (List.mem_of_getElem? (i := 35) rfl)
theorem dL_law_970 : decode cL_law 970 = .ok (.iaload, 1) := dgL_law_15 (970, (.iaload, 1)) (List.mem_of_getElem? (i := 36) rfl)
theorem dL_law_971 : decode cL_law 971 = .ok (.invokevirtual 107, 3) := dgL_law_15 (971, (.invokevirtual 107, 3)) (List.mem_of_getElem? (i := 37) rfl)
theorem dL_law_974 : decode cL_law 974 = .ok (.pop, 1) := dgL_law_15 (974, (.pop, 1)) (List.mem_of_getElem? (i := 38) rfl)
theorem dL_law_975 : decode cL_law 975 = .ok (.aload_n 2, 1) := dgL_law_15 (975, (.aload_n 2, 1)) (List.mem_of_getElem? (i := 39) rfl)
